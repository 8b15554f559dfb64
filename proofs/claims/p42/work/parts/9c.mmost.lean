-- joined by tools/merge.py: 9c.mmost, 9d.mmost, 9e.mmost, 9f.cduel, 9g.cduel, 9h.mduel, 9i.mduel, 9j.cord
section
/-! most: the reference's order of ways, in words of its own -/
def foldF {β : Type} (f : Int → β → β) : Int → Nat → β → β
  | _, 0, b => b
  | a, m + 1, b => foldF f (a + 1) m (f a b)
theorem foldF_end {β : Type} {f : Int → β → β} : ∀ (m : Nat) (a : Int) (b : β), foldF f a (m + 1) b = f (a + m) (foldF f a m b)
  | 0, a, b => by show f a b = f (a + ((0 : Nat) : Int)) b; rw [Int.natCast_zero, Int.add_zero]
  | m + 1, a, b => by
    rw [foldF, foldF_end m (a + 1) (f a b), foldF, show a + 1 + (m : Int) = a + ((m + 1 : Nat) : Int) by omega]
theorem foldL_F {β : Type} {f : Int → β → β} : ∀ (m : Nat) (b : β), foldL f m b = foldF f 0 m b
  | 0, b => rfl
  | m + 1, b => by rw [foldF_end, ← foldL_F m b, foldL, Int.zero_add]
/-- one visit, if his draws are from the lines told -/
def aSt (g : aGd) (vs : List aVt) (p : Int) (cs : Int → Int) (pg : aPg) (k : Nat) : aPg := (aHap g pg ((vs.getD k aV0).1, (vs.getD k aV0).2.1, (if aOwn vs p (k : Int) = true then cs (k : Int) else (vs.getD k aV0).2.2.1), (vs.getD k aV0).2.2.2)).2
def aPgs (g : aGd) (vs : List aVt) (p : Int) (pg : aPg) (cs : Int → Int) : Nat → aPg
  | 0 => pg
  | k + 1 => aSt g vs p cs (aPgs g vs p pg cs k) k
def aCs (vs : List aVt) (p : Int) (cs : Int → Int) : Nat → Int → Int
  | 0 => fun _ => -4
  | k + 1 => fp_ui (aCs vs p cs k) (k : Int) (if aOwn vs p (k : Int) = true then cs (k : Int) else -4)
theorem aSt_own {g : aGd} {vs : List aVt} {p : Int} {cs : Int → Int} {pg : aPg} {k : Nat} (h : aOwn vs p (k : Int) = true) : aSt g vs p cs pg k = aDraw g pg p (cs (k : Int)) := by
  have h' := h
  unfold aOwn at h'
  rw [Int.toNat_natCast] at h'
  have h2 := of_decide_eq_true h'
  unfold aSt aHap
  rw [if_pos h]
  dsimp only
  rw [if_pos h2.2, h2.1]
theorem aSt_else {g : aGd} {vs : List aVt} {p : Int} {cs : Int → Int} {pg : aPg} {k : Nat} (h : ¬ aOwn vs p (k : Int) = true) (hk : k < vs.length) : aSt g vs p cs pg k = (aHapI g pg vs (k : Int)).2 := by
  unfold aSt aHapI
  rw [if_neg h, if_pos (by omega), Int.toNat_natCast]
theorem aPgs_congr {g : aGd} {vs : List aVt} {p : Int} {pg : aPg} {cs cs' : Int → Int} : ∀ k : Nat, (∀ j : Int, 0 ≤ j → j < k → cs j = cs' j) → aPgs g vs p pg cs k = aPgs g vs p pg cs' k
  | 0, _ => rfl
  | k + 1, h => by
    rw [aPgs, aPgs, aPgs_congr k (fun j j0 j1 => h j j0 (by omega))]
    unfold aSt
    rw [h (k : Int) (by omega) (by omega)]
theorem aCs_congr {vs : List aVt} {p : Int} {cs cs' : Int → Int} : ∀ k : Nat, (∀ j : Int, 0 ≤ j → j < k → cs j = cs' j) → aCs vs p cs k = aCs vs p cs' k
  | 0, _ => rfl
  | k + 1, h => by rw [aCs, aCs, aCs_congr k (fun j j0 j1 => h j j0 (by omega)), h (k : Int) (by omega) (by omega)]
theorem aCs_at {vs : List aVt} {p : Int} {cs : Int → Int} : ∀ (k : Nat) (j : Int), 0 ≤ j → j < k → aCs vs p cs k j = if aOwn vs p j = true then cs j else -4
  | 0, j, h0, h1 => by omega
  | k + 1, j, h0, h1 => by
    rw [aCs]
    by_cases e : j = (k : Int)
    · subst e; rw [fp_ui_at]
    · rw [fp_ui_ne e]; exact aCs_at k j h0 (by omega)
/-- the next lines: from the last visit back; the visit, none is -4 -/
def nxD (vs : List aVt) (p L : Int) : Nat → (Int → Int) → Int × (Int → Int)
  | 0, cs => (-4, cs)
  | n + 1, cs => if aOwn vs p (n : Int) = true then (if cs (n : Int) + 1 < L then ((n : Int), fp_ui cs (n : Int) (cs (n : Int) + 1)) else nxD vs p L n (fp_ui cs (n : Int) 0)) else nxD vs p L n cs
theorem nxD_in {vs : List aVt} {p L : Int} : ∀ (n : Nat) (cs : Int → Int), (nxD vs p L n cs).1 = -4 ∨ (0 ≤ (nxD vs p L n cs).1 ∧ (nxD vs p L n cs).1 < n)
  | 0, cs => Or.inl rfl
  | n + 1, cs => by
    rw [nxD]
    split
    · split
      · right; show 0 ≤ (n : Int) ∧ (n : Int) < ((n + 1 : Nat) : Int); omega
      · have := nxD_in (vs := vs) (p := p) (L := L) n (fp_ui cs (n : Int) 0); omega
    · have := nxD_in (vs := vs) (p := p) (L := L) n cs; omega
theorem nxD_hi {vs : List aVt} {p L : Int} : ∀ (n : Nat) (cs : Int → Int) (j : Int), (n : Int) ≤ j → (nxD vs p L n cs).2 j = cs j
  | 0, cs, j, _ => rfl
  | n + 1, cs, j, h => by
    rw [nxD]
    split
    · split
      · show fp_ui cs (n : Int) _ j = cs j; rw [fp_ui_ne (by omega)]
      · rw [nxD_hi n _ j (by omega), fp_ui_ne (by omega)]
    · exact nxD_hi n cs j (by omega)
theorem nxD_rng {vs : List aVt} {p L : Int} (hL : 0 < L) : ∀ (n : Nat) (cs : Int → Int), (∀ j, 0 ≤ cs j ∧ cs j < L) → ∀ j, 0 ≤ (nxD vs p L n cs).2 j ∧ (nxD vs p L n cs).2 j < L
  | 0, cs, h, j => h j
  | n + 1, cs, h, j => by
    rw [nxD]
    split
    · split
      · show 0 ≤ fp_ui cs (n : Int) _ j ∧ fp_ui cs (n : Int) _ j < L
        by_cases e : j = (n : Int)
        · subst e; rw [fp_ui_at]; have := h (n : Int); omega
        · rw [fp_ui_ne e]; exact h j
      · refine nxD_rng hL n _ (fun i => ?_) j
        by_cases e : i = (n : Int)
        · subst e; rw [fp_ui_at]; omega
        · rw [fp_ui_ne e]; exact h i
    · exact nxD_rng hL n cs h j
theorem nxD_lo {vs : List aVt} {p L : Int} : ∀ (n : Nat) (cs : Int → Int) (j : Int), 0 ≤ j → j < (nxD vs p L n cs).1 → (nxD vs p L n cs).2 j = cs j
  | 0, cs, j, h0, h1 => by exfalso; have : (nxD vs p L 0 cs).1 = -4 := rfl; omega
  | n + 1, cs, j, h0, h1 => by
    rw [nxD] at h1 ⊢
    by_cases e1 : aOwn vs p (n : Int) = true
    · rw [if_pos e1] at h1 ⊢
      by_cases e2 : cs (n : Int) + 1 < L
      · rw [if_pos e2] at h1 ⊢
        have h1' : j < (n : Int) := h1
        show fp_ui cs (n : Int) _ j = cs j; rw [fp_ui_ne (by omega)]
      · rw [if_neg e2] at h1 ⊢
        have hi := nxD_in (vs := vs) (p := p) (L := L) n (fp_ui cs (n : Int) 0)
        rw [nxD_lo n _ j h0 h1, fp_ui_ne (by omega)]
    · rw [if_neg e1] at h1 ⊢
      exact nxD_lo n cs j h0 h1
/-- behind the visit found his draws begin anew -/
theorem nxD_zero {vs : List aVt} {p L : Int} : ∀ (n : Nat) (cs : Int → Int) (j : Int), (nxD vs p L n cs).1 ≠ -4 → (nxD vs p L n cs).1 < j → j < n → aOwn vs p j = true → (nxD vs p L n cs).2 j = 0
  | 0, cs, j, h0, _, _, _ => absurd rfl h0
  | n + 1, cs, j, h0, h1, h2, ho => by
    rw [nxD] at h0 h1 ⊢
    by_cases e1 : aOwn vs p (n : Int) = true
    · rw [if_pos e1] at h0 h1 ⊢
      by_cases e2 : cs (n : Int) + 1 < L
      · rw [if_pos e2] at h1
        have h1' : (n : Int) < j := h1
        omega
      · rw [if_neg e2] at h0 h1 ⊢
        by_cases e : j = (n : Int)
        · rw [nxD_hi n _ j (by omega), e, fp_ui_at]
        · exact nxD_zero n _ j h0 h1 (by omega) ho
    · rw [if_neg e1] at h0 h1 ⊢
      by_cases e : j = (n : Int)
      · subst e; exact absurd ho e1
      · exact nxD_zero n cs j h0 h1 (by omega) ho
/-- how many ways are left -/
def nxM (vs : List aVt) (p L : Int) (cs : Int → Int) : Nat → Nat
  | 0 => 0
  | n + 1 => 3 * nxM vs p L cs n + if aOwn vs p (n : Int) = true then (L - 1 - cs (n : Int)).toNat else 0
theorem nxM_congr {vs : List aVt} {p L : Int} {cs cs' : Int → Int} : ∀ n : Nat, (∀ j : Int, 0 ≤ j → j < n → cs j = cs' j) → nxM vs p L cs n = nxM vs p L cs' n
  | 0, _ => rfl
  | n + 1, h => by rw [nxM, nxM, nxM_congr n (fun j j0 j1 => h j j0 (by omega)), h (n : Int) (by omega) (by omega)]
theorem nxM_lt {vs : List aVt} {p L : Int} (hL : 0 < L ∧ L ≤ 3) : ∀ (n : Nat) (cs : Int → Int), (∀ j, 0 ≤ cs j ∧ cs j < L) → (nxD vs p L n cs).1 ≠ -4 → nxM vs p L (nxD vs p L n cs).2 n < nxM vs p L cs n
  | 0, cs, _, h => absurd rfl h
  | n + 1, cs, hr, h => by
    have hrn := hr (n : Int)
    rw [nxM, nxM]
    rw [nxD] at h ⊢
    by_cases e1 : aOwn vs p (n : Int) = true
    · rw [if_pos e1, if_pos e1]
      rw [if_pos e1] at h ⊢
      by_cases e2 : cs (n : Int) + 1 < L
      · rw [if_pos e2]
        dsimp only
        rw [fp_ui_at, nxM_congr (cs := fp_ui cs (n : Int) (cs (n : Int) + 1)) (cs' := cs) n (fun j j0 j1 => fp_ui_ne (by omega))]
        omega
      · rw [if_neg e2] at h ⊢
        have hr2 : ∀ j, 0 ≤ fp_ui cs (n : Int) 0 j ∧ fp_ui cs (n : Int) 0 j < L := fun i => by
          by_cases e : i = (n : Int)
          · subst e; rw [fp_ui_at]; omega
          · rw [fp_ui_ne e]; exact hr i
        have ih := nxM_lt hL n _ hr2 h
        rw [nxM_congr (cs := fp_ui cs (n : Int) 0) (cs' := cs) n (fun j j0 j1 => fp_ui_ne (by omega))] at ih
        rw [nxD_hi n _ _ (by omega), fp_ui_at]
        omega
    · rw [if_neg e1, if_neg e1]
      rw [if_neg e1] at h ⊢
      have ih := nxM_lt hL n cs hr h
      omega
def moF (g : aGd) (vs : List aVt) (p : Int) (pg : aPg) (cs : Int → Int) (n : Nat) : Int → moT → moT := fun x b => moC g vs p (vs.length - n - 1) (n + 1) (aDraw g (aPgs g vs p pg cs n) p x) (fp_ui (aCs vs p cs n) (n : Int) x) b
/-- what is left behind the lines told of the first n visits -/
def moX (g : aGd) (vs : List aVt) (p : Int) (pg : aPg) (cs : Int → Int) : Nat → moT → moT
  | 0, b => b
  | n + 1, b => moX g vs p pg cs n (if aOwn vs p (n : Int) = true then foldF (moF g vs p pg cs n) (cs (n : Int) + 1) (g.2.1 - (cs (n : Int) + 1)).toNat b else b)
theorem moF_congr {g : aGd} {vs : List aVt} {p : Int} {pg : aPg} {cs cs' : Int → Int} (n : Nat) (h : ∀ j : Int, 0 ≤ j → j < n → cs j = cs' j) : moF g vs p pg cs n = moF g vs p pg cs' n := by
  unfold moF
  rw [aPgs_congr n h, aCs_congr n h]
theorem moX_congr {g : aGd} {vs : List aVt} {p : Int} {pg : aPg} {cs cs' : Int → Int} : ∀ (n : Nat) (b : moT), (∀ j : Int, 0 ≤ j → j < n → cs j = cs' j) → moX g vs p pg cs n b = moX g vs p pg cs' n b
  | 0, b, _ => rfl
  | n + 1, b, h => by
    have h' : ∀ j : Int, 0 ≤ j → j < n → cs j = cs' j := fun j j0 j1 => h j j0 (by omega)
    rw [moX, moX, moF_congr n h', h (n : Int) (by omega) (by omega)]
    exact moX_congr n _ h'
theorem moX_exp {g : aGd} {vs : List aVt} {p : Int} {pg : aPg} {cs : Int → Int} {b : moT} (hL : 0 < g.2.1) : ∀ (d k : Nat), k + d = vs.length → (∀ j : Int, (k : Int) ≤ j → j < vs.length → aOwn vs p j = true → cs j = 0) → moX g vs p pg cs vs.length (moU (aWorth g (aPgs g vs p pg cs vs.length) p) (aCs vs p cs vs.length) b) = moX g vs p pg cs k (moC g vs p d k (aPgs g vs p pg cs k) (aCs vs p cs k) b)
  | 0, k, h, _ => by
    have e : vs.length = k := by omega
    rw [moC, e]
  | d + 1, k, h, hz => by
    rw [moX_exp hL d (k + 1) (by omega) (fun j j0 j1 jo => hz j (by omega) j1 jo), moX]
    congr 1
    by_cases ho : aOwn vs p (k : Int) = true
    · rw [if_pos ho, moC_own ho, aPgs, aCs, aSt_own ho, if_pos ho, hz (k : Int) (by omega) (by omega) ho, foldL_F]
      obtain ⟨m, hm⟩ : ∃ m, g.2.1.toNat = m + 1 := ⟨g.2.1.toNat - 1, by omega⟩
      rw [hm, show (g.2.1 - (0 + 1)).toNat = m by omega, foldF]
      have ed : vs.length - k - 1 = d := by omega
      unfold moF
      rw [ed]
    · rw [if_neg ho, moC_else ho, aPgs, aCs, aSt_else ho (by omega), if_neg ho]
theorem moX_none {g : aGd} {vs : List aVt} {p : Int} {pg : aPg} {b : moT} : ∀ (n : Nat) (cs : Int → Int), (nxD vs p g.2.1 n cs).1 = -4 → moX g vs p pg cs n b = b
  | 0, cs, _ => rfl
  | n + 1, cs, h => by
    rw [nxD] at h
    rw [moX]
    by_cases e1 : aOwn vs p (n : Int) = true
    · rw [if_pos e1] at h
      rw [if_pos e1]
      by_cases e2 : cs (n : Int) + 1 < g.2.1
      · rw [if_pos e2] at h
        have : (n : Int) = -4 := h
        omega
      · rw [if_neg e2] at h
        rw [show (g.2.1 - (cs (n : Int) + 1)).toNat = 0 by omega, foldF, moX_congr (cs' := fp_ui cs (n : Int) 0) n _ (fun j j0 j1 => (fp_ui_ne (by omega)).symm)]
        exact moX_none n _ h
    · rw [if_neg e1] at h ⊢
      exact moX_none n cs h
theorem moX_some {g : aGd} {vs : List aVt} {p : Int} {pg : aPg} {b : moT} : ∀ (n : Nat) (cs : Int → Int) (f : Nat), n ≤ vs.length → (nxD vs p g.2.1 n cs).1 = (f : Int) → moX g vs p pg cs n b = moX g vs p pg (nxD vs p g.2.1 n cs).2 (f + 1) (moC g vs p (vs.length - f - 1) (f + 1) (aPgs g vs p pg (nxD vs p g.2.1 n cs).2 (f + 1)) (aCs vs p (nxD vs p g.2.1 n cs).2 (f + 1)) b)
  | 0, cs, f, _, h => by exfalso; have : (nxD vs p g.2.1 0 cs).1 = -4 := rfl; omega
  | n + 1, cs, f, hn, h => by
    rw [nxD] at h ⊢
    by_cases e1 : aOwn vs p (n : Int) = true
    · rw [if_pos e1] at h ⊢
      by_cases e2 : cs (n : Int) + 1 < g.2.1
      · rw [if_pos e2] at h ⊢
        have hf : n = f := by
          have : (n : Int) = (f : Int) := h
          omega
        subst hf
        have hc : ∀ j : Int, 0 ≤ j → j < n → fp_ui cs (n : Int) (cs (n : Int) + 1) j = cs j := fun j j0 j1 => fp_ui_ne (by omega)
        dsimp only
        rw [moX, moX, if_pos e1, if_pos e1, fp_ui_at, moF_congr n hc, aPgs, aCs, aSt_own e1, if_pos e1, fp_ui_at, aPgs_congr n hc, aCs_congr n hc, moX_congr n _ hc]
        obtain ⟨m, hm⟩ : ∃ m, (g.2.1 - (cs (n : Int) + 1)).toNat = m + 1 := ⟨(g.2.1 - (cs (n : Int) + 1)).toNat - 1, by omega⟩
        rw [hm, show (g.2.1 - (cs (n : Int) + 1 + 1)).toNat = m by omega, foldF]
        rfl
      · rw [if_neg e2] at h ⊢
        rw [moX, if_pos e1, show (g.2.1 - (cs (n : Int) + 1)).toNat = 0 by omega, foldF, moX_congr (cs' := fp_ui cs (n : Int) 0) n _ (fun j j0 j1 => (fp_ui_ne (by omega)).symm)]
        exact moX_some n _ f (by omega) h
    · rw [if_neg e1] at h ⊢
      rw [moX, if_neg e1]
      exact moX_some n cs f (by omega) h
/-- one way more -/
theorem moX_step {g : aGd} {vs : List aVt} {p : Int} {pg : aPg} {b : moT} {cs : Int → Int} (hL : 0 < g.2.1) (h : (nxD vs p g.2.1 vs.length cs).1 ≠ -4) : moX g vs p pg cs vs.length b = moX g vs p pg (nxD vs p g.2.1 vs.length cs).2 vs.length (moU (aWorth g (aPgs g vs p pg (nxD vs p g.2.1 vs.length cs).2 vs.length) p) (aCs vs p (nxD vs p g.2.1 vs.length cs).2 vs.length) b) := by
  have hi := nxD_in (vs := vs) (p := p) (L := g.2.1) vs.length cs
  obtain ⟨f, hf⟩ : ∃ f : Nat, (nxD vs p g.2.1 vs.length cs).1 = (f : Int) := ⟨(nxD vs p g.2.1 vs.length cs).1.toNat, by omega⟩
  rw [moX_some vs.length cs f (Nat.le_refl _) hf, moX_exp hL (vs.length - f - 1) (f + 1) (by omega) (fun j j0 j1 jo => nxD_zero vs.length cs j h (by omega) j1 jo)]
theorem aMo_first {g : aGd} {vs : List aVt} {p : Int} {pg : aPg} (hL : 0 < g.2.1) : aMo g pg vs p = moX g vs p pg (fun _ => 0) vs.length (moU (aWorth g (aPgs g vs p pg (fun _ => 0) vs.length) p) (aCs vs p (fun _ => 0) vs.length) (-4, fun _ => 0)) := by
  rw [moX_exp hL vs.length 0 (by omega) (fun _ _ _ _ => rfl)]
  rfl
end
section
/-! most: the reference, levels, runs, the next lines -/
def mqRow (f : Nat → Int) (a : Int) (g : aGd) (pg : aPg) : Prop := (∀ t, 0 ≤ t → t < g.1 → f (a + t).toNat = pg.1 t) ∧ ∀ x, 0 ≤ x → x < 3 → f (a + 10 + 9 * x).toNat = (pg.2.2 x).length ∧ ∀ i : Int, 0 ≤ i → i < (pg.2.2 x).length → f (a + 10 + 9 * x + 1 + i).toNat = (pg.2.2 x).getD i.toNat 0
theorem mqRow.mp {f : Nat → Int} {a : Int} {g : aGd} {pg : aPg} (h : mqRow f a g pg) : mpRow f a g (pg.1, fun t => f (a + 37 + t).toNat, pg.2.2) := ⟨h.1, fun _ _ _ _ => rfl, h.2⟩
theorem mpRow.mq {f : Nat → Int} {a : Int} {g : aGd} {pg : aPg} (h : mpRow f a g pg) : mqRow f a g pg := ⟨h.1, h.2.2⟩
theorem mqRow.mov {f h : Nat → Int} {a b : Int} {g : aGd} {pg : aPg} (hg : gOk g) (hP : pgOk g pg) (q : mqRow f a g pg) (e : ∀ j : Int, 0 ≤ j → j < 40 → h (b + j).toNat = f (a + j).toNat) : mqRow h b g pg := by
  have hg1 := hg.1
  refine ⟨fun t t0 t1 => by rw [e t t0 (by omega)]; exact q.1 t t0 t1, fun x x0 x1 => ?_⟩
  obtain ⟨q1, q2⟩ := q.2 x x0 x1
  have hl := (hP.2.1 x x0 x1).1
  refine ⟨?_, fun i i0 i1 => ?_⟩
  · have := e (10 + 9 * x) (by omega) (by omega)
    rw [show b + (10 + 9 * x) = b + 10 + 9 * x by omega, show a + (10 + 9 * x) = a + 10 + 9 * x by omega] at this
    rw [this]; exact q1
  · have := e (10 + 9 * x + 1 + i) (by omega) (by omega)
    rw [show b + (10 + 9 * x + 1 + i) = b + 10 + 9 * x + 1 + i by omega, show a + (10 + 9 * x + 1 + i) = a + 10 + 9 * x + 1 + i by omega] at this
    rw [this]; exact q2 i i0 i1
theorem aHap_put {g : aGd} {pg : aPg} {v : aVt} (q : Int → Int) : ∃ q', (aHap g (pg.1, q, pg.2.2) v).2 = ((aHap g pg v).2.1, q', (aHap g pg v).2.2.2) := by
  unfold aHap
  by_cases h : v.2.2.2 = -4
  · rw [if_pos h, if_pos h]
    show ∃ q', aDraw g (pg.1, q, pg.2.2) v.2.1 v.2.2.1 = ((aDraw g pg v.2.1 v.2.2.1).1, q', (aDraw g pg v.2.1 v.2.2.1).2.2)
    unfold aDraw
    by_cases h2 : pg.2.2 v.2.2.1 = []
    · rw [if_pos h2, if_pos h2]; exact ⟨q, rfl⟩
    · rw [if_neg h2, if_neg h2]; exact ⟨q, rfl⟩
  · rw [if_neg h, if_neg h]
    unfold aApp
    by_cases h2 : pg.1 v.2.2.2 = v.2.1 ∧ (pg.2.2 v.2.2.1).length < 8
    · rw [if_pos h2, if_pos h2]; exact ⟨_, rfl⟩
    · rw [if_neg h2, if_neg h2]; exact ⟨q, rfl⟩
theorem aSt_ok {g : aGd} {vs : List aVt} {p : Int} {cs : Int → Int} {pg : aPg} {k : Nat} (hg : gOk g) (hvo : vsOk g vs) (hcs : ∀ j, 0 ≤ cs j ∧ cs j < g.2.1) (hP : pgOk g pg) (hk : k < vs.length) : pgOk g (aSt g vs p cs pg k) := by
  have hv := hvo.at (i := (k : Int)) (by omega) (by omega)
  rw [Int.toNat_natCast] at hv
  unfold aSt
  refine aHap_ok hg hP ⟨hv.1, hv.2.1, ?_, hv.2.2.2⟩
  dsimp only
  split
  · exact hcs _
  · exact hv.2.2.1
theorem aPgs_ok {g : aGd} {vs : List aVt} {p : Int} {cs : Int → Int} {pg : aPg} (hg : gOk g) (hvo : vsOk g vs) (hcs : ∀ j, 0 ≤ cs j ∧ cs j < g.2.1) (hP : pgOk g pg) : ∀ k : Nat, k ≤ vs.length → pgOk g (aPgs g vs p pg cs k)
  | 0, _ => hP
  | k + 1, h => aSt_ok hg hvo hcs (aPgs_ok hg hvo hcs hP k (by omega)) (by omega)
/-- the trial's page, whoever put things in; a level -/
def trIs (M : fp_Mem) (g : aGd) (pg : aPg) : Prop := ∃ q, mpIs M 360 g (pg.1, q, pg.2.2)
def frV (M N : fp_Mem) : Prop := (∀ c, c ≠ 178 → c ≠ 189 → N c = M c) ∧ ∀ j : Nat, (j < 360 ∨ 410 ≤ j) → N 178 j = M 178 j
theorem frV.refl (M : fp_Mem) : frV M M := ⟨fun _ _ _ => rfl, fun _ _ => rfl⟩
theorem frV.trans {M N O : fp_Mem} (h1 : frV M N) (h2 : frV N O) : frV M O := ⟨fun c hc h9 => (h2.1 c hc h9).trans (h1.1 c hc h9), fun j hj => (h2.2 j hj).trans (h1.2 j hj)⟩
theorem frV.md {M N : fp_Mem} {g : aGd} (h : frV M N) (hd : mdIs M g) : mdIs N g := by
  unfold mdIs md_ok at *
  rw [h.1 177 (by decide) (by decide), h.1 179 (by decide) (by decide), h.1 180 (by decide) (by decide), h.1 181 (by decide) (by decide)]
  exact hd
theorem frV.mv {M N : fp_Mem} {vs : List aVt} (h : frV M N) (hd : mvIs M vs) : mvIs N vs := hd.kept (fun j h1 h2 => h.2 j (by omega))
section MMD
variable {l : Launch} {G : fp_WG} {M N : fp_Mem} {g : aGd} {pg : aPg} {vs : List aVt}
theorem runsFrom_loop {p f : Int} {cs : Int → Int} (hg : gOk g) (hP : pgOk g pg) (hvo : vsOk g vs) (hp : 0 ≤ p ∧ p < 4) (hcs : ∀ j, 0 ≤ cs j ∧ cs j < g.2.1) (hv : mvIs M vs) (hd : mdIs M g) (hch : ∀ j : Int, 0 ≤ j → j < vs.length → M 190 j.toNat = cs j) (f0 : 0 ≤ f) : ∀ (r : Nat) (i : Int) (N : fp_Mem), ((vs.length : Int) - i).toNat < r → f ≤ i → i ≤ vs.length → frV M N → trIs N g (aPgs g vs p pg cs i.toNat) → (∀ j : Int, 0 ≤ j → j < i → mqRow (N 189) (40 * j) g (aPgs g vs p pg cs j.toNat)) →
    fp_S l G 4 kX12_runsFrom 37 [some (rV G 177), some (iV p), some (iV f), some (iV i)] [] N (qV fun N => frV M N ∧ trIs N g (aPgs g vs p pg cs vs.length) ∧ ∀ j : Int, 0 ≤ j → j < vs.length → mqRow (N 189) (40 * j) g (aPgs g vs p pg cs j.toNat)) := by
  have hl := hv.2.1
  intro r
  induction r with
  | zero => intro i N hr; omega
  | succ r ih =>
    intro i N hr i0 i1 hf hT hlv
    have hvN := hf.mv hv
    have hdN := hf.md hd
    have h95 : N 178 95 = (vs.length : Int) := hvN.1
    by_cases he : i < vs.length
    · have hPi := aPgs_ok (p := p) hg hvo hcs hP i.toNat (by omega)
      obtain ⟨q, hq⟩ := hT
      have hPq : pgOk g ((aPgs g vs p pg cs i.toNat).1, q, (aPgs g vs p pg cs i.toNat).2.2) := hPi
      have ei : ((i.toNat : Nat) : Int) = i := by omega
      have es : aPgs g vs p pg cs (i + 1).toNat = aSt g vs p cs (aPgs g vs p pg cs i.toNat) i.toNat := by rw [show (i + 1).toNat = i.toNat + 1 by omega]; rfl
      have hnext : ∀ (N1 N2 : fp_Mem) (x : Int), svP N N1 i → x = (if aOwn vs p i = true then cs i else (vs.getD i.toNat aV0).2.2.1) → mpIs N2 360 g (aHap g ((aPgs g vs p pg cs i.toNat).1, q, (aPgs g vs p pg cs i.toNat).2.2) ((vs.getD i.toNat aV0).1, (vs.getD i.toNat aV0).2.1, x, (vs.getD i.toNat aV0).2.2.2)).2 → frM N1 N2 360 → fp_S l G 4 kX12_runsFrom 37 [some (rV G 177), some (iV p), some (iV f), some (iV (i + 1))] [] N2 (qV fun N => frV M N ∧ trIs N g (aPgs g vs p pg cs vs.length) ∧ ∀ j : Int, 0 ≤ j → j < vs.length → mqRow (N 189) (40 * j) g (aPgs g vs p pg cs j.toNat)) := by
        intro N1 N2 x s1 hx m2 f2
        have g9 : N2 189 = N1 189 := f2.1 189 (by decide)
        refine ih (i + 1) N2 (by omega) (by omega) (by omega) (hf.trans ⟨fun c h8 h9 => by rw [f2.1 c h8, s1.1 c h9], fun j hj => by rw [f2.2 j (by omega), s1.1 178 (by decide)]⟩) ?_ (fun j j0 j1 => ?_)
        · obtain ⟨q', hq'⟩ := aHap_put (g := g) (pg := aPgs g vs p pg cs i.toNat) (v := ((vs.getD i.toNat aV0).1, (vs.getD i.toNat aV0).2.1, x, (vs.getD i.toNat aV0).2.2.2)) q
          rw [hq'] at m2
          refine ⟨q', ?_⟩
          rw [es]
          unfold aSt
          rw [ei, ← hx]
          exact m2
        · rw [g9]
          by_cases e : j = i
          · subst e
            exact (mpRow.mq hq).mov (pg := aPgs g vs p pg cs j.toNat) hg hPi (fun k k0 k1 => by rw [s1.2, if_pos (by omega)]; congr 1; omega)
          · refine (hlv j j0 (by omega)).mov hg (aPgs_ok (p := p) hg hvo hcs hP j.toNat (by omega)) (fun k k0 k1 => ?_)
            rw [s1.2, if_neg (by omega)]
      by_cases ho : aOwn vs p i = true
      · rw [if_pos ho] at hnext
        refine S.iload_n (pc' := 38) dX12_runsFrom_37 rfl rfl rfl ?_
        refine S.aload_n (pc' := 39) dX12_runsFrom_38 rfl rfl rfl ?_
        refine S.callVe (pc' := 42) dX12_runsFrom_39 rfl cX12_225 ok_X12_visits rfl L_177 (by decide) rfl (Nat.le_of_ble_eq_true rfl) ?_
        rw [h95]
        refine S.icmp_ge (pc' := 45) (tgt := 96) dX12_runsFrom_42 (by decide) rfl (by unfold fp_rng; omega) (by unfold fp_rng; omega) (fun h42 => ?_) (fun h42 => ?_)
        · exfalso; omega
        · refine S.aload_n (pc' := 46) dX12_runsFrom_45 rfl rfl rfl ?_
          refine S.iload_n (pc' := 47) dX12_runsFrom_46 rfl rfl rfl ?_
          refine S.callVv (pc' := 50) dX12_runsFrom_47 rfl cX12_277 (rk_X12_saves (by omega)) rfl L_177 (by decide) rfl (Nat.le_of_ble_eq_true rfl) (fun M47 q47 => ?_)
          have v1 : mvIs M47 vs := hvN.kept (fun j _ _ => by rw [q47.1 178 (by decide)])
          have d1 : mdIs M47 g := by
            unfold mdIs md_ok at hdN ⊢
            rw [q47.1 177 (by decide), q47.1 179 (by decide), q47.1 180 (by decide), q47.1 181 (by decide)]
            exact hdN
          have m1 : mpIs M47 360 g ((aPgs g vs p pg cs i.toNat).1, q, (aPgs g vs p pg cs i.toNat).2.2) := by
            unfold mpIs; rw [q47.1 178 (by decide)]; exact hq
          have cO := rk_X12_isOwn (l := l) (G := G) (p := p) v1 hvo hg (by unfold fp_rng; omega) ⟨by omega, he⟩
          rw [if_pos ho] at cO
          refine S.aload_n (pc' := 51) dX12_runsFrom_50 rfl rfl rfl ?_
          refine S.sipush (pc' := 54) dX12_runsFrom_51 rfl (by decide) ?_
          refine S.iload_n (pc' := 55) dX12_runsFrom_54 rfl rfl rfl ?_
          refine S.aload_n (pc' := 56) dX12_runsFrom_55 rfl rfl rfl ?_
          refine S.iload_n (pc' := 57) dX12_runsFrom_56 rfl rfl rfl ?_
          refine S.iload_n (pc' := 58) dX12_runsFrom_57 rfl rfl rfl ?_
          refine S.callVe (pc' := 61) dX12_runsFrom_58 rfl cX12_280 cO rfl L_177 (by decide) rfl (Nat.le_of_ble_eq_true rfl) ?_
          refine S.if_eq (pc' := 64) (tgt := 73) dX12_runsFrom_61 (by decide) rfl (by unfold fp_rng; omega) (fun h61 => ?_) (fun h61 => ?_)
          · exact absurd h61 (by decide)
          · refine S.aload_n (pc' := 65) dX12_runsFrom_64 rfl rfl rfl ?_
            refine S.getR (pc' := 68) dX12_runsFrom_65 rfl fX12_50 L_177 rf_177_30 ?_
            refine S.iload_n (pc' := 69) dX12_runsFrom_68 rfl rfl rfl ?_
            refine S.iald (pc' := 70) dX12_runsFrom_69 rfl L_190 (by omega) (by omega) ?_
            rw [show M47 190 i.toNat = cs i by rw [q47.1 190 (by decide), hf.1 190 (by decide) (by decide)]; exact hch i (by omega) he]
            refine S.goto (pc' := 86) dX12_runsFrom_70 (by decide) ?_
            refine S.callVi (pc' := 89) dX12_runsFrom_86 rfl cX12_257 (rk_X12_visits2 (by omega) v1 d1 m1 hPq hg hvo (by omega) (hcs i)) rfl L_177 (by decide) rfl (Nat.le_of_ble_eq_true rfl) (fun z86 M86 q86 => ?_)
            refine S.pop (pc' := 90) dX12_runsFrom_89 rfl rfl ?_
            refine S.iinc (pc' := 93) (LL' := [_, _, _, _]) dX12_runsFrom_90 rfl (by decide) rfl rfl rfl ?_
            refine S.goto (pc' := 37) dX12_runsFrom_93 (by decide) ?_
            exact hnext M47 _ _ q47 rfl q86.2.1 q86.2.2
      · rw [if_neg ho] at hnext
        have hvi := hvo.at (show 0 ≤ i by omega) he
        refine S.iload_n (pc' := 38) dX12_runsFrom_37 rfl rfl rfl ?_
        refine S.aload_n (pc' := 39) dX12_runsFrom_38 rfl rfl rfl ?_
        refine S.callVe (pc' := 42) dX12_runsFrom_39 rfl cX12_225 ok_X12_visits rfl L_177 (by decide) rfl (Nat.le_of_ble_eq_true rfl) ?_
        rw [h95]
        refine S.icmp_ge (pc' := 45) (tgt := 96) dX12_runsFrom_42 (by decide) rfl (by unfold fp_rng; omega) (by unfold fp_rng; omega) (fun h42 => ?_) (fun h42 => ?_)
        · exfalso; omega
        · refine S.aload_n (pc' := 46) dX12_runsFrom_45 rfl rfl rfl ?_
          refine S.iload_n (pc' := 47) dX12_runsFrom_46 rfl rfl rfl ?_
          refine S.callVv (pc' := 50) dX12_runsFrom_47 rfl cX12_277 (rk_X12_saves (by omega)) rfl L_177 (by decide) rfl (Nat.le_of_ble_eq_true rfl) (fun M47 q47 => ?_)
          have v1 : mvIs M47 vs := hvN.kept (fun j _ _ => by rw [q47.1 178 (by decide)])
          have d1 : mdIs M47 g := by
            unfold mdIs md_ok at hdN ⊢
            rw [q47.1 177 (by decide), q47.1 179 (by decide), q47.1 180 (by decide), q47.1 181 (by decide)]
            exact hdN
          have m1 : mpIs M47 360 g ((aPgs g vs p pg cs i.toNat).1, q, (aPgs g vs p pg cs i.toNat).2.2) := by
            unfold mpIs; rw [q47.1 178 (by decide)]; exact hq
          have cO := rk_X12_isOwn (l := l) (G := G) (p := p) v1 hvo hg (by unfold fp_rng; omega) ⟨by omega, he⟩
          rw [if_neg ho] at cO
          refine S.aload_n (pc' := 51) dX12_runsFrom_50 rfl rfl rfl ?_
          refine S.sipush (pc' := 54) dX12_runsFrom_51 rfl (by decide) ?_
          refine S.iload_n (pc' := 55) dX12_runsFrom_54 rfl rfl rfl ?_
          refine S.aload_n (pc' := 56) dX12_runsFrom_55 rfl rfl rfl ?_
          refine S.iload_n (pc' := 57) dX12_runsFrom_56 rfl rfl rfl ?_
          refine S.iload_n (pc' := 58) dX12_runsFrom_57 rfl rfl rfl ?_
          refine S.callVe (pc' := 61) dX12_runsFrom_58 rfl cX12_280 cO rfl L_177 (by decide) rfl (Nat.le_of_ble_eq_true rfl) ?_
          refine S.if_eq (pc' := 64) (tgt := 73) dX12_runsFrom_61 (by decide) rfl (by unfold fp_rng; omega) (fun h61 => ?_) (fun h61 => ?_)
          · refine S.aload_n (pc' := 74) dX12_runsFrom_73 rfl rfl rfl ?_
            refine S.getR (pc' := 77) dX12_runsFrom_74 rfl fX12_7 L_177 rf_177_0 ?_
            refine S.bipush (pc' := 79) dX12_runsFrom_77 rfl (by decide) ?_
            refine S.iconst (pc' := 80) dX12_runsFrom_79 rfl ?_
            refine S.iload_n (pc' := 81) dX12_runsFrom_80 rfl rfl rfl ?_
            refine S.imul (pc' := 82) dX12_runsFrom_81 rfl ?_
            refine S.iadd (pc' := 83) dX12_runsFrom_82 rfl ?_
            refine S.iconst (pc' := 84) dX12_runsFrom_83 rfl ?_
            refine S.iadd (pc' := 85) dX12_runsFrom_84 rfl ?_
            refine S.iald (pc' := 86) dX12_runsFrom_85 rfl L_178 (by omega) (by omega) ?_
            rw [(v1.2.2 i (by omega) he).2.2.1]
            refine S.callVi (pc' := 89) dX12_runsFrom_86 rfl cX12_257 (rk_X12_visits2 (by omega) v1 d1 m1 hPq hg hvo (by omega) hvi.2.2.1) rfl L_177 (by decide) rfl (Nat.le_of_ble_eq_true rfl) (fun z86 M86 q86 => ?_)
            refine S.pop (pc' := 90) dX12_runsFrom_89 rfl rfl ?_
            refine S.iinc (pc' := 93) (LL' := [_, _, _, _]) dX12_runsFrom_90 rfl (by decide) rfl rfl rfl ?_
            refine S.goto (pc' := 37) dX12_runsFrom_93 (by decide) ?_
            exact hnext M47 _ _ q47 rfl q86.2.1 q86.2.2
          · exact absurd rfl h61
    · have e : i = vs.length := by omega
      rw [e, Int.toNat_natCast] at hT
      refine S.iload_n (pc' := 38) dX12_runsFrom_37 rfl rfl rfl ?_
      refine S.aload_n (pc' := 39) dX12_runsFrom_38 rfl rfl rfl ?_
      refine S.callVe (pc' := 42) dX12_runsFrom_39 rfl cX12_225 ok_X12_visits rfl L_177 (by decide) rfl (Nat.le_of_ble_eq_true rfl) ?_
      rw [h95]
      refine S.icmp_ge (pc' := 45) (tgt := 96) dX12_runsFrom_42 (by decide) rfl (by unfold fp_rng; omega) (by unfold fp_rng; omega) (fun h42 => ?_) (fun h42 => ?_)
      · refine S.vret dX12_runsFrom_96 rfl ?_
        exact ⟨hf, hT, fun j j0 j1 => hlv j j0 (by omega)⟩
      · exfalso; omega
theorem rk_X12_runsFrom {p f : Int} {cs : Int → Int} (hg : gOk g) (hP : pgOk g pg) (hvo : vsOk g vs) (hp : 0 ≤ p ∧ p < 4) (hcs : ∀ j, 0 ≤ cs j ∧ cs j < g.2.1) (hv : mvIs M vs) (hd : mdIs M g) (hch : ∀ j : Int, 0 ≤ j → j < vs.length → M 190 j.toNat = cs j) (hf : 0 ≤ f ∧ f ≤ vs.length) (hlv : ∀ j : Int, 0 ≤ j → j ≤ f → mqRow (M 189) (40 * j) g (aPgs g vs p pg cs j.toNat)) : fp_Ok l G 4 kX12_runsFrom [rV G 177, iV p, iV f] M (qV fun N => frV M N ∧ trIs N g (aPgs g vs p pg cs vs.length) ∧ ∀ j : Int, 0 ≤ j → j < vs.length → mqRow (N 189) (40 * j) g (aPgs g vs p pg cs j.toNat)) := by
  have hl := hv.2.1
  refine fp_Ok.of (r := 1) rfl (Nat.le_of_ble_eq_true rfl) rfl ?_
  have hL : ∀ (r : Nat) (k : Int) (N : fp_Mem), (40 - k).toNat < r → 0 ≤ k → k ≤ 40 → (∀ c, c ≠ 178 → N c = M c) → (∀ j : Nat, N 178 j = if 360 ≤ (j : Int) ∧ (j : Int) < 360 + k then M 189 (40 * f + ((j : Int) - 360)).toNat else M 178 j) → fp_S l G 4 kX12_runsFrom 2 [some (rV G 177), some (iV p), some (iV f), some (iV k)] [] N (qV fun N => frV M N ∧ trIs N g (aPgs g vs p pg cs vs.length) ∧ ∀ j : Int, 0 ≤ j → j < vs.length → mqRow (N 189) (40 * j) g (aPgs g vs p pg cs j.toNat)) := by
    intro r
    induction r with
    | zero => intro k N hr; omega
    | succ r ih =>
      intro k N hr k0 k1 h8 hR
      by_cases hk : k < 40
      · refine S.iload_n (pc' := 3) dX12_runsFrom_2 rfl rfl rfl ?_
        refine S.bipush (pc' := 5) dX12_runsFrom_3 rfl (by decide) ?_
        refine S.icmp_ge (pc' := 8) (tgt := 35) dX12_runsFrom_5 (by decide) rfl (by unfold fp_rng; omega) (by unfold fp_rng; omega) (fun h5 => ?_) (fun h5 => ?_)
        · exfalso; omega
        · refine S.aload_n (pc' := 9) dX12_runsFrom_8 rfl rfl rfl ?_
          refine S.getR (pc' := 12) dX12_runsFrom_9 rfl fX12_7 L_177 rf_177_0 ?_
          refine S.sipush (pc' := 15) dX12_runsFrom_12 rfl (by decide) ?_
          refine S.iload_n (pc' := 16) dX12_runsFrom_15 rfl rfl rfl ?_
          refine S.iadd (pc' := 17) dX12_runsFrom_16 rfl ?_
          refine S.aload_n (pc' := 18) dX12_runsFrom_17 rfl rfl rfl ?_
          refine S.getR (pc' := 21) dX12_runsFrom_18 rfl fX12_47 L_177 rf_177_29 ?_
          refine S.bipush (pc' := 23) dX12_runsFrom_21 rfl (by decide) ?_
          refine S.iload_n (pc' := 24) dX12_runsFrom_23 rfl rfl rfl ?_
          refine S.imul (pc' := 25) dX12_runsFrom_24 rfl ?_
          refine S.iload_n (pc' := 26) dX12_runsFrom_25 rfl rfl rfl ?_
          refine S.iadd (pc' := 27) dX12_runsFrom_26 rfl ?_
          refine S.iald (pc' := 28) dX12_runsFrom_27 rfl L_189 (by omega) (by omega) ?_
          refine S.iast (pc' := 29) dX12_runsFrom_28 rfl L_178 (by omega) (by omega) ?_
          refine S.iinc (pc' := 32) (LL' := [_, _, _, _]) dX12_runsFrom_29 rfl (by decide) rfl rfl rfl ?_
          refine S.goto (pc' := 2) dX12_runsFrom_32 (by decide) ?_
          refine ih (k + 1) _ (by omega) (by omega) (by omega) (fun c hc => by rw [fp_up_ne hc]; exact h8 c hc) (fun j => ?_)
          rw [fp_up_at, h8 189 (by decide)]
          by_cases e : j = (360 + k).toNat
          · rw [if_pos (by omega), e, fp_upf_at]; congr 1; omega
          · rw [fp_upf_ne e, hR j]
            by_cases e2 : 360 ≤ (j : Int) ∧ (j : Int) < 360 + k
            · rw [if_pos e2, if_pos (by omega)]
            · rw [if_neg e2, if_neg (by omega)]
      · have e : k = 40 := by omega
        subst e
        refine S.iload_n (pc' := 3) dX12_runsFrom_2 rfl rfl rfl ?_
        refine S.bipush (pc' := 5) dX12_runsFrom_3 rfl (by decide) ?_
        refine S.icmp_ge (pc' := 8) (tgt := 35) dX12_runsFrom_5 (by decide) rfl (by unfold fp_rng; omega) (by unfold fp_rng; omega) (fun h5 => ?_) (fun h5 => ?_)
        · refine S.iload_n (pc' := 36) dX12_runsFrom_35 rfl rfl rfl ?_
          refine S.istore_n (pc' := 37) (LL' := [_, _, _, _]) dX12_runsFrom_36 rfl (by decide) rfl rfl rfl ?_
          refine runsFrom_loop hg hP hvo hp hcs hv hd hch hf.1 (vs.length + 1) f N (by omega) (by omega) hf.2 ⟨fun c h1 _ => h8 c h1, fun j hj => by rw [hR j, if_neg (by omega)]⟩ ⟨_, ((hlv f hf.1 (by omega)).mov (h := N 178) (b := 360) hg (aPgs_ok (p := p) hg hvo hcs hP f.toNat (by omega)) (fun j j0 j1 => ?_)).mp⟩ (fun j j0 j1 => by rw [h8 189 (by decide)]; exact hlv j j0 (by omega))
          rw [hR, if_pos (by omega)]; congr 1; omega
        · exfalso; omega
  refine S.iconst (pc' := 1) dX12_runsFrom_0 rfl ?_
  refine S.istore_n (pc' := 2) (LL' := [_, _, _, _]) dX12_runsFrom_1 rfl (by decide) rfl rfl rfl ?_
  exact hL 41 0 M (by omega) (by omega) (by omega) (fun _ _ => rfl) (fun j => by rw [if_neg (by omega)])
theorem next_loop {p : Int} (hg : gOk g) (hvo : vsOk g vs) (hp : fp_rng p) (hv : mvIs M vs) (h5 : M 177 5 = g.2.1) : ∀ (n : Nat) (i : Int) (cs : Int → Int) (N : fp_Mem), i + 1 = (n : Int) → n ≤ vs.length → (∀ j, 0 ≤ cs j ∧ cs j < g.2.1) → (∀ j : Int, 0 ≤ j → j < vs.length → N 190 j.toNat = cs j) → (∀ c, c ≠ 190 → N c = M c) →
    fp_S l G 1 kX12_nextLines 7 [some (rV G 177), some (iV p), some (iV i)] [] N (qI fun z O => z = (nxD vs p g.2.1 n cs).1 ∧ (∀ j : Int, 0 ≤ j → j < vs.length → O 190 j.toNat = (nxD vs p g.2.1 n cs).2 j) ∧ ∀ c, c ≠ 190 → O c = M c) := by
  have hl := hv.2.1
  have hg2 := hg.2.1
  intro n
  induction n with
  | zero =>
    intro i cs N hi hn hcs hch hf
    refine S.iload_n (pc' := 8) dX12_nextLines_7 rfl rfl rfl ?_
    refine S.if_lt (pc' := 11) (tgt := 58) dX12_nextLines_8 (by decide) rfl (by unfold fp_rng; omega) (fun h8 => ?_) (fun h8 => ?_)
    · refine S.bipush (pc' := 60) dX12_nextLines_58 rfl (by decide) ?_
      refine S.iret dX12_nextLines_60 rfl ?_
      exact ⟨rfl, hch, hf⟩
    · exfalso; omega
  | succ n ih =>
    intro i cs N hi hn hcs hch hf
    have e : i = (n : Int) := by omega
    subst e
    have vN : mvIs N vs := hv.kept (fun j _ _ => by rw [hf 178 (by decide)])
    have cO := rk_X12_isOwn (l := l) (G := G) (p := p) vN hvo hg hp ⟨by omega, show (n : Int) < (vs.length : Int) by omega⟩
    have hcn := hch (n : Int) (by omega) (by omega)
    have hcr := hcs (n : Int)
    by_cases ho : aOwn vs p (n : Int) = true
    · rw [if_pos ho] at cO
      have e5 : ∀ z, fp_up N 190 ((n : Int)).toNat z 177 5 = g.2.1 := fun z => by rw [fp_up_ne (by decide), hf 177 (by decide)]; exact h5
      have ec : ∀ z, fp_up N 190 ((n : Int)).toNat z 190 ((n : Int)).toNat = z := fun z => by rw [fp_up_at, fp_upf_at]
      by_cases h2 : cs (n : Int) + 1 < g.2.1
      · have ex : nxD vs p g.2.1 (n + 1) cs = ((n : Int), fp_ui cs (n : Int) (cs (n : Int) + 1)) := by rw [nxD, if_pos ho, if_pos h2]
        rw [ex]
        refine S.iload_n (pc' := 8) dX12_nextLines_7 rfl rfl rfl ?_
        refine S.if_lt (pc' := 11) (tgt := 58) dX12_nextLines_8 (by decide) rfl (by unfold fp_rng; omega) (fun h8 => ?_) (fun h8 => ?_)
        · exfalso; omega
        · refine S.aload_n (pc' := 12) dX12_nextLines_11 rfl rfl rfl ?_
          refine S.iload_n (pc' := 13) dX12_nextLines_12 rfl rfl rfl ?_
          refine S.iload_n (pc' := 14) dX12_nextLines_13 rfl rfl rfl ?_
          refine S.callVe (pc' := 17) dX12_nextLines_14 rfl cX12_280 cO rfl L_177 (by decide) rfl (Nat.le_of_ble_eq_true rfl) ?_
          refine S.if_eq (pc' := 20) (tgt := 52) dX12_nextLines_17 (by decide) rfl (by unfold fp_rng; omega) (fun h17 => ?_) (fun h17 => ?_)
          · exact absurd h17 (by decide)
          · refine S.aload_n (pc' := 21) dX12_nextLines_20 rfl rfl rfl ?_
            refine S.getR (pc' := 24) dX12_nextLines_21 rfl fX12_50 L_177 rf_177_30 ?_
            refine S.iload_n (pc' := 25) dX12_nextLines_24 rfl rfl rfl ?_
            refine S.dup2 (pc' := 26) dX12_nextLines_25 rfl rfl rfl ?_
            refine S.iald (pc' := 27) dX12_nextLines_26 rfl L_190 (by omega) (by omega) ?_
            rw [hcn]
            refine S.iconst (pc' := 28) dX12_nextLines_27 rfl ?_
            refine S.iadd (pc' := 29) dX12_nextLines_28 rfl ?_
            refine S.iast (pc' := 30) dX12_nextLines_29 rfl L_190 (by omega) (by omega) ?_
            refine S.aload_n (pc' := 31) dX12_nextLines_30 rfl rfl rfl ?_
            refine S.getR (pc' := 34) dX12_nextLines_31 rfl fX12_50 L_177 rf_177_30 ?_
            refine S.iload_n (pc' := 35) dX12_nextLines_34 rfl rfl rfl ?_
            refine S.iald (pc' := 36) dX12_nextLines_35 rfl L_190 (by omega) (by omega) ?_
            rw [ec]
            refine S.aload_n (pc' := 37) dX12_nextLines_36 rfl rfl rfl ?_
            refine S.getI (pc' := 40) dX12_nextLines_37 rfl fX12_184 L_177 ?_
            rw [e5]
            refine S.icmp_ge (pc' := 43) (tgt := 45) dX12_nextLines_40 (by decide) rfl (by unfold fp_rng; omega) (by unfold fp_rng; omega) (fun h40 => ?_) (fun h40 => ?_)
            · exfalso; omega
            · refine S.iload_n (pc' := 44) dX12_nextLines_43 rfl rfl rfl ?_
              refine S.iret dX12_nextLines_44 rfl ?_
              refine ⟨rfl, fun j j0 j1 => ?_, fun c hc => by rw [fp_up_ne hc]; exact hf c hc⟩
              rw [fp_up_at]
              show _ = fp_ui cs (n : Int) _ j
              by_cases e : j = (n : Int)
              · subst e; rw [fp_upf_at, fp_ui_at]
              · rw [fp_upf_ne (by omega), fp_ui_ne e]; exact hch j j0 j1
      · have ex : nxD vs p g.2.1 (n + 1) cs = nxD vs p g.2.1 n (fp_ui cs (n : Int) 0) := by rw [nxD, if_pos ho, if_neg h2]
        rw [ex]
        have h52 : fp_S l G 1 kX12_nextLines 52 [some (rV G 177), some (iV p), some (iV (n : Int))] [] (fp_up (fp_up N 190 ((n : Int)).toNat (cs (n : Int) + 1)) 190 ((n : Int)).toNat 0) (qI fun z O => z = (nxD vs p g.2.1 n (fp_ui cs (n : Int) 0)).1 ∧ (∀ j : Int, 0 ≤ j → j < vs.length → O 190 j.toNat = (nxD vs p g.2.1 n (fp_ui cs (n : Int) 0)).2 j) ∧ ∀ c, c ≠ 190 → O c = M c) := by
          refine S.iinc (pc' := 55) (LL' := [_, _, _]) dX12_nextLines_52 rfl (by decide) rfl rfl rfl ?_
          refine S.goto (pc' := 7) dX12_nextLines_55 (by decide) ?_
          refine ih _ (fp_ui cs (n : Int) 0) _ (by omega) (by omega) (fun j => ?_) (fun j j0 j1 => ?_) (fun c hc => by rw [fp_up_ne hc, fp_up_ne hc]; exact hf c hc)
          · by_cases e : j = (n : Int)
            · subst e; rw [fp_ui_at]; omega
            · rw [fp_ui_ne e]; exact hcs j
          · rw [fp_up_at]
            by_cases e : j = (n : Int)
            · subst e; rw [fp_upf_at, fp_ui_at]
            · rw [fp_upf_ne (by omega), fp_up_at, fp_upf_ne (by omega), fp_ui_ne e]; exact hch j j0 j1
        refine S.iload_n (pc' := 8) dX12_nextLines_7 rfl rfl rfl ?_
        refine S.if_lt (pc' := 11) (tgt := 58) dX12_nextLines_8 (by decide) rfl (by unfold fp_rng; omega) (fun h8 => ?_) (fun h8 => ?_)
        · exfalso; omega
        · refine S.aload_n (pc' := 12) dX12_nextLines_11 rfl rfl rfl ?_
          refine S.iload_n (pc' := 13) dX12_nextLines_12 rfl rfl rfl ?_
          refine S.iload_n (pc' := 14) dX12_nextLines_13 rfl rfl rfl ?_
          refine S.callVe (pc' := 17) dX12_nextLines_14 rfl cX12_280 cO rfl L_177 (by decide) rfl (Nat.le_of_ble_eq_true rfl) ?_
          refine S.if_eq (pc' := 20) (tgt := 52) dX12_nextLines_17 (by decide) rfl (by unfold fp_rng; omega) (fun h17 => ?_) (fun h17 => ?_)
          · first
            | exact absurd h17 (by decide)
            | exact h52
          · refine S.aload_n (pc' := 21) dX12_nextLines_20 rfl rfl rfl ?_
            refine S.getR (pc' := 24) dX12_nextLines_21 rfl fX12_50 L_177 rf_177_30 ?_
            refine S.iload_n (pc' := 25) dX12_nextLines_24 rfl rfl rfl ?_
            refine S.dup2 (pc' := 26) dX12_nextLines_25 rfl rfl rfl ?_
            refine S.iald (pc' := 27) dX12_nextLines_26 rfl L_190 (by omega) (by omega) ?_
            rw [hcn]
            refine S.iconst (pc' := 28) dX12_nextLines_27 rfl ?_
            refine S.iadd (pc' := 29) dX12_nextLines_28 rfl ?_
            refine S.iast (pc' := 30) dX12_nextLines_29 rfl L_190 (by omega) (by omega) ?_
            refine S.aload_n (pc' := 31) dX12_nextLines_30 rfl rfl rfl ?_
            refine S.getR (pc' := 34) dX12_nextLines_31 rfl fX12_50 L_177 rf_177_30 ?_
            refine S.iload_n (pc' := 35) dX12_nextLines_34 rfl rfl rfl ?_
            refine S.iald (pc' := 36) dX12_nextLines_35 rfl L_190 (by omega) (by omega) ?_
            rw [ec]
            refine S.aload_n (pc' := 37) dX12_nextLines_36 rfl rfl rfl ?_
            refine S.getI (pc' := 40) dX12_nextLines_37 rfl fX12_184 L_177 ?_
            rw [e5]
            refine S.icmp_ge (pc' := 43) (tgt := 45) dX12_nextLines_40 (by decide) rfl (by unfold fp_rng; omega) (by unfold fp_rng; omega) (fun h40 => ?_) (fun h40 => ?_)
            · refine S.aload_n (pc' := 46) dX12_nextLines_45 rfl rfl rfl ?_
              refine S.getR (pc' := 49) dX12_nextLines_46 rfl fX12_50 L_177 rf_177_30 ?_
              refine S.iload_n (pc' := 50) dX12_nextLines_49 rfl rfl rfl ?_
              refine S.iconst (pc' := 51) dX12_nextLines_50 rfl ?_
              refine S.iast (pc' := 52) dX12_nextLines_51 rfl L_190 (by omega) (by omega) ?_
              first
              | exact absurd h17 (by decide)
              | exact h52
            · exfalso; omega
    · rw [if_neg ho] at cO
      have ex : nxD vs p g.2.1 (n + 1) cs = nxD vs p g.2.1 n cs := by rw [nxD, if_neg ho]
      rw [ex]
      refine S.iload_n (pc' := 8) dX12_nextLines_7 rfl rfl rfl ?_
      refine S.if_lt (pc' := 11) (tgt := 58) dX12_nextLines_8 (by decide) rfl (by unfold fp_rng; omega) (fun h8 => ?_) (fun h8 => ?_)
      · exfalso; omega
      · refine S.aload_n (pc' := 12) dX12_nextLines_11 rfl rfl rfl ?_
        refine S.iload_n (pc' := 13) dX12_nextLines_12 rfl rfl rfl ?_
        refine S.iload_n (pc' := 14) dX12_nextLines_13 rfl rfl rfl ?_
        refine S.callVe (pc' := 17) dX12_nextLines_14 rfl cX12_280 cO rfl L_177 (by decide) rfl (Nat.le_of_ble_eq_true rfl) ?_
        refine S.if_eq (pc' := 20) (tgt := 52) dX12_nextLines_17 (by decide) rfl (by unfold fp_rng; omega) (fun h17 => ?_) (fun h17 => ?_)
        · refine S.iinc (pc' := 55) (LL' := [_, _, _]) dX12_nextLines_52 rfl (by decide) rfl rfl rfl ?_
          refine S.goto (pc' := 7) dX12_nextLines_55 (by decide) ?_
          exact ih _ cs N (by omega) (by omega) hcs hch hf
        · exact absurd rfl h17
theorem rk_X12_nextLines {p : Int} {cs : Int → Int} (hg : gOk g) (hvo : vsOk g vs) (hp : fp_rng p) (hv : mvIs M vs) (hd : mdIs M g) (hcs : ∀ j, 0 ≤ cs j ∧ cs j < g.2.1) (hch : ∀ j : Int, 0 ≤ j → j < vs.length → M 190 j.toNat = cs j) : fp_Ok l G 1 kX12_nextLines [rV G 177, iV p] M (qI fun z O => z = (nxD vs p g.2.1 vs.length cs).1 ∧ (∀ j : Int, 0 ≤ j → j < vs.length → O 190 j.toNat = (nxD vs p g.2.1 vs.length cs).2 j) ∧ ∀ c, c ≠ 190 → O c = M c) := by
  have h95 : M 178 95 = (vs.length : Int) := hv.1
  refine fp_Ok.of (r := 1) rfl (Nat.le_of_ble_eq_true rfl) rfl ?_
  refine S.aload_n (pc' := 1) dX12_nextLines_0 rfl rfl rfl ?_
  refine S.callVe (pc' := 4) dX12_nextLines_1 rfl cX12_225 ok_X12_visits rfl L_177 (by decide) rfl (Nat.le_of_ble_eq_true rfl) ?_
  rw [h95]
  refine S.iconst (pc' := 5) dX12_nextLines_4 rfl ?_
  refine S.isub (pc' := 6) dX12_nextLines_5 rfl ?_
  refine S.istore_n (pc' := 7) (LL' := [_, _, _]) dX12_nextLines_6 rfl (by decide) rfl rfl rfl ?_
  exact next_loop hg hvo hp hv hd.2.1 vs.length _ cs M (by omega) (Nat.le_refl _) hcs hch (fun _ _ => rfl)
end MMD
end
section
/-! most: the reference, the call -/
def frU (M N : fp_Mem) : Prop := (∀ c, c ≠ 178 → c ≠ 189 → c ≠ 190 → c ≠ 191 → N c = M c) ∧ ∀ j : Nat, (j < 360 ∨ 410 ≤ j) → N 178 j = M 178 j
theorem frU.refl (M : fp_Mem) : frU M M := ⟨fun _ _ _ _ _ => rfl, fun _ _ => rfl⟩
theorem frU.trans {M N O : fp_Mem} (h1 : frU M N) (h2 : frU N O) : frU M O := ⟨fun c a1 a2 a3 a4 => (h2.1 c a1 a2 a3 a4).trans (h1.1 c a1 a2 a3 a4), fun j hj => (h2.2 j hj).trans (h1.2 j hj)⟩
theorem frV.u {M N : fp_Mem} (h : frV M N) : frU M N := ⟨fun c a1 a2 _ _ => h.1 c a1 a2, h.2⟩
theorem frU.md {M N : fp_Mem} {g : aGd} (h : frU M N) (hd : mdIs M g) : mdIs N g := by
  unfold mdIs md_ok at *
  rw [h.1 177 (by decide) (by decide) (by decide) (by decide), h.1 179 (by decide) (by decide) (by decide) (by decide), h.1 180 (by decide) (by decide) (by decide) (by decide), h.1 181 (by decide) (by decide) (by decide) (by decide)]
  exact hd
theorem frU.mv {M N : fp_Mem} {vs : List aVt} (h : frU M N) (hd : mvIs M vs) : mvIs N vs := hd.kept (fun j h1 h2 => h.2 j (by omega))
theorem frU.d {M N : fp_Mem} (h : frU M N) : frD M N := fun c hc => h.1 c (by omega) (by omega) (by omega) (by omega)
section MMF
variable {l : Launch} {G : fp_WG} {M N : fp_Mem} {tp : List Int} {fl : Int} {g : aGd} {pg : aPg} {vs : List aVt} {nt : List Int} {im : aIm} {sh : aSh} {tn : Int}
theorem MS.uu (h : MS M tp fl g pg vs nt im sh tn) (ho : OK g pg vs nt im sh) (e : frU M N) : MS N tp fl g pg vs nt im sh tn := h.trial ho (fun c hc => e.1 c (by omega) (by omega) (by omega) (by omega)) (fun j hj => e.2 j (by omega))
theorem mbest_loop {p w f v b1 : Int} {cs : Int → Int} {d3 : Int} {Q : fp_Q} (hg : gOk g) (hvo : vsOk g vs) (hp : 0 ≤ p ∧ p < 4) (hv : mvIs N vs) (hb : fp_rng b1) (hw : fp_rng v) (hlt : b1 < v) (hch : ∀ j : Int, 0 ≤ j → j < vs.length → N 190 j.toNat = cs j) (K : ∀ (O : fp_Mem) (o7 : Option Value), (∀ c, c ≠ 191 → O c = N c) → (∀ j : Int, 0 ≤ j → j < vs.length → O 191 j.toNat = aCs vs p cs vs.length j) → fp_S l G 7 kX12_most 199 [some (rV G 177), some (iV p), some (iV w), some (iV d3), some (iV b1), some (iV f), some (iV v), o7] [] O Q) : ∀ (r k : Nat) (O : fp_Mem), vs.length - k < r → k ≤ vs.length → (∀ c, c ≠ 191 → O c = N c) → (∀ j : Int, 0 ≤ j → j < k → O 191 j.toNat = aCs vs p cs vs.length j) →
    fp_S l G 7 kX12_most 148 [some (rV G 177), some (iV p), some (iV w), some (iV d3), some (iV b1), some (iV f), some (iV v), some (iV (k : Int))] [] O Q := by
  have hl := hv.2.1
  intro r
  induction r with
  | zero => intro k O hr; omega
  | succ r ih =>
    intro k O hr hk hf hR
    have vO : mvIs O vs := hv.kept (fun j _ _ => by rw [hf 178 (by decide)])
    have h95 : O 178 95 = (vs.length : Int) := vO.1
    by_cases he : k < vs.length
    · have cO := rk_X12_isOwn (l := l) (G := G) (p := p) vO hvo hg (by unfold fp_rng; omega) ⟨by omega, show (k : Int) < (vs.length : Int) by omega⟩
      have ea := aCs_at (vs := vs) (p := p) (cs := cs) vs.length (k : Int) (by omega) (by omega)
      have hst : ∀ z, z = aCs vs p cs vs.length (k : Int) → fp_S l G 7 kX12_most 192 [some (rV G 177), some (iV p), some (iV w), some (iV d3), some (iV b1), some (iV f), some (iV v), some (iV (k : Int))] [iV z, iV (k : Int), rV G 191] O Q := by
        intro z hz
        refine S.iast (pc' := 193) dX12_most_192 rfl L_191 (by omega) (by omega) ?_
        refine S.iinc (pc' := 196) (LL' := [_, _, _, _, _, _, _, _]) dX12_most_193 rfl (by decide) rfl rfl rfl ?_
        refine S.goto (pc' := 148) dX12_most_196 (by decide) ?_
        rw [show ((k : Int) + 1) = ((k + 1 : Nat) : Int) by omega]
        refine ih (k + 1) _ (by omega) (by omega) (fun c hc => by rw [fp_up_ne hc]; exact hf c hc) (fun j j0 j1 => ?_)
        rw [fp_up_at]
        by_cases e : j = (k : Int)
        · subst e; rw [fp_upf_at]; exact hz
        · rw [fp_upf_ne (by omega)]; exact hR j j0 (by omega)
      by_cases ho : aOwn vs p (k : Int) = true
      · rw [if_pos ho] at cO ea
        refine S.iload (pc' := 150) dX12_most_148 rfl rfl ?_
        refine S.aload_n (pc' := 151) dX12_most_150 rfl rfl rfl ?_
        refine S.callVe (pc' := 154) dX12_most_151 rfl cX12_225 ok_X12_visits rfl L_177 (by decide) rfl (Nat.le_of_ble_eq_true rfl) ?_
        rw [h95]
        refine S.icmp_ge (pc' := 157) (tgt := 199) dX12_most_154 (by decide) rfl (by unfold fp_rng; omega) (by unfold fp_rng; omega) (fun h154 => ?_) (fun h154 => ?_)
        · exfalso; omega
        · refine S.iload (pc' := 159) dX12_most_157 rfl rfl ?_
          refine S.iload (pc' := 161) dX12_most_159 rfl rfl ?_
          refine S.icmp_le (pc' := 164) (tgt := 199) dX12_most_161 (by decide) rfl hw hb (fun h161 => ?_) (fun h161 => ?_)
          · exfalso; omega
          · refine S.aload_n (pc' := 165) dX12_most_164 rfl rfl rfl ?_
            refine S.getR (pc' := 168) dX12_most_165 rfl fX12_53 L_177 rf_177_31 ?_
            refine S.iload (pc' := 170) dX12_most_168 rfl rfl ?_
            refine S.aload_n (pc' := 171) dX12_most_170 rfl rfl rfl ?_
            refine S.iload_n (pc' := 172) dX12_most_171 rfl rfl rfl ?_
            refine S.iload (pc' := 174) dX12_most_172 rfl rfl ?_
            refine S.callVe (pc' := 177) dX12_most_174 rfl cX12_280 cO rfl L_177 (by decide) rfl (Nat.le_of_ble_eq_true rfl) ?_
            refine S.if_eq (pc' := 180) (tgt := 190) dX12_most_177 (by decide) rfl (by unfold fp_rng; omega) (fun h177 => ?_) (fun h177 => ?_)
            · exact absurd h177 (by decide)
            · refine S.aload_n (pc' := 181) dX12_most_180 rfl rfl rfl ?_
              refine S.getR (pc' := 184) dX12_most_181 rfl fX12_50 L_177 rf_177_30 ?_
              refine S.iload (pc' := 186) dX12_most_184 rfl rfl ?_
              refine S.iald (pc' := 187) dX12_most_186 rfl L_190 (by omega) (by omega) ?_
              refine S.goto (pc' := 192) dX12_most_187 (by decide) ?_
              refine hst _ ?_
              rw [ea, hf 190 (by decide)]
              exact hch _ (by omega) (by omega)
      · rw [if_neg ho] at cO ea
        refine S.iload (pc' := 150) dX12_most_148 rfl rfl ?_
        refine S.aload_n (pc' := 151) dX12_most_150 rfl rfl rfl ?_
        refine S.callVe (pc' := 154) dX12_most_151 rfl cX12_225 ok_X12_visits rfl L_177 (by decide) rfl (Nat.le_of_ble_eq_true rfl) ?_
        rw [h95]
        refine S.icmp_ge (pc' := 157) (tgt := 199) dX12_most_154 (by decide) rfl (by unfold fp_rng; omega) (by unfold fp_rng; omega) (fun h154 => ?_) (fun h154 => ?_)
        · exfalso; omega
        · refine S.iload (pc' := 159) dX12_most_157 rfl rfl ?_
          refine S.iload (pc' := 161) dX12_most_159 rfl rfl ?_
          refine S.icmp_le (pc' := 164) (tgt := 199) dX12_most_161 (by decide) rfl hw hb (fun h161 => ?_) (fun h161 => ?_)
          · exfalso; omega
          · refine S.aload_n (pc' := 165) dX12_most_164 rfl rfl rfl ?_
            refine S.getR (pc' := 168) dX12_most_165 rfl fX12_53 L_177 rf_177_31 ?_
            refine S.iload (pc' := 170) dX12_most_168 rfl rfl ?_
            refine S.aload_n (pc' := 171) dX12_most_170 rfl rfl rfl ?_
            refine S.iload_n (pc' := 172) dX12_most_171 rfl rfl rfl ?_
            refine S.iload (pc' := 174) dX12_most_172 rfl rfl ?_
            refine S.callVe (pc' := 177) dX12_most_174 rfl cX12_280 cO rfl L_177 (by decide) rfl (Nat.le_of_ble_eq_true rfl) ?_
            refine S.if_eq (pc' := 180) (tgt := 190) dX12_most_177 (by decide) rfl (by unfold fp_rng; omega) (fun h177 => ?_) (fun h177 => ?_)
            · refine S.bipush (pc' := 192) dX12_most_190 rfl (by decide) ?_
              exact hst _ ea.symm
            · exact absurd rfl h177
    · refine S.iload (pc' := 150) dX12_most_148 rfl rfl ?_
      refine S.aload_n (pc' := 151) dX12_most_150 rfl rfl rfl ?_
      refine S.callVe (pc' := 154) dX12_most_151 rfl cX12_225 ok_X12_visits rfl L_177 (by decide) rfl (Nat.le_of_ble_eq_true rfl) ?_
      rw [h95]
      refine S.icmp_ge (pc' := 157) (tgt := 199) dX12_most_154 (by decide) rfl (by unfold fp_rng; omega) (by unfold fp_rng; omega) (fun h154 => ?_) (fun h154 => ?_)
      · exact K O _ hf (fun j j0 j1 => hR j j0 (by omega))
      · exfalso; omega
theorem mmost_loop {p w : Int} {d3 : Int} (hg : gOk g) (hP : pgOk g pg) (hvo : vsOk g vs) (hp : 0 ≤ p ∧ p < 4) (hL : 0 < g.2.1) (hw : w = 0 ∨ (10 ≤ w ∧ w < 10 + vs.length)) (hv : mvIs M vs) (hd : mdIs M g) : ∀ (r : Nat) (cs : Int → Int) (b : moT) (f : Int) (N : fp_Mem) (o6 o7 : Option Value), nxM vs p g.2.1 cs vs.length < r → (∀ j, 0 ≤ cs j ∧ cs j < g.2.1) → 0 ≤ f ∧ f ≤ vs.length → frU M N → (∀ j : Int, 0 ≤ j → j < vs.length → N 190 j.toNat = cs j) → (∀ j : Int, 0 ≤ j → j ≤ f → mqRow (N 189) (40 * j) g (aPgs g vs p pg cs j.toNat)) → (b.1 ≠ -4 → ∀ j : Int, 0 ≤ j → j < vs.length → N 191 j.toNat = b.2 j) → (-4 ≤ b.1 ∧ b.1 ≤ 200) → moX g vs p pg cs vs.length (moU (aWorth g (aPgs g vs p pg cs vs.length) p) (aCs vs p cs vs.length) b) = aMo g pg vs p →
    fp_S l G 7 kX12_most 121 [some (rV G 177), some (iV p), some (iV w), some (iV d3), some (iV b.1), some (iV f), o6, o7] [] N (qI fun z O => z = (if w = 0 then (aMo g pg vs p).1 else (aMo g pg vs p).2 (w - 10)) ∧ frU M O) := by
  have hl := hv.2.1
  have hg2 := hg.2.1
  have hup := (moC_up (vs := vs) hg hp hL vs.length 0 pg (fun _ => -4) (-4, fun _ => 0)).1
  have hup2 : (aMo g pg vs p).1 ≠ -4 := by unfold aMo; omega
  intro r
  induction r with
  | zero => intro cs b f N o6 o7 hr; omega
  | succ r ih =>
    intro cs b f N o6 o7 hr hcs hf hfr hch hlv hbs hb hX
    have vN := hfr.mv hv
    have dN := hfr.md hd
    have hPl := aPgs_ok (p := p) hg hvo hcs hP vs.length (Nat.le_refl _)
    have hW := aWorth_in (pg := aPgs g vs p pg cs vs.length) hg hp
    generalize hWe : aWorth g (aPgs g vs p pg cs vs.length) p = W at *
    have hEnd : ∀ (O : fp_Mem) (b' : moT) (o6 o7 : Option Value), frU M O → b' = aMo g pg vs p → (b'.1 ≠ -4 → ∀ j : Int, 0 ≤ j → j < vs.length → O 191 j.toNat = b'.2 j) → fp_S l G 7 kX12_most 121 [some (rV G 177), some (iV p), some (iV w), some (iV d3), some (iV b'.1), some (iV (-4)), o6, o7] [] O (qI fun z O => z = (if w = 0 then (aMo g pg vs p).1 else (aMo g pg vs p).2 (w - 10)) ∧ frU M O) := by
      intro O b' o6 o7 fO eb rb
      subst eb
      refine S.iload (pc' := 123) dX12_most_121 rfl rfl ?_
      refine S.bipush (pc' := 125) dX12_most_123 rfl (by decide) ?_
      refine S.icmp_eq (pc' := 128) (tgt := 225) dX12_most_125 (by decide) rfl (by unfold fp_rng; omega) (by unfold fp_rng; omega) (fun h125 => ?_) (fun h125 => ?_)
      · refine S.iload_n (pc' := 226) dX12_most_225 rfl rfl rfl ?_
        refine S.if_ne (pc' := 229) (tgt := 234) dX12_most_226 (by decide) rfl (by unfold fp_rng; omega) (fun h226 => ?_) (fun h226 => ?_)
        · refine S.aload_n (pc' := 235) dX12_most_234 rfl rfl rfl ?_
          refine S.getR (pc' := 238) dX12_most_235 rfl fX12_53 L_177 rf_177_31 ?_
          refine S.iload_n (pc' := 239) dX12_most_238 rfl rfl rfl ?_
          refine S.bipush (pc' := 241) dX12_most_239 rfl (by decide) ?_
          refine S.isub (pc' := 242) dX12_most_241 rfl ?_
          refine S.iald (pc' := 243) dX12_most_242 rfl L_191 (by omega) (by omega) ?_
          refine S.iret dX12_most_243 rfl ?_
          first
          | exact ⟨by rw [if_pos (by omega)], fO⟩
          | exact ⟨by rw [if_neg (by omega)]; exact rb hup2 (w - 10) (by omega) (by omega), fO⟩
        · refine S.iload (pc' := 231) dX12_most_229 rfl rfl ?_
          refine S.goto (pc' := 243) dX12_most_231 (by decide) ?_
          refine S.iret dX12_most_243 rfl ?_
          first
          | exact ⟨by rw [if_pos (by omega)], fO⟩
          | exact ⟨by rw [if_neg (by omega)]; exact rb hup2 (w - 10) (by omega) (by omega), fO⟩
      · exfalso; omega
    have h213 : ∀ (N2 : fp_Mem) (o7 : Option Value), frU M N2 → (∀ j : Int, 0 ≤ j → j < vs.length → N2 190 j.toNat = cs j) → (∀ j : Int, 0 ≤ j → j < vs.length → mqRow (N2 189) (40 * j) g (aPgs g vs p pg cs j.toNat)) → ((moU W (aCs vs p cs vs.length) b).1 ≠ -4 → ∀ j : Int, 0 ≤ j → j < vs.length → N2 191 j.toNat = (moU W (aCs vs p cs vs.length) b).2 j) → fp_S l G 7 kX12_most 213 [some (rV G 177), some (iV p), some (iV w), some (iV d3), some (iV b.1), some (iV f), some (iV W), o7] [iV (moU W (aCs vs p cs vs.length) b).1] N2 (qI fun z O => z = (if w = 0 then (aMo g pg vs p).1 else (aMo g pg vs p).2 (w - 10)) ∧ frU M O) := by
      intro N2 o7 f2 c2 l2 b2
      have hbr : -4 ≤ (moU W (aCs vs p cs vs.length) b).1 ∧ (moU W (aCs vs p cs vs.length) b).1 ≤ 200 := by
        unfold moU; split
        · show -4 ≤ W ∧ W ≤ 200; omega
        · exact hb
      refine S.istore (pc' := 215) (LL' := [_, _, _, _, _, _, _, _]) dX12_most_213 rfl (by decide) rfl rfl ?_
      refine S.aload_n (pc' := 216) dX12_most_215 rfl rfl rfl ?_
      refine S.iload_n (pc' := 217) dX12_most_216 rfl rfl rfl ?_
      refine S.callVi (pc' := 220) dX12_most_217 rfl cX12_286 (rk_X12_nextLines hg hvo (by unfold fp_rng; omega) (f2.mv hv) (f2.md hd) hcs c2) rfl L_177 (by decide) rfl (Nat.le_of_ble_eq_true rfl) (fun z217 M217 q217 => ?_)
      obtain ⟨z1, c3, f3⟩ := q217
      subst z1
      have f4 : frU M M217 := f2.trans ⟨fun c _ _ h9 _ => f3 c h9, fun j _ => by rw [f3 178 (by decide)]⟩
      refine S.istore (pc' := 222) (LL' := [_, _, _, _, _, _, _, _]) dX12_most_220 rfl (by decide) rfl rfl ?_
      refine S.goto (pc' := 121) dX12_most_222 (by decide) ?_
      by_cases hn : (nxD vs p g.2.1 vs.length cs).1 = -4
      · rw [hn]
        exact hEnd _ _ _ _ f4 (by rw [← hX, moX_none _ _ hn]) (fun q j j0 j1 => by rw [f3 191 (by decide)]; exact b2 q j j0 j1)
      · have hin := nxD_in (vs := vs) (p := p) (L := g.2.1) vs.length cs
        refine ih _ (moU W (aCs vs p cs vs.length) b) _ _ _ _ (by have := nxM_lt (vs := vs) (p := p) ⟨hL, hg2.2⟩ vs.length cs hcs hn; omega) (nxD_rng hL vs.length cs hcs) (by omega) f4 c3 (fun j j0 j1 => ?_) (fun q j j0 j1 => by rw [f3 191 (by decide)]; exact b2 q j j0 j1) hbr (by rw [← moX_step hL hn]; exact hX)
        rw [f3 189 (by decide), ← aPgs_congr (cs := cs) j.toNat (fun i i0 i1 => (nxD_lo vs.length cs i i0 (by omega)).symm)]
        exact l2 j j0 (by omega)
    have h199 : ∀ (N2 : fp_Mem) (o7 : Option Value), frU M N2 → (∀ j : Int, 0 ≤ j → j < vs.length → N2 190 j.toNat = cs j) → (∀ j : Int, 0 ≤ j → j < vs.length → mqRow (N2 189) (40 * j) g (aPgs g vs p pg cs j.toNat)) → ((moU W (aCs vs p cs vs.length) b).1 ≠ -4 → ∀ j : Int, 0 ≤ j → j < vs.length → N2 191 j.toNat = (moU W (aCs vs p cs vs.length) b).2 j) → fp_S l G 7 kX12_most 199 [some (rV G 177), some (iV p), some (iV w), some (iV d3), some (iV b.1), some (iV f), some (iV W), o7] [] N2 (qI fun z O => z = (if w = 0 then (aMo g pg vs p).1 else (aMo g pg vs p).2 (w - 10)) ∧ frU M O) := by
      intro N2 o7 f2 c2 l2 b2
      have h3 := h213 N2 o7 f2 c2 l2 b2
      unfold moU at h3
      by_cases hlt : b.1 < W
      · rw [if_pos hlt] at h3
        refine S.iload (pc' := 201) dX12_most_199 rfl rfl ?_
        refine S.iload (pc' := 203) dX12_most_201 rfl rfl ?_
        refine S.icmp_le (pc' := 206) (tgt := 211) dX12_most_203 (by decide) rfl (by unfold fp_rng; omega) (by unfold fp_rng; omega) (fun h203 => ?_) (fun h203 => ?_)
        · exfalso; omega
        · refine S.iload (pc' := 208) dX12_most_206 rfl rfl ?_
          refine S.goto (pc' := 213) dX12_most_208 (by decide) ?_
          exact h3
      · rw [if_neg hlt] at h3
        refine S.iload (pc' := 201) dX12_most_199 rfl rfl ?_
        refine S.iload (pc' := 203) dX12_most_201 rfl rfl ?_
        refine S.icmp_le (pc' := 206) (tgt := 211) dX12_most_203 (by decide) rfl (by unfold fp_rng; omega) (by unfold fp_rng; omega) (fun h203 => ?_) (fun h203 => ?_)
        · refine S.iload (pc' := 213) dX12_most_211 rfl rfl ?_
          exact h3
        · exfalso; omega
    have h148 : ∀ (N1 : fp_Mem), frU M N1 → (∀ j : Int, 0 ≤ j → j < vs.length → N1 190 j.toNat = cs j) → (∀ j : Int, 0 ≤ j → j < vs.length → mqRow (N1 189) (40 * j) g (aPgs g vs p pg cs j.toNat)) → (b.1 ≠ -4 → ∀ j : Int, 0 ≤ j → j < vs.length → N1 191 j.toNat = b.2 j) → fp_S l G 7 kX12_most 148 [some (rV G 177), some (iV p), some (iV w), some (iV d3), some (iV b.1), some (iV f), some (iV W), some (iV 0)] [] N1 (qI fun z O => z = (if w = 0 then (aMo g pg vs p).1 else (aMo g pg vs p).2 (w - 10)) ∧ frU M O) := by
      intro N1 f1 c1 l1 r1
      by_cases hlt : b.1 < W
      · refine mbest_loop (cs := cs) hg hvo hp (f1.mv hv) (by unfold fp_rng; omega) (by unfold fp_rng; omega) hlt c1 (fun O o7 fO rO => ?_) (vs.length + 1) 0 N1 (by omega) (by omega) (fun _ _ => rfl) (fun j j0 j1 => by omega)
        refine h199 O o7 (f1.trans ⟨fun c _ _ _ h9 => fO c h9, fun j _ => by rw [fO 178 (by decide)]⟩) (fun j j0 j1 => by rw [fO 190 (by decide)]; exact c1 j j0 j1) (fun j j0 j1 => by rw [fO 189 (by decide)]; exact l1 j j0 j1) (fun _ j j0 j1 => ?_)
        rw [rO j j0 j1]
        unfold moU
        rw [if_pos hlt]
      · have h95 : N1 178 95 = (vs.length : Int) := (f1.mv hv).1
        have h9 := fun o7 => h199 N1 o7 f1 c1 l1 (by unfold moU; rw [if_neg hlt]; exact r1)
        refine S.iload (pc' := 150) dX12_most_148 rfl rfl ?_
        refine S.aload_n (pc' := 151) dX12_most_150 rfl rfl rfl ?_
        refine S.callVe (pc' := 154) dX12_most_151 rfl cX12_225 ok_X12_visits rfl L_177 (by decide) rfl (Nat.le_of_ble_eq_true rfl) ?_
        rw [h95]
        refine S.icmp_ge (pc' := 157) (tgt := 199) dX12_most_154 (by decide) rfl (by unfold fp_rng; omega) (by unfold fp_rng; omega) (fun h154 => ?_) (fun h154 => ?_)
        · exact h9 _
        · refine S.iload (pc' := 159) dX12_most_157 rfl rfl ?_
          refine S.iload (pc' := 161) dX12_most_159 rfl rfl ?_
          refine S.icmp_le (pc' := 164) (tgt := 199) dX12_most_161 (by decide) rfl (by unfold fp_rng; omega) (by unfold fp_rng; omega) (fun h161 => ?_) (fun h161 => ?_)
          · exact h9 _
          · exfalso; omega
    refine S.iload (pc' := 123) dX12_most_121 rfl rfl ?_
    refine S.bipush (pc' := 125) dX12_most_123 rfl (by decide) ?_
    refine S.icmp_eq (pc' := 128) (tgt := 225) dX12_most_125 (by decide) rfl (by unfold fp_rng; omega) (by unfold fp_rng; omega) (fun h125 => ?_) (fun h125 => ?_)
    · exfalso; omega
    · refine S.aload_n (pc' := 129) dX12_most_128 rfl rfl rfl ?_
      refine S.iload_n (pc' := 130) dX12_most_129 rfl rfl rfl ?_
      refine S.iload (pc' := 132) dX12_most_130 rfl rfl ?_
      refine S.callVv (pc' := 135) dX12_most_132 rfl cX12_283 (rk_X12_runsFrom hg hP hvo hp hcs vN dN hch hf hlv) rfl L_177 (by decide) rfl (Nat.le_of_ble_eq_true rfl) (fun M132 q132 => ?_)
      obtain ⟨f1, ⟨q, hq⟩, l1⟩ := q132
      have f2 : frU M M132 := hfr.trans f1.u
      have cW : fp_Ok l G 0 kX12_worthAt [rV G 177, iV 360, iV p] M132 (qE W M132) := by
        rw [← hWe]
        exact rk_X12_worthAt (pg := ((aPgs g vs p pg cs vs.length).1, q, (aPgs g vs p pg cs vs.length).2.2)) (by omega) hq (f1.md dN) hPl hg hp
      refine S.aload_n (pc' := 136) dX12_most_135 rfl rfl rfl ?_
      refine S.sipush (pc' := 139) dX12_most_136 rfl (by decide) ?_
      refine S.iload_n (pc' := 140) dX12_most_139 rfl rfl rfl ?_
      refine S.callVe (pc' := 143) dX12_most_140 rfl cX12_234 cW rfl L_177 (by decide) rfl (Nat.le_of_ble_eq_true rfl) ?_
      refine S.istore (pc' := 145) (LL' := [_, _, _, _, _, _, _, _]) dX12_most_143 rfl (by decide) rfl rfl ?_
      refine S.iconst (pc' := 146) dX12_most_145 rfl ?_
      refine S.istore (pc' := 148) (LL' := [_, _, _, _, _, _, _, _]) dX12_most_146 rfl (by decide) rfl rfl ?_
      have c1 : ∀ j : Int, 0 ≤ j → j < vs.length → M132 190 j.toNat = cs j := fun j j0 j1 => by rw [f1.1 190 (by decide) (by decide)]; exact hch j j0 j1
      exact h148 M132 f2 c1 l1 (fun q j j0 j1 => by rw [f1.1 191 (by decide) (by decide)]; exact hbs q j j0 j1)
theorem minit_loop {p w : Int} {Q : fp_Q} (hg : gOk g) (hvo : vsOk g vs) (hp : 0 ≤ p ∧ p < 4) (hv : mvIs M vs) (K : ∀ (N : fp_Mem), (∀ c, c ≠ 190 → N c = M c) → (∀ j : Nat, j < 12 → N 190 j = 0) → fp_S l G 7 kX12_most 85 [some (rV G 177), some (iV p), some (iV w), some (iV (aDrs vs p vs.length)), some (iV 12), none, none, none] [] N Q) : ∀ (r k : Nat) (N : fp_Mem), 12 - k < r → k ≤ 12 → (∀ c, c ≠ 190 → N c = M c) → (∀ j : Nat, j < k → N 190 j = 0) →
    fp_S l G 7 kX12_most 37 [some (rV G 177), some (iV p), some (iV w), some (iV (aDrs vs p (min k vs.length))), some (iV (k : Int)), none, none, none] [] N Q := by
  have hl := hv.2.1
  intro r
  induction r with
  | zero => intro k N hr; omega
  | succ r ih =>
    intro k N hr hk hf hR
    by_cases he : k < 12
    · have f2 : ∀ c, c ≠ 190 → fp_up N 190 ((k : Int)).toNat 0 c = M c := fun c hc => by rw [fp_up_ne hc]; exact hf c hc
      have r2 : ∀ j : Nat, j < k + 1 → fp_up N 190 ((k : Int)).toNat 0 190 j = 0 := fun j hj => by
        rw [fp_up_at, Int.toNat_natCast]
        by_cases e : j = k
        · subst e; rw [fp_upf_at]
        · rw [fp_upf_ne e]; exact hR j (by omega)
      have vN : mvIs (fp_up N 190 ((k : Int)).toNat 0) vs := hv.kept (fun j _ _ => by rw [f2 178 (by decide)])
      have h95 : fp_up N 190 ((k : Int)).toNat 0 178 95 = (vs.length : Int) := vN.1
      have hst : ∀ z, aDrs vs p (min k vs.length) + z = aDrs vs p (min (k + 1) vs.length) → fp_S l G 7 kX12_most 77 [some (rV G 177), some (iV p), some (iV w), some (iV (aDrs vs p (min k vs.length))), some (iV (k : Int)), none, none, none] [iV z, iV (aDrs vs p (min k vs.length))] (fp_up N 190 ((k : Int)).toNat 0) Q := by
        intro z hz
        refine S.iadd (pc' := 78) dX12_most_77 rfl ?_
        refine S.istore_n (pc' := 79) (LL' := [_, _, _, _, _, _, _, _]) dX12_most_78 rfl (by decide) rfl rfl rfl ?_
        refine S.iinc (pc' := 82) (LL' := [_, _, _, _, _, _, _, _]) dX12_most_79 rfl (by decide) rfl rfl rfl ?_
        refine S.goto (pc' := 37) dX12_most_82 (by decide) ?_
        rw [hz, show ((k : Int) + 1) = ((k + 1 : Nat) : Int) by omega]
        exact ih (k + 1) _ (by omega) (by omega) f2 r2
      by_cases hlt : k < vs.length
      · have cO := rk_X12_isOwn (l := l) (G := G) (p := p) vN hvo hg (by unfold fp_rng; omega) ⟨by omega, show (k : Int) < (vs.length : Int) by omega⟩
        have es : aDrs vs p (min (k + 1) vs.length) = aDrs vs p (min k vs.length) + if aOwn vs p (k : Int) = true then 1 else 0 := by
          rw [show min (k + 1) vs.length = k + 1 by omega, show min k vs.length = k by omega]; rfl
        by_cases ho : aOwn vs p (k : Int) = true
        · rw [if_pos ho] at cO es
          refine S.iload (pc' := 39) dX12_most_37 rfl rfl ?_
          refine S.bipush (pc' := 41) dX12_most_39 rfl (by decide) ?_
          refine S.icmp_ge (pc' := 44) (tgt := 85) dX12_most_41 (by decide) rfl (by unfold fp_rng; omega) (by unfold fp_rng; omega) (fun h41 => ?_) (fun h41 => ?_)
          · exfalso; omega
          · refine S.aload_n (pc' := 45) dX12_most_44 rfl rfl rfl ?_
            refine S.getR (pc' := 48) dX12_most_45 rfl fX12_50 L_177 rf_177_30 ?_
            refine S.iload (pc' := 50) dX12_most_48 rfl rfl ?_
            refine S.iconst (pc' := 51) dX12_most_50 rfl ?_
            refine S.iast (pc' := 52) dX12_most_51 rfl L_190 (by omega) (by omega) ?_
            refine S.iload_n (pc' := 53) dX12_most_52 rfl rfl rfl ?_
            refine S.iload (pc' := 55) dX12_most_53 rfl rfl ?_
            refine S.aload_n (pc' := 56) dX12_most_55 rfl rfl rfl ?_
            refine S.callVe (pc' := 59) dX12_most_56 rfl cX12_225 ok_X12_visits rfl L_177 (by decide) rfl (Nat.le_of_ble_eq_true rfl) ?_
            rw [h95]
            refine S.icmp_ge (pc' := 62) (tgt := 76) dX12_most_59 (by decide) rfl (by unfold fp_rng; omega) (by unfold fp_rng; omega) (fun h59 => ?_) (fun h59 => ?_)
            · first
              | (exfalso; omega)
              | exact absurd h69 (by decide)
            · refine S.aload_n (pc' := 63) dX12_most_62 rfl rfl rfl ?_
              refine S.iload_n (pc' := 64) dX12_most_63 rfl rfl rfl ?_
              refine S.iload (pc' := 66) dX12_most_64 rfl rfl ?_
              refine S.callVe (pc' := 69) dX12_most_66 rfl cX12_280 cO rfl L_177 (by decide) rfl (Nat.le_of_ble_eq_true rfl) ?_
              refine S.if_eq (pc' := 72) (tgt := 76) dX12_most_69 (by decide) rfl (by unfold fp_rng; omega) (fun h69 => ?_) (fun h69 => ?_)
              · first
                | (exfalso; omega)
                | exact absurd h69 (by decide)
              · refine S.iconst (pc' := 73) dX12_most_72 rfl ?_
                refine S.goto (pc' := 77) dX12_most_73 (by decide) ?_
                exact hst _ es.symm
        · rw [if_neg ho] at cO es
          refine S.iload (pc' := 39) dX12_most_37 rfl rfl ?_
          refine S.bipush (pc' := 41) dX12_most_39 rfl (by decide) ?_
          refine S.icmp_ge (pc' := 44) (tgt := 85) dX12_most_41 (by decide) rfl (by unfold fp_rng; omega) (by unfold fp_rng; omega) (fun h41 => ?_) (fun h41 => ?_)
          · exfalso; omega
          · refine S.aload_n (pc' := 45) dX12_most_44 rfl rfl rfl ?_
            refine S.getR (pc' := 48) dX12_most_45 rfl fX12_50 L_177 rf_177_30 ?_
            refine S.iload (pc' := 50) dX12_most_48 rfl rfl ?_
            refine S.iconst (pc' := 51) dX12_most_50 rfl ?_
            refine S.iast (pc' := 52) dX12_most_51 rfl L_190 (by omega) (by omega) ?_
            refine S.iload_n (pc' := 53) dX12_most_52 rfl rfl rfl ?_
            refine S.iload (pc' := 55) dX12_most_53 rfl rfl ?_
            refine S.aload_n (pc' := 56) dX12_most_55 rfl rfl rfl ?_
            refine S.callVe (pc' := 59) dX12_most_56 rfl cX12_225 ok_X12_visits rfl L_177 (by decide) rfl (Nat.le_of_ble_eq_true rfl) ?_
            rw [h95]
            refine S.icmp_ge (pc' := 62) (tgt := 76) dX12_most_59 (by decide) rfl (by unfold fp_rng; omega) (by unfold fp_rng; omega) (fun h59 => ?_) (fun h59 => ?_)
            · refine S.iconst (pc' := 77) dX12_most_76 rfl ?_
              first
              | exact hst _ es.symm
              | (exfalso; omega)
            · refine S.aload_n (pc' := 63) dX12_most_62 rfl rfl rfl ?_
              refine S.iload_n (pc' := 64) dX12_most_63 rfl rfl rfl ?_
              refine S.iload (pc' := 66) dX12_most_64 rfl rfl ?_
              refine S.callVe (pc' := 69) dX12_most_66 rfl cX12_280 cO rfl L_177 (by decide) rfl (Nat.le_of_ble_eq_true rfl) ?_
              refine S.if_eq (pc' := 72) (tgt := 76) dX12_most_69 (by decide) rfl (by unfold fp_rng; omega) (fun h69 => ?_) (fun h69 => ?_)
              · refine S.iconst (pc' := 77) dX12_most_76 rfl ?_
                first
                | exact hst _ es.symm
                | (exfalso; omega)
              · exact absurd rfl h69
      · refine S.iload (pc' := 39) dX12_most_37 rfl rfl ?_
        refine S.bipush (pc' := 41) dX12_most_39 rfl (by decide) ?_
        refine S.icmp_ge (pc' := 44) (tgt := 85) dX12_most_41 (by decide) rfl (by unfold fp_rng; omega) (by unfold fp_rng; omega) (fun h41 => ?_) (fun h41 => ?_)
        · exfalso; omega
        · refine S.aload_n (pc' := 45) dX12_most_44 rfl rfl rfl ?_
          refine S.getR (pc' := 48) dX12_most_45 rfl fX12_50 L_177 rf_177_30 ?_
          refine S.iload (pc' := 50) dX12_most_48 rfl rfl ?_
          refine S.iconst (pc' := 51) dX12_most_50 rfl ?_
          refine S.iast (pc' := 52) dX12_most_51 rfl L_190 (by omega) (by omega) ?_
          refine S.iload_n (pc' := 53) dX12_most_52 rfl rfl rfl ?_
          refine S.iload (pc' := 55) dX12_most_53 rfl rfl ?_
          refine S.aload_n (pc' := 56) dX12_most_55 rfl rfl rfl ?_
          refine S.callVe (pc' := 59) dX12_most_56 rfl cX12_225 ok_X12_visits rfl L_177 (by decide) rfl (Nat.le_of_ble_eq_true rfl) ?_
          rw [h95]
          refine S.icmp_ge (pc' := 62) (tgt := 76) dX12_most_59 (by decide) rfl (by unfold fp_rng; omega) (by unfold fp_rng; omega) (fun h59 => ?_) (fun h59 => ?_)
          · refine S.iconst (pc' := 77) dX12_most_76 rfl ?_
            exact hst _ (by rw [Int.add_zero]; congr 1; omega)
          · exfalso; omega
    · have e : k = 12 := by omega
      subst e
      rw [show min 12 vs.length = vs.length by omega]
      refine S.iload (pc' := 39) dX12_most_37 rfl rfl ?_
      refine S.bipush (pc' := 41) dX12_most_39 rfl (by decide) ?_
      refine S.icmp_ge (pc' := 44) (tgt := 85) dX12_most_41 (by decide) rfl (by unfold fp_rng; omega) (by unfold fp_rng; omega) (fun h41 => ?_) (fun h41 => ?_)
      · exact K N hf hR
      · exfalso; omega
theorem mm_most {p w : Int} (hc : MS M tp fl g pg vs nt im sh tn) (ho : OK g pg vs nt im sh) (hp : fp_rng p) (hw : fp_rng w) : fp_Ok l G 7 kX12_most [rV G 177, iV p, iV w] M (qI fun z N => z = A_most g pg vs p w ∧ MS N tp fl g pg vs nt im sh tn ∧ frD M N) := by
  have hcs := hc
  obtain ⟨-, hd, hcl, hv, -⟩ := hc
  have hg := ho.1
  have hP := ho.2.1
  have hvo := ho.2.2.1
  have hv' : mvIs M vs := hv
  have h95 : M 178 95 = (vs.length : Int) := hv.1
  have hl := hv.2.1
  have e5 : M 177 5 = g.2.1 := hd.2.1
  have hg2 := hg.2.1
  have hD := aDrs_in vs p vs.length
  have hp' := hp
  unfold fp_rng at hp'
  have hw' := hw
  unfold fp_rng at hw'
  refine fp_Ok.of (r := 5) rfl (Nat.le_of_ble_eq_true rfl) rfl ?_
  unfold A_most
  by_cases hin : (0 ≤ p ∧ p < 4) ∧ (w = 0 ∨ (10 ≤ w ∧ w < 10 + vs.length))
  · rw [if_neg (fun q => q hin)]
    have h85 : ∀ (N : fp_Mem), (∀ c, c ≠ 190 → N c = M c) → (∀ j : Nat, j < 12 → N 190 j = 0) → fp_S l G 7 kX12_most 85 [some (rV G 177), some (iV p), some (iV w), some (iV (aDrs vs p vs.length)), some (iV 12), none, none, none] [] N (qI fun z N => z = (if g.2.1 = 0 ∨ 7 < aDrs vs p vs.length then -2 else if w = 0 then (aMo g pg vs p).1 else (aMo g pg vs p).2 (w - 10)) ∧ MS N tp fl g pg vs nt im sh tn ∧ frD M N) := by
      intro N hf hR
      have fN : frU M N := ⟨fun c _ _ h9 _ => hf c h9, fun j _ => by rw [hf 178 (by decide)]⟩
      have n5 : N 177 5 = g.2.1 := by rw [hf 177 (by decide)]; exact e5
      have p0 : mpIs N 0 g pg := by unfold mpIs; rw [hf 178 (by decide)]; exact hcl
      by_cases hst : g.2.1 = 0 ∨ 7 < aDrs vs p vs.length
      · rw [if_pos hst]
        refine S.aload_n (pc' := 86) dX12_most_85 rfl rfl rfl ?_
        refine S.getI (pc' := 89) dX12_most_86 rfl fX12_184 L_177 ?_
        rw [n5]
        refine S.if_eq (pc' := 92) (tgt := 98) dX12_most_89 (by decide) rfl (by unfold fp_rng; omega) (fun h89 => ?_) (fun h89 => ?_)
        · refine S.bipush (pc' := 100) dX12_most_98 rfl (by decide) ?_
          refine S.iret dX12_most_100 rfl ?_
          exact ⟨rfl, hcs.uu ho fN, fN.d⟩
        · refine S.iload_n (pc' := 93) dX12_most_92 rfl rfl rfl ?_
          refine S.bipush (pc' := 95) dX12_most_93 rfl (by decide) ?_
          refine S.icmp_le (pc' := 98) (tgt := 101) dX12_most_95 (by decide) rfl (by unfold fp_rng; omega) (by unfold fp_rng; omega) (fun h95 => ?_) (fun h95 => ?_)
          · exfalso; omega
          · refine S.bipush (pc' := 100) dX12_most_98 rfl (by decide) ?_
            refine S.iret dX12_most_100 rfl ?_
            exact ⟨rfl, hcs.uu ho fN, fN.d⟩
      · rw [if_neg hst]
        refine S.aload_n (pc' := 86) dX12_most_85 rfl rfl rfl ?_
        refine S.getI (pc' := 89) dX12_most_86 rfl fX12_184 L_177 ?_
        rw [n5]
        refine S.if_eq (pc' := 92) (tgt := 98) dX12_most_89 (by decide) rfl (by unfold fp_rng; omega) (fun h89 => ?_) (fun h89 => ?_)
        · exfalso; omega
        · refine S.iload_n (pc' := 93) dX12_most_92 rfl rfl rfl ?_
          refine S.bipush (pc' := 95) dX12_most_93 rfl (by decide) ?_
          refine S.icmp_le (pc' := 98) (tgt := 101) dX12_most_95 (by decide) rfl (by unfold fp_rng; omega) (by unfold fp_rng; omega) (fun h95 => ?_) (fun h95 => ?_)
          · refine S.aload_n (pc' := 102) dX12_most_101 rfl rfl rfl ?_
            refine S.iconst (pc' := 103) dX12_most_102 rfl ?_
            refine S.sipush (pc' := 106) dX12_most_103 rfl (by decide) ?_
            refine S.callVv (pc' := 109) dX12_most_106 rfl cX12_265 (rk_X12_copies p0 hP hg) rfl L_177 (by decide) rfl (Nat.le_of_ble_eq_true rfl) (fun M106 q106 => ?_)
            refine S.aload_n (pc' := 110) dX12_most_109 rfl rfl rfl ?_
            refine S.iconst (pc' := 111) dX12_most_110 rfl ?_
            refine S.callVv (pc' := 114) dX12_most_111 rfl cX12_277 (rk_X12_saves (by omega)) rfl L_177 (by decide) rfl (Nat.le_of_ble_eq_true rfl) (fun M111 q111 => ?_)
            refine S.bipush (pc' := 116) dX12_most_114 rfl (by decide) ?_
            refine S.istore (pc' := 118) (LL' := [_, _, _, _, _, _, _, _]) dX12_most_116 rfl (by decide) rfl rfl ?_
            refine S.iconst (pc' := 119) dX12_most_118 rfl ?_
            refine S.istore (pc' := 121) (LL' := [_, _, _, _, _, _, _, _]) dX12_most_119 rfl (by decide) rfl rfl ?_
            obtain ⟨m1, f1⟩ := q106
            obtain ⟨s1, s2⟩ := q111
            have f3 : frU M M111 := fN.trans ⟨fun c h8 h9 _ _ => by rw [s1 c h9, f1.1 c h8], fun j hj => by rw [s1 178 (by decide)]; exact f1.2 j hj⟩
            refine fp_S.wI (mmost_loop (pg := pg) hg hP hvo hin.1 (by omega) hin.2 hv' hd _ (fun _ => 0) (-4, fun _ => 0) 0 _ _ _ (Nat.lt_succ_self _) (fun j => by omega) (by omega) f3 (fun j j0 j1 => by rw [s1 190 (by decide), f1.1 190 (by decide)]; exact hR _ (by omega)) (fun j j0 j1 => ?_) (fun q => absurd rfl q) (by decide) (aMo_first (by omega)).symm) (fun z O q => ⟨q.1, hcs.uu ho q.2, q.2.d⟩)
            have ej : j = 0 := by omega
            subst ej
            refine (mpRow.mq m1).mov hg hP (fun k k0 k1 => ?_)
            rw [s2, if_pos (by omega)]; congr 1; omega
          · exfalso; omega
    have h32 : fp_S l G 7 kX12_most 32 [some (rV G 177), some (iV p), some (iV w), none, none, none, none, none] [] M (qI fun z N => z = (if g.2.1 = 0 ∨ 7 < aDrs vs p vs.length then -2 else if w = 0 then (aMo g pg vs p).1 else (aMo g pg vs p).2 (w - 10)) ∧ MS N tp fl g pg vs nt im sh tn ∧ frD M N) := by
      refine S.iconst (pc' := 33) dX12_most_32 rfl ?_
      refine S.istore_n (pc' := 34) (LL' := [_, _, _, _, _, _, _, _]) dX12_most_33 rfl (by decide) rfl rfl rfl ?_
      refine S.iconst (pc' := 35) dX12_most_34 rfl ?_
      refine S.istore (pc' := 37) (LL' := [_, _, _, _, _, _, _, _]) dX12_most_35 rfl (by decide) rfl rfl ?_
      have := minit_loop (w := w) hg hvo hin.1 hv' h85 13 0 M (by omega) (by omega) (fun _ _ => rfl) (fun j hj => by omega)
      rw [Nat.zero_min] at this
      exact this
    refine S.iload_n (pc' := 1) dX12_most_0 rfl rfl rfl ?_
    refine S.callSi (pc' := 4) dX12_most_1 rfl cX12_228 (bk_X12_isOne) rfl (by decide) rfl (Nat.le_of_ble_eq_true rfl) (fun z1 M1 q1 => ?_)
    obtain ⟨b1, rfl⟩ := q1
    refine S.if_eq (pc' := 7) (tgt := 30) dX12_most_4 (by decide) rfl (by unfold fp_rng; omega) (fun h4 => ?_) (fun h4 => ?_)
    · exfalso; omega
    · refine S.iload_n (pc' := 8) dX12_most_7 rfl rfl rfl ?_
      refine S.if_eq (pc' := 11) (tgt := 32) dX12_most_8 (by decide) rfl hw (fun h8 => ?_) (fun h8 => ?_)
      · exact h32
      · refine S.iload_n (pc' := 12) dX12_most_11 rfl rfl rfl ?_
        refine S.i2l (pc' := 13) dX12_most_12 rfl hw ?_
        refine S.ldc2 (pc' := 16) (v := 10) dX12_most_13 rfl lX12_212 (by decide) ?_
        refine S.bipush (pc' := 18) dX12_most_16 rfl (by decide) ?_
        refine S.aload_n (pc' := 19) dX12_most_18 rfl rfl rfl ?_
        refine S.callVe (pc' := 22) dX12_most_19 rfl cX12_225 ok_X12_visits rfl L_177 (by decide) rfl (Nat.le_of_ble_eq_true rfl) ?_
        rw [h95]
        refine S.iadd (pc' := 23) dX12_most_22 rfl ?_
        refine S.i2l (pc' := 24) dX12_most_23 rfl (by unfold fp_rng; omega) ?_
        refine S.callSi (pc' := 27) dX12_most_24 rfl cX12_94 (bk_X12_in) rfl (by decide) rfl (Nat.le_of_ble_eq_true rfl) (fun z24 M24 q24 => ?_)
        obtain ⟨b24, rfl⟩ := q24
        refine S.if_ne (pc' := 30) (tgt := 32) dX12_most_27 (by decide) rfl (by unfold fp_rng; omega) (fun h27 => ?_) (fun h27 => ?_)
        · exact h32
        · exfalso; omega
  · rw [if_pos hin]
    refine S.iload_n (pc' := 1) dX12_most_0 rfl rfl rfl ?_
    refine S.callSi (pc' := 4) dX12_most_1 rfl cX12_228 (bk_X12_isOne) rfl (by decide) rfl (Nat.le_of_ble_eq_true rfl) (fun z1 M1 q1 => ?_)
    obtain ⟨b1, rfl⟩ := q1
    refine S.if_eq (pc' := 7) (tgt := 30) dX12_most_4 (by decide) rfl (by unfold fp_rng; omega) (fun h4 => ?_) (fun h4 => ?_)
    · refine S.iconst (pc' := 31) dX12_most_30 rfl ?_
      refine S.iret dX12_most_31 rfl ?_
      exact ⟨rfl, hcs, frD.refl _⟩
    · refine S.iload_n (pc' := 8) dX12_most_7 rfl rfl rfl ?_
      refine S.if_eq (pc' := 11) (tgt := 32) dX12_most_8 (by decide) rfl hw (fun h8 => ?_) (fun h8 => ?_)
      · exfalso; omega
      · refine S.iload_n (pc' := 12) dX12_most_11 rfl rfl rfl ?_
        refine S.i2l (pc' := 13) dX12_most_12 rfl hw ?_
        refine S.ldc2 (pc' := 16) (v := 10) dX12_most_13 rfl lX12_212 (by decide) ?_
        refine S.bipush (pc' := 18) dX12_most_16 rfl (by decide) ?_
        refine S.aload_n (pc' := 19) dX12_most_18 rfl rfl rfl ?_
        refine S.callVe (pc' := 22) dX12_most_19 rfl cX12_225 ok_X12_visits rfl L_177 (by decide) rfl (Nat.le_of_ble_eq_true rfl) ?_
        rw [h95]
        refine S.iadd (pc' := 23) dX12_most_22 rfl ?_
        refine S.i2l (pc' := 24) dX12_most_23 rfl (by unfold fp_rng; omega) ?_
        refine S.callSi (pc' := 27) dX12_most_24 rfl cX12_94 (bk_X12_in) rfl (by decide) rfl (Nat.le_of_ble_eq_true rfl) (fun z24 M24 q24 => ?_)
        obtain ⟨b24, rfl⟩ := q24
        refine S.if_ne (pc' := 30) (tgt := 32) dX12_most_27 (by decide) rfl (by unfold fp_rng; omega) (fun h27 => ?_) (fun h27 => ?_)
        · exfalso; omega
        · refine S.iconst (pc' := 31) dX12_most_30 rfl ?_
          refine S.iret dX12_most_31 rfl ?_
          exact ⟨rfl, hcs, frD.refl _⟩
end MMF
end
section
/-! duel: the class returns and keeps the state -/
theorem fp_iI {a : Int} (h : 0 ≤ a ∧ a < 2147483648) : (Int32.ofInt a).toInt = a := Int32.toInt_ofInt_of_le (by omega) (by omega)
theorem fp_idiv {a b : Int} (ha : 0 ≤ a ∧ a < 2147483648) (hb : 0 < b ∧ b < 2147483648) : Int32.ofInt a / Int32.ofInt b = Int32.ofInt (a / b) := by
  have hq : 0 ≤ a / b ∧ a / b ≤ a := ⟨Int.ediv_nonneg ha.1 (by omega), Int.ediv_le_self b ha.1⟩
  apply Int32.toInt_inj.mp
  rw [fp_iI (by omega), Int32.toInt_div, fp_iI ha, fp_iI (by omega), Int.tdiv_eq_ediv_of_nonneg ha.1]
  exact Int.bmod_eq_of_le (by omega) (by omega)
theorem fp_ine {b : Int} (hb : 0 < b ∧ b < 2147483648) : ¬ Int32.ofInt b = 0 := by
  intro e
  have := congrArg Int32.toInt e
  rw [fp_iI (by omega)] at this
  have h0 : (0 : Int32).toInt = 0 := rfl
  omega
theorem fp_irem {a b : Int} (ha : 0 ≤ a ∧ a < 2147483648) (hb : 0 < b ∧ b < 2147483648) : Int32.ofInt a - Int32.ofInt a / Int32.ofInt b * Int32.ofInt b = Int32.ofInt (a % b) := by
  rw [fp_idiv ha hb, ← Int32.ofInt_mul, ← Int32.ofInt_sub, Int.emod_def, Int.mul_comm]
section CDU
variable {l : Launch} {G : fp_WG} {M N : fp_Mem} {tp : List Int} {fl : Int} {g : aGd} {pg : aPg} {vs : List aVt} {nt : List Int} {im : aIm} {sh : aSh} {tn : Int}
def dRow (M : fp_Mem) (k : Nat) : Prop := ∀ i : Int, 0 ≤ i → i < 8 → 0 ≤ M k i.toNat ∧ M k i.toNat ≤ 10
theorem wk_X0_takeGiven {kind turn : Int} (hgd : gd_ok M 18) (hk : 0 ≤ kind ∧ kind ≤ 2) (ht : 0 ≤ turn ∧ turn ≤ 6) (hrow : dRow M (125 + turn.toNat)) (hlie : 1 ≤ M 132 turn.toNat ∧ M 132 turn.toNat ≤ 8) : fp_Ok l G 1 kX0_takeGiven [rV G 121, rV G 18, iV kind, iV turn] M (qI fun z N => (0 ≤ z ∧ z ≤ 10) ∧ N 132 = fp_upf (M 132) turn.toNat (M 132 turn.toNat - 1) ∧ dRow N (125 + turn.toNat) ∧ ∀ a, a ≠ 132 → a ≠ 125 + turn.toNat → N a = M a) := by
  have hr : fp_lay (125 + turn.toNat) = (1, 8) := drw_a ht.1 (by omega)
  have hL : ∀ (r : Nat) (i s t : Int) (N : fp_Mem), (8 - i).toNat < r → 0 ≤ i → i ≤ 8 → 0 ≤ t ∧ t ≤ 10 → N 132 = fp_upf (M 132) turn.toNat (M 132 turn.toNat - 1) → dRow N (125 + turn.toNat) → (∀ a, a ≠ 132 → a ≠ 125 + turn.toNat → N a = M a) →
      fp_S l G 1 kX0_takeGiven 45 [some (rV G 121), some (rV G 18), some (iV kind), some (iV turn), some (rV G (125 + turn.toNat)), some (iV s), some (iV t), some (iV i)] [] N (qI fun z N => (0 ≤ z ∧ z ≤ 10) ∧ N 132 = fp_upf (M 132) turn.toNat (M 132 turn.toNat - 1) ∧ dRow N (125 + turn.toNat) ∧ ∀ a, a ≠ 132 → a ≠ 125 + turn.toNat → N a = M a) := by
    intro r
    induction r with
    | zero => intro i s t N h; omega
    | succ r ih =>
      intro i s t N h i0 i1 t0 h132 hR hf
      have e1 : N 132 turn.toNat = M 132 turn.toNat - 1 := by rw [h132, fp_upf_at]
      refine S.iload (pc' := 47) dX0_takeGiven_45 rfl rfl ?_
      refine S.aload_n (pc' := 48) dX0_takeGiven_47 rfl rfl rfl ?_
      refine S.getR (pc' := 51) dX0_takeGiven_48 rfl fX0_23 L_121 rf_121_5 ?_
      refine S.iload_n (pc' := 52) dX0_takeGiven_51 rfl rfl rfl ?_
      refine S.iald (pc' := 53) dX0_takeGiven_52 rfl L_132 (by omega) (by omega) ?_
      refine S.icmp_ge (pc' := 56) (tgt := 74) dX0_takeGiven_53 (by decide) rfl (by unfold fp_rng; omega) (by unfold fp_rng; omega) (fun h53 => ?_) (fun h53 => ?_)
      · refine S.iload (pc' := 76) dX0_takeGiven_74 rfl rfl ?_
        refine S.iret dX0_takeGiven_76 rfl ?_
        exact ⟨t0, h132, hR, hf⟩
      · refine S.aload (pc' := 58) dX0_takeGiven_56 rfl rfl ?_
        refine S.iload (pc' := 60) dX0_takeGiven_58 rfl rfl ?_
        refine S.aload (pc' := 62) dX0_takeGiven_60 rfl rfl ?_
        refine S.iload (pc' := 64) dX0_takeGiven_62 rfl rfl ?_
        refine S.iconst (pc' := 65) dX0_takeGiven_64 rfl ?_
        refine S.iadd (pc' := 66) dX0_takeGiven_65 rfl ?_
        refine S.iald (pc' := 67) dX0_takeGiven_66 rfl hr (by omega) (by omega) ?_
        refine S.iast (pc' := 68) dX0_takeGiven_67 rfl hr (by omega) (by omega) ?_
        refine S.iinc (pc' := 71) (LL' := [_, _, _, _, _, _, _, _]) dX0_takeGiven_68 rfl (by decide) rfl rfl rfl ?_
        refine S.goto (pc' := 45) dX0_takeGiven_71 (by decide) ?_
        refine ih _ _ _ _ (by omega) (by omega) (by omega) t0 (by rw [fp_up_ne (by omega)]; exact h132) (fun j j0 j1 => ?_) (fun a a1 a2 => by rw [fp_up_ne a2]; exact hf a a1 a2)
        rw [fp_up_at]
        unfold fp_upf
        split
        · exact hR (i + 1) (by omega) (by omega)
        · exact hR j j0 j1
  have hs := fp_giv_in (kind := kind) (w := fun i => M (18 + 1) (M (125 + turn.toNat) (0 + i).toNat).toNat) (n := M 132 turn.toNat) hlie.1
  have hrow' : ∀ i : Int, 0 ≤ i → i < M 132 turn.toNat → 0 ≤ M (125 + turn.toNat) (0 + i).toNat ∧ M (125 + turn.toNat) (0 + i).toNat ≤ 10 := fun i i0 i1 => by rw [Int.zero_add]; exact hrow i i0 (by omega)
  have hw := hgd.2.2.2.1
  have cG := ok_X11_givenSpot (l := l) (G := G) (M := M) (kind := kind) (fr := 0) (lie := M 132 turn.toNat) gd18 hr (by unfold fp_rng; omega) (by omega) (by omega) (by omega) hlie.1 hrow' hw
  generalize fp_giv kind (fun i => M (18 + 1) (M (125 + turn.toNat) (0 + i).toNat).toNat) (M 132 turn.toNat) = sp at *
  refine fp_Ok.of (r := 4) rfl (Nat.le_of_ble_eq_true rfl) rfl ?_
  refine S.aload_n (pc' := 1) dX0_takeGiven_0 rfl rfl rfl ?_
  refine S.getR (pc' := 4) dX0_takeGiven_1 rfl fX0_20 L_121 rf_121_4 ?_
  refine S.iload_n (pc' := 5) dX0_takeGiven_4 rfl rfl rfl ?_
  refine S.aald (pc' := 6) dX0_takeGiven_5 rfl L_124 (by decide) (by decide) (by omega) (by omega) (drw_r (by omega) (by omega)) ?_
  refine S.astore (pc' := 8) (LL' := [_, _, _, _, _, _, _, _]) dX0_takeGiven_6 rfl (by decide) rfl rfl ?_
  refine S.aload_n (pc' := 9) dX0_takeGiven_8 rfl rfl rfl ?_
  refine S.iload_n (pc' := 10) dX0_takeGiven_9 rfl rfl rfl ?_
  refine S.aload (pc' := 12) dX0_takeGiven_10 rfl rfl ?_
  refine S.iconst (pc' := 13) dX0_takeGiven_12 rfl ?_
  refine S.aload_n (pc' := 14) dX0_takeGiven_13 rfl rfl rfl ?_
  refine S.getR (pc' := 17) dX0_takeGiven_14 rfl fX0_23 L_121 rf_121_5 ?_
  refine S.iload_n (pc' := 18) dX0_takeGiven_17 rfl rfl rfl ?_
  refine S.iald (pc' := 19) dX0_takeGiven_18 rfl L_132 (by omega) (by omega) ?_
  refine S.callSNe (pc' := 22) dX0_takeGiven_19 rfl cX0_72 cG rfl (by decide) rfl (Nat.le_of_ble_eq_true rfl) ?_
  refine S.istore (pc' := 24) (LL' := [_, _, _, _, _, _, _, _]) dX0_takeGiven_22 rfl (by decide) rfl rfl ?_
  refine S.aload (pc' := 26) dX0_takeGiven_24 rfl rfl ?_
  refine S.iload (pc' := 28) dX0_takeGiven_26 rfl rfl ?_
  refine S.iald (pc' := 29) dX0_takeGiven_28 rfl (drw_a (by omega) (by omega)) (by omega) (by omega) ?_
  refine S.istore (pc' := 31) (LL' := [_, _, _, _, _, _, _, _]) dX0_takeGiven_29 rfl (by decide) rfl rfl ?_
  refine S.aload_n (pc' := 32) dX0_takeGiven_31 rfl rfl rfl ?_
  refine S.getR (pc' := 35) dX0_takeGiven_32 rfl fX0_23 L_121 rf_121_5 ?_
  refine S.iload_n (pc' := 36) dX0_takeGiven_35 rfl rfl rfl ?_
  refine S.dup2 (pc' := 37) dX0_takeGiven_36 rfl rfl rfl ?_
  refine S.iald (pc' := 38) dX0_takeGiven_37 rfl L_132 (by omega) (by omega) ?_
  refine S.iconst (pc' := 39) dX0_takeGiven_38 rfl ?_
  refine S.isub (pc' := 40) dX0_takeGiven_39 rfl ?_
  refine S.iast (pc' := 41) dX0_takeGiven_40 rfl L_132 (by omega) (by omega) ?_
  refine S.iload (pc' := 43) dX0_takeGiven_41 rfl rfl ?_
  refine S.istore (pc' := 45) (LL' := [_, _, _, _, _, _, _, _]) dX0_takeGiven_43 rfl (by decide) rfl rfl ?_
  exact hL 9 _ _ _ _ (by omega) (by omega) (by omega) (hrow sp (by omega) (by omega)) (by rw [fp_up_at]) (fun j j0 j1 => by rw [fp_up_ne (by omega)]; exact hrow j j0 j1) (fun a a1 a2 => fp_up_ne a1)
theorem wk_X0_canDo {deed turn mover : Int} (hd : 0 ≤ deed ∧ deed < 3) (ht : 0 ≤ turn ∧ turn ≤ 6) (hm : 0 ≤ mover ∧ mover ≤ 1) (h3 : fp_rng (M 123 mover.toNat)) (hl : fp_rng (M 132 turn.toNat)) : fp_Ok l G 0 kX0_canDo [rV G 121, iV deed, iV turn, iV mover] M (qE (if deed = 1 → (0 < M 123 mover.toNat ∧ M 132 turn.toNat < 8) then 1 else 0) M) := by
  refine fp_Ok.of (r := 0) rfl (Nat.le_of_ble_eq_true rfl) rfl ?_
  refine S.iload_n (pc' := 1) dX0_canDo_0 rfl rfl rfl ?_
  refine S.iconst (pc' := 2) dX0_canDo_1 rfl ?_
  refine S.icmp_ne (pc' := 5) (tgt := 25) dX0_canDo_2 (by decide) rfl (by unfold fp_rng; omega) (by unfold fp_rng; omega) (fun h2 => ?_) (fun h2 => ?_)
  · refine S.iconst (pc' := 26) dX0_canDo_25 rfl ?_
    refine S.goto (pc' := 30) dX0_canDo_26 (by decide) ?_
    refine S.zret dX0_canDo_30 rfl (by first | exact Or.inl rfl | exact Or.inr rfl | omega) ?_
    first
    | exact ⟨by rw [if_pos (fun q => by omega)], rfl⟩
    | exact ⟨by rw [if_neg (fun q => by have := q (by omega); omega)], rfl⟩
  · refine S.aload_n (pc' := 6) dX0_canDo_5 rfl rfl rfl ?_
    refine S.getR (pc' := 9) dX0_canDo_6 rfl fX0_15 L_121 rf_121_3 ?_
    refine S.iload_n (pc' := 10) dX0_canDo_9 rfl rfl rfl ?_
    refine S.iald (pc' := 11) dX0_canDo_10 rfl L_123 (by omega) (by omega) ?_
    refine S.if_le (pc' := 14) (tgt := 29) dX0_canDo_11 (by decide) rfl h3 (fun h11 => ?_) (fun h11 => ?_)
    · refine S.iconst (pc' := 30) dX0_canDo_29 rfl ?_
      refine S.zret dX0_canDo_30 rfl (by first | exact Or.inl rfl | exact Or.inr rfl | omega) ?_
      first
      | exact ⟨by rw [if_pos (fun q => by omega)], rfl⟩
      | exact ⟨by rw [if_neg (fun q => by have := q (by omega); omega)], rfl⟩
    · refine S.aload_n (pc' := 15) dX0_canDo_14 rfl rfl rfl ?_
      refine S.getR (pc' := 18) dX0_canDo_15 rfl fX0_23 L_121 rf_121_5 ?_
      refine S.iload_n (pc' := 19) dX0_canDo_18 rfl rfl rfl ?_
      refine S.iald (pc' := 20) dX0_canDo_19 rfl L_132 (by omega) (by omega) ?_
      refine S.bipush (pc' := 22) dX0_canDo_20 rfl (by decide) ?_
      refine S.icmp_ge (pc' := 25) (tgt := 29) dX0_canDo_22 (by decide) rfl hl (by unfold fp_rng; omega) (fun h22 => ?_) (fun h22 => ?_)
      · refine S.iconst (pc' := 30) dX0_canDo_29 rfl ?_
        refine S.zret dX0_canDo_30 rfl (by first | exact Or.inl rfl | exact Or.inr rfl | omega) ?_
        first
        | exact ⟨by rw [if_pos (fun q => by omega)], rfl⟩
        | exact ⟨by rw [if_neg (fun q => by have := q (by omega); omega)], rfl⟩
      · refine S.iconst (pc' := 26) dX0_canDo_25 rfl ?_
        refine S.goto (pc' := 30) dX0_canDo_26 (by decide) ?_
        refine S.zret dX0_canDo_30 rfl (by first | exact Or.inl rfl | exact Or.inr rfl | omega) ?_
        first
        | exact ⟨by rw [if_pos (fun q => by omega)], rfl⟩
        | exact ⟨by rw [if_neg (fun q => by have := q (by omega); omega)], rfl⟩
theorem wk_X0_perform {kind deed turn mover : Int} (hgd : gd_ok M 18) (hk : 0 ≤ kind ∧ kind ≤ 2) (hd : 0 ≤ deed ∧ deed < 3) (ht : 0 ≤ turn ∧ turn < 6) (hm : 0 ≤ mover ∧ mover ≤ 1) (hpl : 0 ≤ M 122 mover.toNat ∧ M 122 mover.toNat < 4) (hrow : dRow M (125 + turn.toNat)) (hlie : 0 ≤ M 132 turn.toNat ∧ M 132 turn.toNat ≤ 8) (hcan : deed = 1 → M 132 turn.toNat < 8) : fp_Ok l G 2 kX0_perform [rV G 121, rV G 18, iV kind, iV deed, iV turn, iV mover] M (qI fun z N => (-20 ≤ z ∧ z ≤ 20) ∧ dRow N (125 + (turn + 1).toNat) ∧ (0 ≤ N 132 (turn + 1).toNat ∧ N 132 (turn + 1).toNat ≤ 8) ∧ (∀ j, j ≠ (turn + 1).toNat → N 132 j = M 132 j) ∧ N 123 = (if deed = 1 then fp_upf (M 123) mover.toNat (M 123 mover.toNat - 1) else M 123) ∧ ∀ a, a ≠ 123 → a ≠ 132 → a ≠ 125 + (turn + 1).toNat → N a = M a) := by
  refine fp_Ok.of (r := 1) rfl (Nat.le_of_ble_eq_true rfl) rfl ?_
  have h87 : ∀ (N : fp_Mem), (deed = 0 → M 132 turn.toNat ≠ 0 → 1 ≤ N 132 (turn + 1).toNat) → dRow N (125 + (turn + 1).toNat) → (0 ≤ N 132 (turn + 1).toNat ∧ N 132 (turn + 1).toNat ≤ 8) → (∀ j, j ≠ (turn + 1).toNat → N 132 j = M 132 j) → N 123 = (if deed = 1 then fp_upf (M 123) mover.toNat (M 123 mover.toNat - 1) else M 123) → (∀ a, a ≠ 123 → a ≠ 132 → a ≠ 125 + (turn + 1).toNat → N a = M a) →
      fp_S l G 2 kX0_perform 87 [some (rV G 121), some (rV G 18), some (iV kind), some (iV deed), some (iV turn), some (iV mover), none] [] N (qI fun z N => (-20 ≤ z ∧ z ≤ 20) ∧ dRow N (125 + (turn + 1).toNat) ∧ (0 ≤ N 132 (turn + 1).toNat ∧ N 132 (turn + 1).toNat ≤ 8) ∧ (∀ j, j ≠ (turn + 1).toNat → N 132 j = M 132 j) ∧ N 123 = (if deed = 1 then fp_upf (M 123) mover.toNat (M 123 mover.toNat - 1) else M 123) ∧ ∀ a, a ≠ 123 → a ≠ 132 → a ≠ 125 + (turn + 1).toNat → N a = M a) := by
    intro N h1 hR hl h132 h123 hf
    have e1 : N 132 turn.toNat = M 132 turn.toNat := h132 _ (by omega)
    have e2 : N 122 = M 122 := hf 122 (by decide) (by decide) (by omega)
    have gN : gd_ok N 18 := by
      unfold gd_ok at hgd ⊢
      rw [hf 18 (by decide) (by decide) (by omega), hf (18 + 1) (by decide) (by decide) (by omega), hf (18 + 2) (by decide) (by decide) (by omega), hf (18 + 3) (by decide) (by decide) (by omega)]
      exact hgd
    refine S.iload_n (pc' := 88) dX0_perform_87 rfl rfl rfl ?_
    refine S.if_ne (pc' := 91) (tgt := 101) dX0_perform_88 (by decide) rfl (by unfold fp_rng; omega) (fun h88 => ?_) (fun h88 => ?_)
    · refine S.iconst (pc' := 102) dX0_perform_101 rfl ?_
      refine S.iret dX0_perform_102 rfl ?_
      exact ⟨by omega, hR, hl, h132, h123, hf⟩
    · refine S.aload_n (pc' := 92) dX0_perform_91 rfl rfl rfl ?_
      refine S.getR (pc' := 95) dX0_perform_92 rfl fX0_23 L_121 rf_121_5 ?_
      refine S.iload (pc' := 97) dX0_perform_95 rfl rfl ?_
      refine S.iald (pc' := 98) dX0_perform_97 rfl L_132 (by omega) (by omega) ?_
      rw [e1]
      refine S.if_ne (pc' := 101) (tgt := 103) dX0_perform_98 (by decide) rfl (by unfold fp_rng; omega) (fun h98 => ?_) (fun h98 => ?_)
      · refine S.aload_n (pc' := 104) dX0_perform_103 rfl rfl rfl ?_
        refine S.aload_n (pc' := 105) dX0_perform_104 rfl rfl rfl ?_
        refine S.getR (pc' := 108) dX0_perform_105 rfl fX0_9 L_121 rf_121_2 ?_
        refine S.iload (pc' := 110) dX0_perform_108 rfl rfl ?_
        refine S.iald (pc' := 111) dX0_perform_110 rfl L_122 (by omega) (by omega) ?_
        rw [e2]
        refine S.aload_n (pc' := 112) dX0_perform_111 rfl rfl rfl ?_
        refine S.aload_n (pc' := 113) dX0_perform_112 rfl rfl rfl ?_
        refine S.iload_n (pc' := 114) dX0_perform_113 rfl rfl rfl ?_
        refine S.iload (pc' := 116) dX0_perform_114 rfl rfl ?_
        refine S.iconst (pc' := 117) dX0_perform_116 rfl ?_
        refine S.iadd (pc' := 118) dX0_perform_117 rfl ?_
        refine S.callVi (pc' := 121) dX0_perform_118 rfl cX0_65 (wk_X0_takeGiven gN hk (by omega) hR ⟨h1 (by omega) (by omega), hl.2⟩) rfl L_121 (by decide) rfl (Nat.le_of_ble_eq_true rfl) (fun z118 M118 q118 => ?_)
        obtain ⟨z1, t1, t2, t3⟩ := q118
        have gN2 : gd_ok M118 18 := by
          unfold gd_ok at gN ⊢
          rw [t3 18 (by decide) (by omega), t3 (18 + 1) (by decide) (by omega), t3 (18 + 2) (by decide) (by omega), t3 (18 + 3) (by decide) (by omega)]
          exact gN
        refine S.callVe (pc' := 124) dX0_perform_121 rfl cX0_68 (ok_X1_valueTo gd18) rfl (gd_lay gd18) (by decide) rfl (Nat.le_of_ble_eq_true rfl) ?_
        have hvv := gN2.2.2.2.2.1 (z118 * 4 + M 122 mover.toNat) (by omega) (by omega)
        have hret : dRow M118 (125 + (turn + 1).toNat) ∧ (0 ≤ M118 132 (turn + 1).toNat ∧ M118 132 (turn + 1).toNat ≤ 8) ∧ (∀ j, j ≠ (turn + 1).toNat → M118 132 j = M 132 j) ∧ M118 123 = (if deed = 1 then fp_upf (M 123) mover.toNat (M 123 mover.toNat - 1) else M 123) ∧ ∀ a, a ≠ 123 → a ≠ 132 → a ≠ 125 + (turn + 1).toNat → M118 a = M a := by
          refine ⟨t2, ?_, fun j hj => by rw [t1, fp_upf_ne hj]; exact h132 j hj, by rw [t3 123 (by decide) (by omega)]; exact h123, fun a a1 a2 a3 => by rw [t3 a a2 a3]; exact hf a a1 a2 a3⟩
          rw [t1, fp_upf_at]
          have := h1 (by omega) (by omega)
          omega
        refine S.istore (pc' := 126) (LL' := [_, _, _, _, _, _, _]) dX0_perform_124 rfl (by decide) rfl rfl ?_
        refine S.iload (pc' := 128) dX0_perform_126 rfl rfl ?_
        refine S.if_ne (pc' := 131) (tgt := 136) dX0_perform_128 (by decide) rfl (by unfold fp_rng; omega) (fun h128 => ?_) (fun h128 => ?_)
        · refine S.iload (pc' := 138) dX0_perform_136 rfl rfl ?_
          refine S.ineg (pc' := 139) dX0_perform_138 rfl ?_
          refine S.iret dX0_perform_139 rfl ?_
          exact ⟨by omega, hret⟩
        · refine S.iload (pc' := 133) dX0_perform_131 rfl rfl ?_
          refine S.goto (pc' := 139) dX0_perform_133 (by decide) ?_
          refine S.iret dX0_perform_139 rfl ?_
          exact ⟨by omega, hret⟩
      · refine S.iconst (pc' := 102) dX0_perform_101 rfl ?_
        refine S.iret dX0_perform_102 rfl ?_
        exact ⟨by omega, hR, hl, h132, h123, hf⟩
  refine S.aload_n (pc' := 1) dX0_perform_0 rfl rfl rfl ?_
  refine S.getR (pc' := 4) dX0_perform_1 rfl fX0_20 L_121 rf_121_4 ?_
  refine S.iload (pc' := 6) dX0_perform_4 rfl rfl ?_
  refine S.aald (pc' := 7) dX0_perform_6 rfl L_124 (by decide) (by decide) (by omega) (by omega) (drw_r (by omega) (by omega)) ?_
  refine S.iconst (pc' := 8) dX0_perform_7 rfl ?_
  refine S.aload_n (pc' := 9) dX0_perform_8 rfl rfl rfl ?_
  refine S.getR (pc' := 12) dX0_perform_9 rfl fX0_20 L_121 rf_121_4 ?_
  refine S.iload (pc' := 14) dX0_perform_12 rfl rfl ?_
  refine S.iconst (pc' := 15) dX0_perform_14 rfl ?_
  refine S.iadd (pc' := 16) dX0_perform_15 rfl ?_
  refine S.aald (pc' := 17) dX0_perform_16 rfl L_124 (by decide) (by decide) (by omega) (by omega) (drw_r (by omega) (by omega)) ?_
  refine S.iconst (pc' := 18) dX0_perform_17 rfl ?_
  refine S.bipush (pc' := 20) dX0_perform_18 rfl (by decide) ?_
  refine S.copyi (pc' := 23) dX0_perform_20 rfl aX0_31 (drw_a (by omega) (by omega)) (drw_a (by omega) (by omega)) (by decide) (by decide) (by omega) (by omega) (by omega) (by omega) (by omega) (by decide) (Nat.le_of_ble_eq_true rfl) ?_
  generalize hN1 : fp_upM M (125 + (turn + 1).toNat) _ = N1
  have n1 : ∀ a, a ≠ 125 + (turn + 1).toNat → N1 a = M a := fun a ha => by rw [← hN1, fp_upM_ne ha]
  have r1 : dRow N1 (125 + (turn + 1).toNat) := fun i i0 i1 => by
    rw [← hN1, fp_upM_at]
    simp only [va_cpy]
    rw [if_pos (by omega)]
    have := hrow i i0 i1
    rw [show (0 : Int).toNat + (i.toNat - (0 : Int).toNat) = i.toNat by omega]
    exact this
  refine S.aload_n (pc' := 24) dX0_perform_23 rfl rfl rfl ?_
  refine S.getR (pc' := 27) dX0_perform_24 rfl fX0_23 L_121 rf_121_5 ?_
  refine S.iload (pc' := 29) dX0_perform_27 rfl rfl ?_
  refine S.iconst (pc' := 30) dX0_perform_29 rfl ?_
  refine S.iadd (pc' := 31) dX0_perform_30 rfl ?_
  refine S.aload_n (pc' := 32) dX0_perform_31 rfl rfl rfl ?_
  refine S.getR (pc' := 35) dX0_perform_32 rfl fX0_23 L_121 rf_121_5 ?_
  refine S.iload (pc' := 37) dX0_perform_35 rfl rfl ?_
  refine S.iald (pc' := 38) dX0_perform_37 rfl L_132 (by omega) (by omega) ?_
  rw [n1 132 (by omega)]
  refine S.iast (pc' := 39) dX0_perform_38 rfl L_132 (by omega) (by omega) ?_
  generalize hN2 : fp_up N1 132 (turn + 1).toNat (M 132 turn.toNat) = N2
  have n2l : N2 132 (turn + 1).toNat = M 132 turn.toNat := by rw [← hN2, fp_up_at, fp_upf_at]
  have n2o : ∀ j, j ≠ (turn + 1).toNat → N2 132 j = M 132 j := fun j hj => by rw [← hN2, fp_up_at, fp_upf_ne hj, n1 132 (by omega)]
  have n2f : ∀ a, a ≠ 132 → a ≠ 125 + (turn + 1).toNat → N2 a = M a := fun a a1 a2 => by rw [← hN2, fp_up_ne a1, n1 a a2]
  have r2 : dRow N2 (125 + (turn + 1).toNat) := fun i i0 i1 => by rw [← hN2, fp_up_ne (by omega)]; exact r1 i i0 i1
  refine S.iload_n (pc' := 40) dX0_perform_39 rfl rfl rfl ?_
  refine S.iconst (pc' := 41) dX0_perform_40 rfl ?_
  refine S.icmp_ne (pc' := 44) (tgt := 87) dX0_perform_41 (by decide) rfl (by unfold fp_rng; omega) (by unfold fp_rng; omega) (fun h41 => ?_) (fun h41 => ?_)
  · first
    | (refine h87 N2 (fun _ _ => by omega) r2 (by omega) n2o (by rw [if_neg (by omega)]; exact n2f 123 (by decide) (by omega)) (fun a _ a2 a3 => n2f a a2 a3); done)
    | (have hc := hcan (by omega)
       refine h87 _ (fun q => by omega) (fun i i0 i1 => ?_) ?_ (fun j hj => ?_) ?_ (fun a a1 a2 a3 => ?_)
       · rw [fp_up_ne (show 125 + (turn + 1).toNat ≠ 123 by omega), fp_up_ne (show 125 + (turn + 1).toNat ≠ 132 by omega), fp_up_at]
         unfold fp_upf
         split
         · omega
         · exact r2 i i0 i1
       · rw [fp_up_ne (show 132 ≠ 123 by decide), fp_up_at, fp_upf_at]; omega
       · rw [fp_up_ne (show 132 ≠ 123 by decide), fp_up_at, fp_upf_ne hj, fp_up_ne (show 132 ≠ 125 + (turn + 1).toNat by omega)]; exact n2o j hj
       · rw [if_pos (by omega), fp_up_at, fp_up_ne (show 123 ≠ 132 by decide), fp_up_ne (show 123 ≠ 125 + (turn + 1).toNat by omega), n2f 123 (by decide) (by omega)]
       · rw [fp_up_ne a1, fp_up_ne a2, fp_up_ne a3]; exact n2f a a2 a3)
  · refine S.aload_n (pc' := 45) dX0_perform_44 rfl rfl rfl ?_
    refine S.getR (pc' := 48) dX0_perform_45 rfl fX0_20 L_121 rf_121_4 ?_
    refine S.iload (pc' := 50) dX0_perform_48 rfl rfl ?_
    refine S.iconst (pc' := 51) dX0_perform_50 rfl ?_
    refine S.iadd (pc' := 52) dX0_perform_51 rfl ?_
    refine S.aald (pc' := 53) dX0_perform_52 rfl L_124 (by decide) (by decide) (by omega) (by omega) (drw_r (by omega) (by omega)) ?_
    refine S.aload_n (pc' := 54) dX0_perform_53 rfl rfl rfl ?_
    refine S.getR (pc' := 57) dX0_perform_54 rfl fX0_23 L_121 rf_121_5 ?_
    refine S.iload (pc' := 59) dX0_perform_57 rfl rfl ?_
    refine S.iald (pc' := 60) dX0_perform_59 rfl L_132 (by omega) (by omega) ?_
    rw [n2o turn.toNat (by omega)]
    refine S.bipush (pc' := 62) dX0_perform_60 rfl (by decide) ?_
    refine S.iast (pc' := 63) dX0_perform_62 rfl (drw_a (by omega) (by omega)) (by omega) (by have := hcan (by omega); omega) ?_
    refine S.aload_n (pc' := 64) dX0_perform_63 rfl rfl rfl ?_
    refine S.getR (pc' := 67) dX0_perform_64 rfl fX0_23 L_121 rf_121_5 ?_
    refine S.iload (pc' := 69) dX0_perform_67 rfl rfl ?_
    refine S.iconst (pc' := 70) dX0_perform_69 rfl ?_
    refine S.iadd (pc' := 71) dX0_perform_70 rfl ?_
    refine S.dup2 (pc' := 72) dX0_perform_71 rfl rfl rfl ?_
    refine S.iald (pc' := 73) dX0_perform_72 rfl L_132 (by omega) (by omega) ?_
    rw [fp_up_ne (show 132 ≠ 125 + (turn + 1).toNat by omega), n2l]
    refine S.iconst (pc' := 74) dX0_perform_73 rfl ?_
    refine S.iadd (pc' := 75) dX0_perform_74 rfl ?_
    refine S.iast (pc' := 76) dX0_perform_75 rfl L_132 (by omega) (by omega) ?_
    refine S.aload_n (pc' := 77) dX0_perform_76 rfl rfl rfl ?_
    refine S.getR (pc' := 80) dX0_perform_77 rfl fX0_15 L_121 rf_121_3 ?_
    refine S.iload (pc' := 82) dX0_perform_80 rfl rfl ?_
    refine S.dup2 (pc' := 83) dX0_perform_82 rfl rfl rfl ?_
    refine S.iald (pc' := 84) dX0_perform_83 rfl L_123 (by omega) (by omega) ?_
    rw [fp_up_ne (show 123 ≠ 132 by decide), fp_up_ne (show 123 ≠ 125 + (turn + 1).toNat by omega), n2f 123 (by decide) (by omega)]
    refine S.iconst (pc' := 85) dX0_perform_84 rfl ?_
    refine S.isub (pc' := 86) dX0_perform_85 rfl ?_
    refine S.iast (pc' := 87) dX0_perform_86 rfl L_123 (by omega) (by omega) ?_
    first
    | (refine h87 N2 (fun _ _ => by omega) r2 (by omega) n2o (by rw [if_neg (by omega)]; exact n2f 123 (by decide) (by omega)) (fun a _ a2 a3 => n2f a a2 a3); done)
    | (have hc := hcan (by omega)
       refine h87 _ (fun q => by omega) (fun i i0 i1 => ?_) ?_ (fun j hj => ?_) ?_ (fun a a1 a2 a3 => ?_)
       · rw [fp_up_ne (show 125 + (turn + 1).toNat ≠ 123 by omega), fp_up_ne (show 125 + (turn + 1).toNat ≠ 132 by omega), fp_up_at]
         unfold fp_upf
         split
         · omega
         · exact r2 i i0 i1
       · rw [fp_up_ne (show 132 ≠ 123 by decide), fp_up_at, fp_upf_at]; omega
       · rw [fp_up_ne (show 132 ≠ 123 by decide), fp_up_at, fp_upf_ne hj, fp_up_ne (show 132 ≠ 125 + (turn + 1).toNat by omega)]; exact n2o j hj
       · rw [if_pos (by omega), fp_up_at, fp_up_ne (show 123 ≠ 132 by decide), fp_up_ne (show 123 ≠ 125 + (turn + 1).toNat by omega), n2f 123 (by decide) (by omega)]
       · rw [fp_up_ne a1, fp_up_ne a2, fp_up_ne a3]; exact n2f a a2 a3)
end CDU
end
section
/-! duel: the class, all turns -/
def dPre (M : fp_Mem) (turn : Int) : Prop := (0 ≤ M 121 0 ∧ M 121 0 ≤ 6) ∧ (∀ j : Int, 0 ≤ j → j ≤ 1 → (0 ≤ M 122 j.toNat ∧ M 122 j.toNat < 4) ∧ (0 ≤ M 123 j.toNat ∧ M 123 j.toNat ≤ 2)) ∧ dRow M (125 + turn.toNat) ∧ (0 ≤ M 132 turn.toNat ∧ M 132 turn.toNat ≤ 8) ∧ gd_ok M 18
def dPost (M N : fp_Mem) (turn : Int) : Prop := N 121 0 = M 121 0 ∧ N 123 = M 123 ∧ (∀ j : Nat, j ≤ turn.toNat → N 132 j = M 132 j) ∧ ∀ a, a ≠ 121 → a ≠ 123 → a ≠ 132 → (a ≤ 125 + turn.toNat ∨ 131 < a) → N a = M a
theorem dPost.refl (M : fp_Mem) (turn : Int) : dPost M M turn := ⟨rfl, rfl, fun _ _ => rfl, fun _ _ _ _ _ => rfl⟩
theorem dPost.gd {M N : fp_Mem} {turn : Int} (h : dPost M N turn) (hgd : gd_ok M 18) : gd_ok N 18 := by
  unfold gd_ok at hgd ⊢
  rw [h.2.2.2 18 (by decide) (by decide) (by decide) (by omega), h.2.2.2 (18 + 1) (by decide) (by decide) (by decide) (by omega), h.2.2.2 (18 + 2) (by decide) (by decide) (by decide) (by omega), h.2.2.2 (18 + 3) (by decide) (by decide) (by decide) (by omega)]
  exact hgd
theorem dPre.to {M N : fp_Mem} {turn : Int} (h : dPre M turn) (p : dPost M N turn) (ht : turn ≤ 6) : dPre N turn := by
  obtain ⟨h1, h2, h3, h4, h5⟩ := h
  refine ⟨by rw [p.1]; exact h1, fun j j0 j1 => ?_, fun i i0 i1 => ?_, ?_, p.gd h5⟩
  · rw [p.2.2.2 122 (by decide) (by decide) (by decide) (by omega), p.2.1]; exact h2 j j0 j1
  · rw [p.2.2.2 _ (by omega) (by omega) (by omega) (by omega)]; exact h3 i i0 i1
  · rw [p.2.2.1 _ (Nat.le_refl _)]; exact h4
section CDV2
variable {l : Launch} {G : fp_WG} {M N : fp_Mem} {tp : List Int} {fl : Int} {g : aGd} {pg : aPg} {vs : List aVt} {nt : List Int} {im : aIm} {sh : aSh} {tn : Int}
theorem wk_X0_takeBack {deed mover : Int} (hd : 0 ≤ deed ∧ deed < 3) (hm : 0 ≤ mover ∧ mover ≤ 1) : fp_Ok l G 0 kX0_takeBack [rV G 121, iV deed, iV mover] M (qV fun N => N 123 = (if deed = 1 then fp_upf (M 123) mover.toNat (M 123 mover.toNat + 1) else M 123) ∧ ∀ a, a ≠ 123 → N a = M a) := by
  refine fp_Ok.of (r := 0) rfl (Nat.le_of_ble_eq_true rfl) rfl ?_
  refine S.iload_n (pc' := 1) dX0_takeBack_0 rfl rfl rfl ?_
  refine S.iconst (pc' := 2) dX0_takeBack_1 rfl ?_
  refine S.icmp_ne (pc' := 5) (tgt := 15) dX0_takeBack_2 (by decide) rfl (by unfold fp_rng; omega) (by unfold fp_rng; omega) (fun h2 => ?_) (fun h2 => ?_)
  · refine S.vret dX0_takeBack_15 rfl ?_
    first
    | exact ⟨by rw [if_neg (by omega)], fun _ _ => rfl⟩
    | exact ⟨by rw [if_pos (by omega), fp_up_at], fun a ha => fp_up_ne ha⟩
  · refine S.aload_n (pc' := 6) dX0_takeBack_5 rfl rfl rfl ?_
    refine S.getR (pc' := 9) dX0_takeBack_6 rfl fX0_15 L_121 rf_121_3 ?_
    refine S.iload_n (pc' := 10) dX0_takeBack_9 rfl rfl rfl ?_
    refine S.dup2 (pc' := 11) dX0_takeBack_10 rfl rfl rfl ?_
    refine S.iald (pc' := 12) dX0_takeBack_11 rfl L_123 (by omega) (by omega) ?_
    refine S.iconst (pc' := 13) dX0_takeBack_12 rfl ?_
    refine S.iadd (pc' := 14) dX0_takeBack_13 rfl ?_
    refine S.iast (pc' := 15) dX0_takeBack_14 rfl L_123 (by omega) (by omega) ?_
    refine S.vret dX0_takeBack_15 rfl ?_
    first
    | exact ⟨by rw [if_neg (by omega)], fun _ _ => rfl⟩
    | exact ⟨by rw [if_pos (by omega), fp_up_at], fun a ha => fp_up_ne ha⟩
theorem wk_X0_noteFirst {turn deed : Int} (ht : 0 ≤ turn ∧ turn ≤ 6) : fp_Ok l G 0 kX0_noteFirst [rV G 121, iV turn, iV deed] M (qV fun N => N 121 0 = M 121 0 ∧ ∀ a, a ≠ 121 → N a = M a) := by
  refine fp_Ok.of (r := 0) rfl (Nat.le_of_ble_eq_true rfl) rfl ?_
  refine S.iload_n (pc' := 1) dX0_noteFirst_0 rfl rfl rfl ?_
  refine S.if_ne (pc' := 4) (tgt := 9) dX0_noteFirst_1 (by decide) rfl (by unfold fp_rng; omega) (fun h1 => ?_) (fun h1 => ?_)
  · refine S.vret dX0_noteFirst_9 rfl ?_
    first
    | exact ⟨rfl, fun _ _ => rfl⟩
    | exact ⟨by rw [fp_up_at, fp_upf_ne (by decide)], fun a ha => fp_up_ne ha⟩
  · refine S.aload_n (pc' := 5) dX0_noteFirst_4 rfl rfl rfl ?_
    refine S.iload_n (pc' := 6) dX0_noteFirst_5 rfl rfl rfl ?_
    refine S.putI (pc' := 9) dX0_noteFirst_6 rfl fX0_76 L_121 ?_
    refine S.vret dX0_noteFirst_9 rfl ?_
    first
    | exact ⟨rfl, fun _ _ => rfl⟩
    | exact ⟨by rw [fp_up_at, fp_upf_ne (by decide)], fun a ha => fp_up_ne ha⟩
theorem wk_X0_outcome {kind : Int} (hk : 0 ≤ kind ∧ kind ≤ 2) : ∀ (n : Nat) (turn : Int) (M : fp_Mem), 0 ≤ turn → turn + n = 6 → dPre M turn → fp_Ok l G (n + 3) kX0_outcome [rV G 121, rV G 18, iV kind, iV turn] M (qI fun z N => (-(20 * (n : Int)) ≤ z ∧ z ≤ 20 * n) ∧ dPost M N turn) := by
  intro n
  induction n with
  | zero =>
    intro turn M t0 t1 hp
    refine fp_Ok.of (r := 6) rfl (Nat.le_of_ble_eq_true rfl) rfl ?_
    refine S.iload_n (pc' := 1) dX0_outcome_0 rfl rfl rfl ?_
    refine S.bipush (pc' := 3) dX0_outcome_1 rfl (by decide) ?_
    refine S.icmp_ge (pc' := 6) (tgt := 14) dX0_outcome_3 (by decide) rfl (by unfold fp_rng; omega) (by unfold fp_rng; omega) (fun h3 => ?_) (fun h3 => ?_)
    · refine S.iconst (pc' := 15) dX0_outcome_14 rfl ?_
      refine S.iret dX0_outcome_15 rfl ?_
      exact ⟨by omega, dPost.refl _ _⟩
    · exfalso; omega
  | succ n ih =>
    intro turn M t0 t1 hp
    have hp1 := hp.1
    refine fp_Ok.of (r := 6) rfl (Nat.le_of_ble_eq_true rfl) rfl ?_
    have hmv : 0 ≤ turn % 2 ∧ turn % 2 ≤ 1 := by omega
    generalize hmE : turn % 2 = mv at *
    have hL : ∀ (r : Nat) (deed any best : Int) (N : fp_Mem) (o8 o9 : Option Value), (3 - deed).toNat < r → 0 ≤ deed → deed ≤ 3 → 0 ≤ any ∧ any ≤ 1 → -(20 * ((n + 1 : Nat) : Int)) ≤ best ∧ best ≤ 20 * ((n + 1 : Nat) : Int) → dPost M N turn →
        fp_S l G (n + 1 + 3) kX0_outcome 30 [some (rV G 121), some (rV G 18), some (iV kind), some (iV turn), some (iV mv), some (iV any), some (iV best), some (iV deed), o8, o9] [] N (qI fun z N => (-(20 * ((n + 1 : Nat) : Int)) ≤ z ∧ z ≤ 20 * ((n + 1 : Nat) : Int)) ∧ dPost M N turn) := by
      intro r
      induction r with
      | zero => intro deed any best N o8 o9 h; omega
      | succ r ihr =>
        intro deed any best N o8 o9 h d0 d1 hany hbest hpo
        by_cases hlt : deed < 3
        · have hpN := hp.to hpo (by omega)
          obtain ⟨q1, q2, q3, q4, q5⟩ := hpN
          obtain ⟨q21, q22⟩ := q2 mv hmv.1 hmv.2
          have h127 : ∀ (any best : Int) (O : fp_Mem) (o8 o9 : Option Value), 0 ≤ any ∧ any ≤ 1 → -(20 * ((n + 1 : Nat) : Int)) ≤ best ∧ best ≤ 20 * ((n + 1 : Nat) : Int) → dPost M O turn → fp_S l G (n + 1 + 3) kX0_outcome 127 [some (rV G 121), some (rV G 18), some (iV kind), some (iV turn), some (iV mv), some (iV any), some (iV best), some (iV deed), o8, o9] [] O (qI fun z N => (-(20 * ((n + 1 : Nat) : Int)) ≤ z ∧ z ≤ 20 * ((n + 1 : Nat) : Int)) ∧ dPost M N turn) := by
            intro any best O o8 o9 a1 a2 a3
            refine S.iinc (pc' := 130) (LL' := [_, _, _, _, _, _, _, _, _, _]) dX0_outcome_127 rfl (by decide) rfl rfl rfl ?_
            refine S.goto (pc' := 30) dX0_outcome_130 (by decide) ?_
            exact ihr _ _ _ _ _ _ (by omega) (by omega) (by omega) a1 a2 a3
          have cC := wk_X0_canDo (l := l) (G := G) (M := N) (deed := deed) (turn := turn) (mover := mv) ⟨d0, hlt⟩ (by omega) hmv (by unfold fp_rng; omega) (by unfold fp_rng; omega)
          by_cases hcan : deed = 1 → (0 < N 123 mv.toNat ∧ N 132 turn.toNat < 8)
          · rw [if_pos hcan] at cC
            refine S.iload (pc' := 32) dX0_outcome_30 rfl rfl ?_
            refine S.iconst (pc' := 33) dX0_outcome_32 rfl ?_
            refine S.icmp_ge (pc' := 36) (tgt := 133) dX0_outcome_33 (by decide) rfl (by unfold fp_rng; omega) (by unfold fp_rng; omega) (fun h33 => ?_) (fun h33 => ?_)
            · exfalso; omega
            · refine S.aload_n (pc' := 37) dX0_outcome_36 rfl rfl rfl ?_
              refine S.iload (pc' := 39) dX0_outcome_37 rfl rfl ?_
              refine S.iload_n (pc' := 40) dX0_outcome_39 rfl rfl rfl ?_
              refine S.iload (pc' := 42) dX0_outcome_40 rfl rfl ?_
              refine S.callVe (pc' := 45) dX0_outcome_42 rfl cX0_48 cC rfl L_121 (by omega) rfl (Nat.le_of_ble_eq_true rfl) ?_
              refine S.if_ne (pc' := 48) (tgt := 51) dX0_outcome_45 (by decide) rfl (by unfold fp_rng; omega) (fun h45 => ?_) (fun h45 => ?_)
              · refine S.aload_n (pc' := 52) dX0_outcome_51 rfl rfl rfl ?_
                refine S.aload_n (pc' := 53) dX0_outcome_52 rfl rfl rfl ?_
                refine S.iload_n (pc' := 54) dX0_outcome_53 rfl rfl rfl ?_
                refine S.iload (pc' := 56) dX0_outcome_54 rfl rfl ?_
                refine S.iload_n (pc' := 57) dX0_outcome_56 rfl rfl rfl ?_
                refine S.iload (pc' := 59) dX0_outcome_57 rfl rfl ?_
                refine S.callVi (pc' := 62) dX0_outcome_59 rfl cX0_52 (wk_X0_perform q5 hk ⟨d0, hlt⟩ (by omega) hmv q21 q3 q4 (fun q => (hcan q).2)) rfl L_121 (by omega) rfl (Nat.le_of_ble_eq_true rfl) (fun z59 M59 q59 => ?_)
                obtain ⟨p1, p2, p3, p4, p5, p6⟩ := q59
                have hpre1 : dPre M59 (turn + 1) := by
                  refine ⟨by rw [p6 121 (by decide) (by decide) (by omega)]; exact q1, fun j j0 j1 => ?_, p2, p3, ?_⟩
                  · rw [p6 122 (by decide) (by decide) (by omega), p5]
                    refine ⟨(q2 j j0 j1).1, ?_⟩
                    have hj := (q2 j j0 j1).2
                    by_cases e : deed = 1
                    · rw [if_pos e]
                      have := (hcan e).1
                      unfold fp_upf
                      split <;> omega
                    · rw [if_neg e]; exact hj
                  · unfold gd_ok at q5 ⊢
                    rw [p6 18 (by decide) (by decide) (by omega), p6 (18 + 1) (by decide) (by decide) (by omega), p6 (18 + 2) (by decide) (by decide) (by omega), p6 (18 + 3) (by decide) (by decide) (by omega)]
                    exact q5
                refine S.istore (pc' := 64) (LL' := [_, _, _, _, _, _, _, _, _, _]) dX0_outcome_62 rfl (by decide) rfl rfl ?_
                refine S.iload (pc' := 66) dX0_outcome_64 rfl rfl ?_
                refine S.aload_n (pc' := 67) dX0_outcome_66 rfl rfl rfl ?_
                refine S.aload_n (pc' := 68) dX0_outcome_67 rfl rfl rfl ?_
                refine S.iload_n (pc' := 69) dX0_outcome_68 rfl rfl rfl ?_
                refine S.iload_n (pc' := 70) dX0_outcome_69 rfl rfl rfl ?_
                refine S.iconst (pc' := 71) dX0_outcome_70 rfl ?_
                refine S.iadd (pc' := 72) dX0_outcome_71 rfl ?_
                refine S.callVi (pc' := 75) dX0_outcome_72 rfl cX0_44 (ih (turn + 1) M59 (by omega) (by omega) hpre1) rfl L_121 (by omega) rfl (Nat.le_of_ble_eq_true rfl) (fun z72 M72 q72 => ?_)
                obtain ⟨w1, w2⟩ := q72
                refine S.iadd (pc' := 76) dX0_outcome_75 rfl ?_
                refine S.istore (pc' := 78) (LL' := [_, _, _, _, _, _, _, _, _, _]) dX0_outcome_76 rfl (by decide) rfl rfl ?_
                refine S.aload_n (pc' := 79) dX0_outcome_78 rfl rfl rfl ?_
                refine S.iload (pc' := 81) dX0_outcome_79 rfl rfl ?_
                refine S.iload (pc' := 83) dX0_outcome_81 rfl rfl ?_
                refine S.callVv (pc' := 86) dX0_outcome_83 rfl cX0_56 (wk_X0_takeBack ⟨d0, hlt⟩ hmv) rfl L_121 (by omega) rfl (Nat.le_of_ble_eq_true rfl) (fun M83 q83 => ?_)
                obtain ⟨b1, b2⟩ := q83
                have hpo3 : dPost M M83 turn := by
                  refine ⟨?_, ?_, fun j hj => ?_, fun a a1 a2 a3 a4 => ?_⟩
                  · rw [b2 121 (by decide), w2.1, p6 121 (by decide) (by decide) (by omega)]; exact hpo.1
                  · rw [b1, w2.2.1, p5, ← hpo.2.1]
                    by_cases e : deed = 1
                    · rw [if_pos e, if_pos e]
                      funext j
                      unfold fp_upf
                      split
                      · rename_i ej
                        rw [if_pos rfl, ej]; omega
                      · rfl
                    · rw [if_neg e, if_neg e]
                  · rw [b2 132 (by decide), w2.2.2.1 j (by omega), p4 j (by omega)]; exact hpo.2.2.1 j hj
                  · rw [b2 a a2, w2.2.2.2 a a1 a2 a3 (by omega), p6 a a2 a3 (by omega)]; exact hpo.2.2.2 a a1 a2 a3 a4
                refine S.iload (pc' := 88) dX0_outcome_86 rfl rfl ?_
                refine S.if_eq (pc' := 91) (tgt := 113) dX0_outcome_88 (by decide) rfl (by unfold fp_rng; omega) (fun h88 => ?_) (fun h88 => ?_)
                · refine S.iconst (pc' := 114) dX0_outcome_113 rfl ?_
                  refine S.istore (pc' := 116) (LL' := [_, _, _, _, _, _, _, _, _, _]) dX0_outcome_114 rfl (by decide) rfl rfl ?_
                  refine S.iload (pc' := 118) dX0_outcome_116 rfl rfl ?_
                  refine S.istore (pc' := 120) (LL' := [_, _, _, _, _, _, _, _, _, _]) dX0_outcome_118 rfl (by decide) rfl rfl ?_
                  refine S.aload_n (pc' := 121) dX0_outcome_120 rfl rfl rfl ?_
                  refine S.iload_n (pc' := 122) dX0_outcome_121 rfl rfl rfl ?_
                  refine S.iload (pc' := 124) dX0_outcome_122 rfl rfl ?_
                  refine S.callVv (pc' := 127) dX0_outcome_124 rfl cX0_60 (wk_X0_noteFirst (by omega)) rfl L_121 (by omega) rfl (Nat.le_of_ble_eq_true rfl) (fun M124 q124 => ?_)
                  first
                  | exact h127 _ _ _ _ _ hany hbest hpo3
                  | exact h127 _ _ _ _ _ (by omega) (by omega) ⟨q124.1.trans hpo3.1, by rw [q124.2 123 (by decide)]; exact hpo3.2.1, fun j hj => by rw [q124.2 132 (by decide)]; exact hpo3.2.2.1 j hj, fun a a1 a2 a3 a4 => by rw [q124.2 a a1]; exact hpo3.2.2.2 a a1 a2 a3 a4⟩
                · refine S.iload (pc' := 93) dX0_outcome_91 rfl rfl ?_
                  refine S.if_ne (pc' := 96) (tgt := 106) dX0_outcome_93 (by decide) rfl (by unfold fp_rng; omega) (fun h93 => ?_) (fun h93 => ?_)
                  · refine S.iload (pc' := 108) dX0_outcome_106 rfl rfl ?_
                    refine S.iload (pc' := 110) dX0_outcome_108 rfl rfl ?_
                    refine S.icmp_ge (pc' := 113) (tgt := 127) dX0_outcome_110 (by decide) rfl (by unfold fp_rng; omega) (by unfold fp_rng; omega) (fun h110 => ?_) (fun h110 => ?_)
                    · first
                      | exact h127 _ _ _ _ _ hany hbest hpo3
                      | exact h127 _ _ _ _ _ (by omega) (by omega) ⟨q124.1.trans hpo3.1, by rw [q124.2 123 (by decide)]; exact hpo3.2.1, fun j hj => by rw [q124.2 132 (by decide)]; exact hpo3.2.2.1 j hj, fun a a1 a2 a3 a4 => by rw [q124.2 a a1]; exact hpo3.2.2.2 a a1 a2 a3 a4⟩
                    · refine S.iconst (pc' := 114) dX0_outcome_113 rfl ?_
                      refine S.istore (pc' := 116) (LL' := [_, _, _, _, _, _, _, _, _, _]) dX0_outcome_114 rfl (by decide) rfl rfl ?_
                      refine S.iload (pc' := 118) dX0_outcome_116 rfl rfl ?_
                      refine S.istore (pc' := 120) (LL' := [_, _, _, _, _, _, _, _, _, _]) dX0_outcome_118 rfl (by decide) rfl rfl ?_
                      refine S.aload_n (pc' := 121) dX0_outcome_120 rfl rfl rfl ?_
                      refine S.iload_n (pc' := 122) dX0_outcome_121 rfl rfl rfl ?_
                      refine S.iload (pc' := 124) dX0_outcome_122 rfl rfl ?_
                      refine S.callVv (pc' := 127) dX0_outcome_124 rfl cX0_60 (wk_X0_noteFirst (by omega)) rfl L_121 (by omega) rfl (Nat.le_of_ble_eq_true rfl) (fun M124 q124 => ?_)
                      first
                      | exact h127 _ _ _ _ _ hany hbest hpo3
                      | exact h127 _ _ _ _ _ (by omega) (by omega) ⟨q124.1.trans hpo3.1, by rw [q124.2 123 (by decide)]; exact hpo3.2.1, fun j hj => by rw [q124.2 132 (by decide)]; exact hpo3.2.2.1 j hj, fun a a1 a2 a3 a4 => by rw [q124.2 a a1]; exact hpo3.2.2.2 a a1 a2 a3 a4⟩
                  · refine S.iload (pc' := 98) dX0_outcome_96 rfl rfl ?_
                    refine S.iload (pc' := 100) dX0_outcome_98 rfl rfl ?_
                    refine S.icmp_le (pc' := 103) (tgt := 127) dX0_outcome_100 (by decide) rfl (by unfold fp_rng; omega) (by unfold fp_rng; omega) (fun h100 => ?_) (fun h100 => ?_)
                    · first
                      | exact h127 _ _ _ _ _ hany hbest hpo3
                      | exact h127 _ _ _ _ _ (by omega) (by omega) ⟨q124.1.trans hpo3.1, by rw [q124.2 123 (by decide)]; exact hpo3.2.1, fun j hj => by rw [q124.2 132 (by decide)]; exact hpo3.2.2.1 j hj, fun a a1 a2 a3 a4 => by rw [q124.2 a a1]; exact hpo3.2.2.2 a a1 a2 a3 a4⟩
                    · refine S.goto (pc' := 113) dX0_outcome_103 (by decide) ?_
                      refine S.iconst (pc' := 114) dX0_outcome_113 rfl ?_
                      refine S.istore (pc' := 116) (LL' := [_, _, _, _, _, _, _, _, _, _]) dX0_outcome_114 rfl (by decide) rfl rfl ?_
                      refine S.iload (pc' := 118) dX0_outcome_116 rfl rfl ?_
                      refine S.istore (pc' := 120) (LL' := [_, _, _, _, _, _, _, _, _, _]) dX0_outcome_118 rfl (by decide) rfl rfl ?_
                      refine S.aload_n (pc' := 121) dX0_outcome_120 rfl rfl rfl ?_
                      refine S.iload_n (pc' := 122) dX0_outcome_121 rfl rfl rfl ?_
                      refine S.iload (pc' := 124) dX0_outcome_122 rfl rfl ?_
                      refine S.callVv (pc' := 127) dX0_outcome_124 rfl cX0_60 (wk_X0_noteFirst (by omega)) rfl L_121 (by omega) rfl (Nat.le_of_ble_eq_true rfl) (fun M124 q124 => ?_)
                      first
                      | exact h127 _ _ _ _ _ hany hbest hpo3
                      | exact h127 _ _ _ _ _ (by omega) (by omega) ⟨q124.1.trans hpo3.1, by rw [q124.2 123 (by decide)]; exact hpo3.2.1, fun j hj => by rw [q124.2 132 (by decide)]; exact hpo3.2.2.1 j hj, fun a a1 a2 a3 a4 => by rw [q124.2 a a1]; exact hpo3.2.2.2 a a1 a2 a3 a4⟩
              · exact absurd h45 (by decide)
          · rw [if_neg hcan] at cC
            refine S.iload (pc' := 32) dX0_outcome_30 rfl rfl ?_
            refine S.iconst (pc' := 33) dX0_outcome_32 rfl ?_
            refine S.icmp_ge (pc' := 36) (tgt := 133) dX0_outcome_33 (by decide) rfl (by unfold fp_rng; omega) (by unfold fp_rng; omega) (fun h33 => ?_) (fun h33 => ?_)
            · exfalso; omega
            · refine S.aload_n (pc' := 37) dX0_outcome_36 rfl rfl rfl ?_
              refine S.iload (pc' := 39) dX0_outcome_37 rfl rfl ?_
              refine S.iload_n (pc' := 40) dX0_outcome_39 rfl rfl rfl ?_
              refine S.iload (pc' := 42) dX0_outcome_40 rfl rfl ?_
              refine S.callVe (pc' := 45) dX0_outcome_42 rfl cX0_48 cC rfl L_121 (by omega) rfl (Nat.le_of_ble_eq_true rfl) ?_
              refine S.if_ne (pc' := 48) (tgt := 51) dX0_outcome_45 (by decide) rfl (by unfold fp_rng; omega) (fun h45 => ?_) (fun h45 => ?_)
              · exact absurd rfl h45
              · refine S.goto (pc' := 127) dX0_outcome_48 (by decide) ?_
                exact h127 _ _ _ _ _ hany hbest hpo
        · refine S.iload (pc' := 32) dX0_outcome_30 rfl rfl ?_
          refine S.iconst (pc' := 33) dX0_outcome_32 rfl ?_
          refine S.icmp_ge (pc' := 36) (tgt := 133) dX0_outcome_33 (by decide) rfl (by unfold fp_rng; omega) (by unfold fp_rng; omega) (fun h33 => ?_) (fun h33 => ?_)
          · refine S.iload (pc' := 135) dX0_outcome_133 rfl rfl ?_
            refine S.iret dX0_outcome_135 rfl ?_
            exact ⟨hbest, hpo⟩
          · exfalso; omega
    refine S.iload_n (pc' := 1) dX0_outcome_0 rfl rfl rfl ?_
    refine S.bipush (pc' := 3) dX0_outcome_1 rfl (by decide) ?_
    refine S.icmp_ge (pc' := 6) (tgt := 14) dX0_outcome_3 (by decide) rfl (by unfold fp_rng; omega) (by unfold fp_rng; omega) (fun h3 => ?_) (fun h3 => ?_)
    · refine S.iconst (pc' := 15) dX0_outcome_14 rfl ?_
      refine S.iret dX0_outcome_15 rfl ?_
      exact ⟨by omega, dPost.refl _ _⟩
    · refine S.iload_n (pc' := 7) dX0_outcome_6 rfl rfl rfl ?_
      refine S.aload_n (pc' := 8) dX0_outcome_7 rfl rfl rfl ?_
      refine S.getI (pc' := 11) dX0_outcome_8 rfl fX0_40 L_121 ?_
      refine S.icmp_lt (pc' := 14) (tgt := 16) dX0_outcome_11 (by decide) rfl (by unfold fp_rng; omega) (by unfold fp_rng; omega) (fun h11 => ?_) (fun h11 => ?_)
      · refine S.iload_n (pc' := 17) dX0_outcome_16 rfl rfl rfl ?_
        refine S.iconst (pc' := 18) dX0_outcome_17 rfl ?_
        refine S.irem (pc' := 19) dX0_outcome_18 rfl (by decide) (fp_irem (by omega) (by omega)) ?_
        rw [hmE]
        refine S.istore (pc' := 21) (LL' := [_, _, _, _, _, _, _, _, _, _]) dX0_outcome_19 rfl (by decide) rfl rfl ?_
        refine S.iconst (pc' := 22) dX0_outcome_21 rfl ?_
        refine S.istore (pc' := 24) (LL' := [_, _, _, _, _, _, _, _, _, _]) dX0_outcome_22 rfl (by decide) rfl rfl ?_
        refine S.iconst (pc' := 25) dX0_outcome_24 rfl ?_
        refine S.istore (pc' := 27) (LL' := [_, _, _, _, _, _, _, _, _, _]) dX0_outcome_25 rfl (by decide) rfl rfl ?_
        refine S.iconst (pc' := 28) dX0_outcome_27 rfl ?_
        refine S.istore (pc' := 30) (LL' := [_, _, _, _, _, _, _, _, _, _]) dX0_outcome_28 rfl (by decide) rfl rfl ?_
        exact hL 4 0 0 0 M none none (by omega) (by omega) (by omega) (by omega) (by omega) (dPost.refl _ _)
      · refine S.iconst (pc' := 15) dX0_outcome_14 rfl ?_
        refine S.iret dX0_outcome_15 rfl ?_
        exact ⟨by omega, dPost.refl _ _⟩
theorem wk_X0_fight {kind : Int} (hk : 0 ≤ kind ∧ kind ≤ 2) (hp : dPre M 0) : fp_Ok l G 10 kX0_fight [rV G 121, rV G 18, iV kind] M (qI fun z N => (-120 ≤ z ∧ z ≤ 120) ∧ dPost M N 0) := by
  refine fp_Ok.of (r := 0) rfl (Nat.le_of_ble_eq_true rfl) rfl ?_
  refine S.aload_n (pc' := 1) dX0_fight_0 rfl rfl rfl ?_
  refine S.aload_n (pc' := 2) dX0_fight_1 rfl rfl rfl ?_
  refine S.iload_n (pc' := 3) dX0_fight_2 rfl rfl rfl ?_
  refine S.iconst (pc' := 4) dX0_fight_3 rfl ?_
  refine S.callVi (pc' := 7) dX0_fight_4 rfl cX0_44 (wk_X0_outcome hk 6 0 M (by omega) (by omega) hp) rfl L_121 (by decide) rfl (Nat.le_of_ble_eq_true rfl) (fun z4 M4 q4 => ?_)
  refine S.iret dX0_fight_7 rfl ?_
  exact ⟨by have := q4.1; omega, q4.2⟩
theorem wk_X0_prepare {x p q r n : Int} (hx : 0 ≤ x ∧ x < 3) (hp : 0 ≤ p ∧ p < 4) (hq : 0 ≤ q ∧ q < 4) (hr : 0 ≤ r ∧ r ≤ 2) (hn : 1 ≤ n ∧ n ≤ 6) (hpl : pl_ok M 22) (hgd : gd_ok M 18) : fp_Ok l G 1 kX0_prepare [rV G 121, rV G 22, iV x, iV p, iV q, iV r, iV n] M (qV fun N => dPre N 0 ∧ ∀ a, (a < 121 ∨ 132 < a) → N a = M a) := by
  have h2 := hpl.2.1 x hx.1 hx.2
  refine fp_Ok.of (r := 0) rfl (Nat.le_of_ble_eq_true rfl) rfl ?_
  refine S.aload_n (pc' := 1) dX0_prepare_0 rfl rfl rfl ?_
  refine S.getR (pc' := 4) dX0_prepare_1 rfl fX0_26 (pl_lay pl22) (pl_r3 pl22) ?_
  refine S.iload_n (pc' := 5) dX0_prepare_4 rfl rfl rfl ?_
  refine S.bipush (pc' := 7) dX0_prepare_5 rfl (by decide) ?_
  refine S.imul (pc' := 8) dX0_prepare_7 rfl ?_
  refine S.aload_n (pc' := 9) dX0_prepare_8 rfl rfl rfl ?_
  refine S.getR (pc' := 12) dX0_prepare_9 rfl fX0_20 L_121 rf_121_4 ?_
  refine S.iconst (pc' := 13) dX0_prepare_12 rfl ?_
  refine S.aald (pc' := 14) (t := 125) dX0_prepare_13 rfl L_124 (by decide) (by decide) (by omega) (by omega) (by decide +kernel) ?_
  refine S.iconst (pc' := 15) dX0_prepare_14 rfl ?_
  refine S.bipush (pc' := 17) dX0_prepare_15 rfl (by decide) ?_
  refine S.copyi (pc' := 20) dX0_prepare_17 rfl aX0_31 (pl_a3 pl22) L_125 (by decide) (by decide) (by omega) (by omega) (by omega) (by omega) (by omega) (by decide) (Nat.le_of_ble_eq_true rfl) ?_
  generalize hN1 : fp_upM M 125 _ = N1
  have n1 : ∀ a, a ≠ 125 → N1 a = M a := fun a ha => by rw [← hN1, fp_upM_ne ha]
  have r1 : dRow N1 125 := fun i i0 i1 => by
    rw [← hN1, fp_upM_at]
    simp only [va_cpy]
    rw [if_pos (by omega)]
    have := hpl.2.2 (x * 8 + i) (by omega) (by omega)
    rw [show (x * 8).toNat + (i.toNat - (0 : Int).toNat) = (x * 8 + i).toNat by omega]
    exact ⟨this.1, by have := this.2; omega⟩
  refine S.aload_n (pc' := 21) dX0_prepare_20 rfl rfl rfl ?_
  refine S.getR (pc' := 24) dX0_prepare_21 rfl fX0_23 L_121 rf_121_5 ?_
  refine S.iconst (pc' := 25) dX0_prepare_24 rfl ?_
  refine S.aload_n (pc' := 26) dX0_prepare_25 rfl rfl rfl ?_
  refine S.getR (pc' := 29) dX0_prepare_26 rfl fX0_37 (pl_lay pl22) (pl_r2 pl22) ?_
  refine S.iload_n (pc' := 30) dX0_prepare_29 rfl rfl rfl ?_
  refine S.iald (pc' := 31) dX0_prepare_30 rfl (pl_a2 pl22) (by omega) (by omega) ?_
  rw [n1 _ (by decide)]
  refine S.iast (pc' := 32) dX0_prepare_31 rfl L_132 (by omega) (by omega) ?_
  refine S.aload_n (pc' := 33) dX0_prepare_32 rfl rfl rfl ?_
  refine S.getR (pc' := 36) dX0_prepare_33 rfl fX0_9 L_121 rf_121_2 ?_
  refine S.iconst (pc' := 37) dX0_prepare_36 rfl ?_
  refine S.iload_n (pc' := 38) dX0_prepare_37 rfl rfl rfl ?_
  refine S.iast (pc' := 39) dX0_prepare_38 rfl L_122 (by omega) (by omega) ?_
  refine S.aload_n (pc' := 40) dX0_prepare_39 rfl rfl rfl ?_
  refine S.getR (pc' := 43) dX0_prepare_40 rfl fX0_9 L_121 rf_121_2 ?_
  refine S.iconst (pc' := 44) dX0_prepare_43 rfl ?_
  refine S.iload (pc' := 46) dX0_prepare_44 rfl rfl ?_
  refine S.iast (pc' := 47) dX0_prepare_46 rfl L_122 (by omega) (by omega) ?_
  refine S.aload_n (pc' := 48) dX0_prepare_47 rfl rfl rfl ?_
  refine S.getR (pc' := 51) dX0_prepare_48 rfl fX0_15 L_121 rf_121_3 ?_
  refine S.iconst (pc' := 52) dX0_prepare_51 rfl ?_
  refine S.iload (pc' := 54) dX0_prepare_52 rfl rfl ?_
  refine S.iast (pc' := 55) dX0_prepare_54 rfl L_123 (by omega) (by omega) ?_
  refine S.aload_n (pc' := 56) dX0_prepare_55 rfl rfl rfl ?_
  refine S.getR (pc' := 59) dX0_prepare_56 rfl fX0_15 L_121 rf_121_3 ?_
  refine S.iconst (pc' := 60) dX0_prepare_59 rfl ?_
  refine S.iload (pc' := 62) dX0_prepare_60 rfl rfl ?_
  refine S.iast (pc' := 63) dX0_prepare_62 rfl L_123 (by omega) (by omega) ?_
  refine S.aload_n (pc' := 64) dX0_prepare_63 rfl rfl rfl ?_
  refine S.iload (pc' := 66) dX0_prepare_64 rfl rfl ?_
  refine S.putI (pc' := 69) dX0_prepare_66 rfl fX0_40 L_121 ?_
  refine S.vret dX0_prepare_69 rfl ?_
  refine ⟨⟨?_, fun j j0 j1 => ?_, fun i i0 i1 => ?_, ?_, ?_⟩, fun a ha => ?_⟩
  · rw [fp_up_at, fp_upf_at]; omega
  · rw [fp_up_ne (show 122 ≠ 121 by decide), fp_up_ne (show 122 ≠ 123 by decide), fp_up_ne (show 122 ≠ 123 by decide), fp_up_at, fp_up_at, fp_up_ne (show 123 ≠ 121 by decide), fp_up_at, fp_up_at]
    rcases (show j = 0 ∨ j = 1 by omega) with rfl | rfl
    · exact ⟨by simp [fp_upf]; omega, by simp [fp_upf]; omega⟩
    · exact ⟨by simp [fp_upf]; omega, by simp [fp_upf]; omega⟩
  · rw [fp_up_ne (by decide), fp_up_ne (by decide), fp_up_ne (by decide), fp_up_ne (by decide), fp_up_ne (by decide), fp_up_ne (by decide)]; exact r1 i i0 i1
  · rw [fp_up_ne (by decide), fp_up_ne (by decide), fp_up_ne (by decide), fp_up_ne (by decide), fp_up_ne (by decide), fp_up_at]
    simp [fp_upf]; exact h2
  · unfold gd_ok at hgd ⊢
    simp only [fp_up, fp_upM] at hgd ⊢
    simpa [n1] using hgd
  · rw [fp_up_ne (by omega), fp_up_ne (by omega), fp_up_ne (by omega), fp_up_ne (by omega), fp_up_ne (by omega), fp_up_ne (by omega)]; exact n1 a (by omega)
theorem cw_duel {x p q r n w : Int} (hc : CS M tp fl g pg vs nt im sh tn) (ho : OK g pg vs nt im sh) (hx : fp_rng x) (hp : fp_rng p) (hq : fp_rng q) (hr : fp_rng r) (hn : fp_rng n) (hw : fp_rng w) : fp_Ok l G 11 kX11_duel [rV G 0, iV x, iV p, iV q, iV r, iV n, iV w] M (qI fun _ N => CS N tp fl g pg vs nt im sh tn ∧ frC M N) := by
  have hcs := hc
  obtain ⟨-, hd, hcl, hv, -⟩ := hc
  obtain ⟨hg, hP, hvo, -⟩ := ho
  have hg1 := hg.1
  have hg2 := hg.2.1
  have hgd := hd.2.2.2.2.2.2.2.2
  have hpl := hcl.2.2.2.2
  have hw' := hw
  unfold fp_rng at hw'
  refine fp_Ok.of (r := 1) rfl (Nat.le_of_ble_eq_true rfl) rfl ?_
  refine S.aload_n (pc' := 1) dX11_duel_0 rfl rfl rfl ?_
  refine S.getR (pc' := 4) dX11_duel_1 rfl fX11_23 L_0 rf_0_3 ?_
  refine S.iload_n (pc' := 5) dX11_duel_4 rfl rfl rfl ?_
  refine S.callVi (pc' := 8) dX11_duel_5 rfl cX11_148 (bk_X1_hasLine gd18) rfl (gd_lay gd18) (by decide) rfl (Nat.le_of_ble_eq_true rfl) (fun z5 M5 q5 => ?_)
  obtain ⟨b5, rfl⟩ := q5
  refine S.if_eq (pc' := 11) (tgt := 30) dX11_duel_8 (by decide) rfl (by unfold fp_rng; omega) (fun h8 => ?_) (fun h8 => ?_)
  · refine S.iconst (pc' := 31) dX11_duel_30 rfl ?_
    refine S.iret dX11_duel_31 rfl ?_
    exact ⟨hcs, frC.refl _⟩
  · refine S.iload_n (pc' := 12) dX11_duel_11 rfl rfl rfl ?_
    refine S.callSi (pc' := 15) dX11_duel_12 rfl cX11_181 (bk_X11_isOne) rfl (by decide) rfl (Nat.le_of_ble_eq_true rfl) (fun z12 M12 q12 => ?_)
    obtain ⟨b12, rfl⟩ := q12
    refine S.if_eq (pc' := 18) (tgt := 30) dX11_duel_15 (by decide) rfl (by unfold fp_rng; omega) (fun h15 => ?_) (fun h15 => ?_)
    · refine S.iconst (pc' := 31) dX11_duel_30 rfl ?_
      refine S.iret dX11_duel_31 rfl ?_
      exact ⟨hcs, frC.refl _⟩
    · refine S.iload_n (pc' := 19) dX11_duel_18 rfl rfl rfl ?_
      refine S.callSi (pc' := 22) dX11_duel_19 rfl cX11_181 (bk_X11_isOne) rfl (by decide) rfl (Nat.le_of_ble_eq_true rfl) (fun z19 M19 q19 => ?_)
      obtain ⟨b19, rfl⟩ := q19
      refine S.if_eq (pc' := 25) (tgt := 30) dX11_duel_22 (by decide) rfl (by unfold fp_rng; omega) (fun h22 => ?_) (fun h22 => ?_)
      · refine S.iconst (pc' := 31) dX11_duel_30 rfl ?_
        refine S.iret dX11_duel_31 rfl ?_
        exact ⟨hcs, frC.refl _⟩
      · refine S.iload_n (pc' := 26) dX11_duel_25 rfl rfl rfl ?_
        refine S.iload_n (pc' := 27) dX11_duel_26 rfl rfl rfl ?_
        refine S.icmp_ne (pc' := 30) (tgt := 32) dX11_duel_27 (by decide) rfl hp hq (fun h27 => ?_) (fun h27 => ?_)
        · refine S.iload (pc' := 34) dX11_duel_32 rfl rfl ?_
          refine S.iconst (pc' := 35) dX11_duel_34 rfl ?_
          refine S.callSi (pc' := 38) dX11_duel_35 rfl cX11_221 (bk_X11_isWithin) rfl (by decide) rfl (Nat.le_of_ble_eq_true rfl) (fun z35 M35 q35 => ?_)
          obtain ⟨b35, rfl⟩ := q35
          refine S.if_eq (pc' := 41) (tgt := 63) dX11_duel_38 (by decide) rfl (by unfold fp_rng; omega) (fun h38 => ?_) (fun h38 => ?_)
          · refine S.iconst (pc' := 64) dX11_duel_63 rfl ?_
            refine S.iret dX11_duel_64 rfl ?_
            exact ⟨hcs, frC.refl _⟩
          · refine S.iload (pc' := 43) dX11_duel_41 rfl rfl ?_
            refine S.iconst (pc' := 44) dX11_duel_43 rfl ?_
            refine S.icmp_lt (pc' := 47) (tgt := 63) dX11_duel_44 (by decide) rfl hn (by unfold fp_rng; omega) (fun h44 => ?_) (fun h44 => ?_)
            · refine S.iconst (pc' := 64) dX11_duel_63 rfl ?_
              refine S.iret dX11_duel_64 rfl ?_
              exact ⟨hcs, frC.refl _⟩
            · refine S.iload (pc' := 49) dX11_duel_47 rfl rfl ?_
              refine S.bipush (pc' := 51) dX11_duel_49 rfl (by decide) ?_
              refine S.icmp_gt (pc' := 54) (tgt := 63) dX11_duel_51 (by decide) rfl hn (by unfold fp_rng; omega) (fun h51 => ?_) (fun h51 => ?_)
              · refine S.iconst (pc' := 64) dX11_duel_63 rfl ?_
                refine S.iret dX11_duel_64 rfl ?_
                exact ⟨hcs, frC.refl _⟩
              · refine S.iload (pc' := 56) dX11_duel_54 rfl rfl ?_
                refine S.iconst (pc' := 57) dX11_duel_56 rfl ?_
                refine S.callSi (pc' := 60) dX11_duel_57 rfl cX11_221 (bk_X11_isWithin) rfl (by decide) rfl (Nat.le_of_ble_eq_true rfl) (fun z57 M57 q57 => ?_)
                obtain ⟨b57, rfl⟩ := q57
                refine S.if_ne (pc' := 63) (tgt := 65) dX11_duel_60 (by decide) rfl (by unfold fp_rng; omega) (fun h60 => ?_) (fun h60 => ?_)
                · refine S.aload_n (pc' := 66) dX11_duel_65 rfl rfl rfl ?_
                  refine S.getR (pc' := 69) dX11_duel_66 rfl fX11_58 L_0 rf_0_8 ?_
                  refine S.aload_n (pc' := 70) dX11_duel_69 rfl rfl rfl ?_
                  refine S.getR (pc' := 73) dX11_duel_70 rfl fX11_30 L_0 rf_0_4 ?_
                  refine S.iload_n (pc' := 74) dX11_duel_73 rfl rfl rfl ?_
                  refine S.iload_n (pc' := 75) dX11_duel_74 rfl rfl rfl ?_
                  refine S.iload_n (pc' := 76) dX11_duel_75 rfl rfl rfl ?_
                  refine S.iload (pc' := 78) dX11_duel_76 rfl rfl ?_
                  refine S.iload (pc' := 80) dX11_duel_78 rfl rfl ?_
                  refine S.callVv (pc' := 83) dX11_duel_80 rfl cX11_271 (wk_X0_prepare (by omega) (by omega) (by omega) (by omega) (by omega) hpl hgd) rfl L_121 (by decide) rfl (Nat.le_of_ble_eq_true rfl) (fun M80 q80 => ?_)
                  obtain ⟨d1, f1⟩ := q80
                  have hkd := d1.2.2.2.2.2.2.2.2.2 x (by omega) (by omega)
                  refine S.aload_n (pc' := 84) dX11_duel_83 rfl rfl rfl ?_
                  refine S.getR (pc' := 87) dX11_duel_84 rfl fX11_58 L_0 rf_0_8 ?_
                  refine S.aload_n (pc' := 88) dX11_duel_87 rfl rfl rfl ?_
                  refine S.getR (pc' := 91) dX11_duel_88 rfl fX11_23 L_0 rf_0_3 ?_
                  refine S.aload_n (pc' := 92) dX11_duel_91 rfl rfl rfl ?_
                  refine S.getR (pc' := 95) dX11_duel_92 rfl fX11_23 L_0 rf_0_3 ?_
                  refine S.getR (pc' := 98) dX11_duel_95 rfl fX11_156 (gd_lay gd18) (gd_r5 gd18) ?_
                  refine S.iload_n (pc' := 99) dX11_duel_98 rfl rfl rfl ?_
                  refine S.iald (pc' := 100) dX11_duel_99 rfl (gd_a5 gd18) (by omega) (by omega) ?_
                  refine S.callVi (pc' := 103) dX11_duel_100 rfl cX11_275 (wk_X0_fight hkd d1) rfl L_121 (by decide) rfl (Nat.le_of_ble_eq_true rfl) (fun z100 M100 q100 => ?_)
                  obtain ⟨z2, d2⟩ := q100
                  have fz : frZ M M100 := fun a ha => by rw [d2.2.2.2 a (by omega) (by omega) (by omega) (by omega)]; exact f1 a (by omega)
                  refine S.istore (pc' := 105) (LL' := [_, _, _, _, _, _, _, _]) dX11_duel_103 rfl (by decide) rfl rfl ?_
                  refine S.iload (pc' := 107) dX11_duel_105 rfl rfl ?_
                  refine S.if_ne (pc' := 110) (tgt := 119) dX11_duel_107 (by decide) rfl hw (fun h107 => ?_) (fun h107 => ?_)
                  · refine S.aload_n (pc' := 120) dX11_duel_119 rfl rfl rfl ?_
                    refine S.getR (pc' := 123) dX11_duel_120 rfl fX11_58 L_0 rf_0_8 ?_
                    refine S.getI (pc' := 126) dX11_duel_123 rfl fX11_278 L_121 ?_
                    refine S.iret dX11_duel_126 rfl ?_
                    exact ⟨hcs.scz fz, fz.c⟩
                  · refine S.iload (pc' := 112) dX11_duel_110 rfl rfl ?_
                    refine S.sipush (pc' := 115) dX11_duel_112 rfl (by decide) ?_
                    refine S.iadd (pc' := 116) dX11_duel_115 rfl ?_
                    refine S.goto (pc' := 126) dX11_duel_116 (by decide) ?_
                    refine S.iret dX11_duel_126 rfl ?_
                    exact ⟨hcs.scz fz, fz.c⟩
                · refine S.iconst (pc' := 64) dX11_duel_63 rfl ?_
                  refine S.iret dX11_duel_64 rfl ?_
                  exact ⟨hcs, frC.refl _⟩
        · refine S.iconst (pc' := 31) dX11_duel_30 rfl ?_
          refine S.iret dX11_duel_31 rfl ?_
          exact ⟨hcs, frC.refl _⟩
end CDV2
end
section
/-! duel: the reference returns and keeps the state: one row of moves -/
theorem pow3_in {j : Nat} (h : j < 7) : 1 ≤ (3 : Int) ^ j ∧ (3 : Int) ^ j ≤ 729 := by
  have q : ∀ j : Nat, j < 7 → 1 ≤ (3 : Int) ^ j ∧ (3 : Int) ^ j ≤ 729 := by decide +kernel
  exact q j h
/-- what lies in one line of the trial's page, in bounds -/
def tOk (f : Nat → Int) (x : Int) : Prop := (0 ≤ f (360 + 10 + 9 * x).toNat ∧ f (360 + 10 + 9 * x).toNat ≤ 8) ∧ ∀ i : Int, 0 ≤ i → i < f (360 + 10 + 9 * x).toNat → 0 ≤ f (360 + 10 + 9 * x + 1 + i).toNat ∧ f (360 + 10 + 9 * x + 1 + i).toNat ≤ 10
theorem tOk.lay {f : Nat → Int} {x t : Int} (h : tOk f x) (hx : 0 ≤ x ∧ x < 3) (ht : 0 ≤ t ∧ t ≤ 10) (hl : f (360 + 10 + 9 * x).toNat < 8) : tOk (md_lay f (360 + 10 + 9 * x) t (f (360 + 10 + 9 * x).toNat)) x := by
  have e0 : md_lay f (360 + 10 + 9 * x) t (f (360 + 10 + 9 * x).toNat) (360 + 10 + 9 * x).toNat = f (360 + 10 + 9 * x).toNat + 1 := by unfold md_lay; rw [if_pos (by omega)]
  have h0 := h.1
  refine ⟨by rw [e0]; omega, fun i i0 i1 => ?_⟩
  rw [e0] at i1
  unfold md_lay
  rw [if_neg (by omega)]
  by_cases e : i = f (360 + 10 + 9 * x).toNat
  · rw [if_pos (by omega)]; exact ht
  · rw [if_neg (by omega), if_neg (by omega)]; exact h.2 i i0 (by omega)
theorem tOk.take {f : Nat → Int} {x s : Int} (h : tOk f x) (hx : 0 ≤ x ∧ x < 3) (hs : 0 ≤ s ∧ s < f (360 + 10 + 9 * x).toNat) : tOk (md_take f (360 + 10 + 9 * x) s) x := by
  have e0 : md_take f (360 + 10 + 9 * x) s (360 + 10 + 9 * x).toNat = f (360 + 10 + 9 * x).toNat - 1 := by unfold md_take; rw [if_pos (by omega)]
  have h0 := h.1
  refine ⟨by rw [e0]; omega, fun i i0 i1 => ?_⟩
  rw [e0] at i1
  unfold md_take
  rw [if_neg (by omega)]
  split
  · have := h.2 (i + 1) (by omega) (by omega)
    rw [show (360 + 10 + 9 * x + 1 + (i + 1)).toNat = (360 + 10 + 9 * x + 1 + i).toNat + 1 by omega] at this
    exact this
  · exact h.2 i i0 (by omega)
section MDU
variable {l : Launch} {G : fp_WG} {M N : fp_Mem} {g : aGd} {pg : aPg} {vs : List aVt}
theorem plays_loop {x p q r n mv : Int} (hx : 0 ≤ x ∧ x < 3) (hp : 0 ≤ p ∧ p < 4) (hq : 0 ≤ q ∧ q < 4) (hn : 1 ≤ n ∧ n ≤ 6) (hmv : 0 ≤ mv ∧ mv ≤ 728) (hd : md_ok M) : ∀ (rr : Nat) (k of sum own other : Int) (N : fp_Mem) (o12 o13 o14 : Option Value), (n - k).toNat < rr → 0 ≤ k → k ≤ n → 1 ≤ of ∧ of ≤ 729 → -(20 * k) ≤ sum ∧ sum ≤ 20 * k → 0 ≤ own ∧ own ≤ 2 → 0 ≤ other ∧ other ≤ 2 → frT M N → tOk (N 178) x →
    fp_S l G 2 kX12_plays 47 [some (rV G 177), some (iV x), some (iV p), some (iV q), some (iV r), some (iV n), some (iV mv), some (iV of), some (iV sum), some (iV own), some (iV other), some (iV k), o12, o13, o14] [] N (qI fun z O => (-9999 ≤ z ∧ z ≤ 120) ∧ frT M O) := by
  intro rr
  induction rr with
  | zero => intro k of sum own other N o12 o13 o14 h; omega
  | succ rr ih =>
    intro k of sum own other N o12 o13 o14 h k0 k1 hof hsum hown hoth hf hT
    have dN : md_ok N := by
      unfold md_ok at hd ⊢
      rw [hf.1 177 (by decide), hf.1 179 (by decide), hf.1 180 (by decide), hf.1 181 (by decide)]; exact hd
    have hT1 := hT.1
    have hT2 := hT.2
    by_cases hlt : k < n
    · have h252 : ∀ (of sum own other fi mo : Int) (O : fp_Mem) (o14 : Option Value), 1 ≤ of ∧ of ≤ 729 → -(20 * (k + 1)) ≤ sum ∧ sum ≤ 20 * (k + 1) → 0 ≤ own ∧ own ≤ 2 → 0 ≤ other ∧ other ≤ 2 → frT M O → tOk (O 178) x → fp_S l G 2 kX12_plays 252 [some (rV G 177), some (iV x), some (iV p), some (iV q), some (iV r), some (iV n), some (iV mv), some (iV of), some (iV sum), some (iV own), some (iV other), some (iV k), some (iV fi), some (iV mo), o14] [] O (qI fun z O => (-9999 ≤ z ∧ z ≤ 120) ∧ frT M O) := by
        intro of sum own other fi mo O o14 a1 a2 a3 a4 a5 a6
        refine S.iinc (pc' := 255) (LL' := [_, _, _, _, _, _, _, _, _, _, _, _, _, _, _]) dX12_plays_252 rfl (by decide) rfl rfl rfl ?_
        refine S.goto (pc' := 47) dX12_plays_255 (by decide) ?_
        exact ih _ _ _ _ _ _ _ _ _ (by omega) (by omega) (by omega) a1 a2 a3 a4 a5 a6
      have h93 : ∀ (of fi mo : Int) (o14 : Option Value), 1 ≤ of ∧ of ≤ 729 → (fi = 0 ∨ fi = 1) → 0 ≤ mo ∧ mo ≤ 2 → fp_S l G 2 kX12_plays 93 [some (rV G 177), some (iV x), some (iV p), some (iV q), some (iV r), some (iV n), some (iV mv), some (iV of), some (iV sum), some (iV own), some (iV other), some (iV k), some (iV fi), some (iV mo), o14] [] N (qI fun z O => (-9999 ≤ z ∧ z ≤ 120) ∧ frT M O) := by
        intro of fi mo o14 a1 hfi hmo
        have hsel := md_sel_in (M := N) (at_ := 360) (x := x) hT1
        have hfl : ∀ i, frT M (fp_upM N 178 (md_lay (N 178) (360 + 10 + 9 * x) 10 i)) ∨ True := fun _ => Or.inr trivial
        have frlay : N 178 (360 + 10 + 9 * x).toNat < 8 → frT M (fp_upM N 178 (md_lay (N 178) (360 + 10 + 9 * x) 10 (N 178 (360 + 10 + 9 * x).toNat))) := fun hl => ⟨fun c hc => by rw [fp_upM_ne hc]; exact hf.1 c hc, fun j hj => by rw [fp_upM_at]; unfold md_lay; rw [if_neg (by omega), if_neg (by omega), if_neg (by omega)]; exact hf.2 j hj⟩
        have frtake : ∀ s, 0 ≤ s → frT M (fp_upM N 178 (md_take (N 178) (360 + 10 + 9 * x) s)) := fun s hs => ⟨fun c hc => by rw [fp_upM_ne hc]; exact hf.1 c hc, fun j hj => by rw [fp_upM_at]; unfold md_take; rw [if_neg (by omega), if_neg (by omega)]; exact hf.2 j hj⟩
        rcases hfi with rfl | rfl
        · refine S.iload (pc' := 95) dX12_plays_93 rfl rfl ?_
          refine S.iconst (pc' := 96) dX12_plays_95 rfl ?_
          refine S.icmp_ne (pc' := 99) (tgt := 182) dX12_plays_96 (by decide) rfl (by unfold fp_rng; omega) (by unfold fp_rng; omega) (fun h96 => ?_) (fun h96 => ?_)
          · refine S.iload (pc' := 184) dX12_plays_182 rfl rfl ?_
            refine S.if_ne (pc' := 187) (tgt := 252) dX12_plays_184 (by decide) rfl (by unfold fp_rng; omega) (fun h184 => ?_) (fun h184 => ?_)
            · first
              | exact h252 _ _ _ _ _ _ _ _ a1 (by omega) (by omega) (by omega) hf hT
              | exact h252 _ _ _ _ _ _ _ _ a1 (by omega) (by omega) (by omega) (frlay (by omega)) (by rw [fp_upM_at]; exact hT.lay hx (by omega) (by omega))
              | exact h252 _ _ _ _ _ _ _ _ a1 (by omega) (by omega) (by omega) (frtake _ (by omega)) (by rw [fp_upM_at]; exact hT.take hx (by omega))
            · refine S.aload_n (pc' := 188) dX12_plays_187 rfl rfl rfl ?_
              refine S.sipush (pc' := 191) dX12_plays_188 rfl (by decide) ?_
              refine S.iload_n (pc' := 192) dX12_plays_191 rfl rfl rfl ?_
              refine S.callVe (pc' := 195) dX12_plays_192 rfl cX12_198 (ok_X12_lie (by omega) (by omega) hx) rfl L_177 (by decide) rfl (Nat.le_of_ble_eq_true rfl) ?_
              refine S.if_le (pc' := 198) (tgt := 252) dX12_plays_195 (by decide) rfl (by unfold fp_rng; omega) (fun h195 => ?_) (fun h195 => ?_)
              · first
                | exact h252 _ _ _ _ _ _ _ _ a1 (by omega) (by omega) (by omega) hf hT
                | exact h252 _ _ _ _ _ _ _ _ a1 (by omega) (by omega) (by omega) (frlay (by omega)) (by rw [fp_upM_at]; exact hT.lay hx (by omega) (by omega))
                | exact h252 _ _ _ _ _ _ _ _ a1 (by omega) (by omega) (by omega) (frtake _ (by omega)) (by rw [fp_upM_at]; exact hT.take hx (by omega))
              · refine S.aload_n (pc' := 199) dX12_plays_198 rfl rfl rfl ?_
                refine S.sipush (pc' := 202) dX12_plays_199 rfl (by decide) ?_
                refine S.iload_n (pc' := 203) dX12_plays_202 rfl rfl rfl ?_
                refine S.aload_n (pc' := 204) dX12_plays_203 rfl rfl rfl ?_
                refine S.sipush (pc' := 207) dX12_plays_204 rfl (by decide) ?_
                refine S.iload_n (pc' := 208) dX12_plays_207 rfl rfl rfl ?_
                refine S.callVe (pc' := 211) dX12_plays_208 rfl cX12_216 (ok_X12_givesAt (by omega) (by omega) hx dN hT1 hT2) rfl L_177 (by decide) rfl (Nat.le_of_ble_eq_true rfl) ?_
                refine S.callVe (pc' := 214) dX12_plays_211 rfl cX12_241 (ok_X12_takesOut (by omega) (by omega) hx (by omega) (by omega)) rfl L_177 (by decide) rfl (Nat.le_of_ble_eq_true rfl) ?_
                have hsv := hT2 (md_sel N 360 x) (by omega) (by omega)
                have hvv : 0 ≤ N 180 (4 * N 178 (360 + 10 + 9 * x + 1 + md_sel N 360 x).toNat + q).toNat ∧ N 180 (4 * N 178 (360 + 10 + 9 * x + 1 + md_sel N 360 x).toNat + q).toNat ≤ 20 := dN.2.2.2.2.1 _ (by omega) (by omega)
                refine S.istore (pc' := 216) (LL' := [_, _, _, _, _, _, _, _, _, _, _, _, _, _, _]) dX12_plays_214 rfl (by decide) rfl rfl ?_
                refine S.iload (pc' := 218) dX12_plays_216 rfl rfl ?_
                refine S.iload (pc' := 220) dX12_plays_218 rfl rfl ?_
                refine S.if_eq (pc' := 223) (tgt := 237) dX12_plays_220 (by decide) rfl (by unfold fp_rng; omega) (fun h220 => ?_) (fun h220 => ?_)
                · refine S.aload_n (pc' := 238) dX12_plays_237 rfl rfl rfl ?_
                  refine S.getR (pc' := 241) dX12_plays_238 rfl fX12_16 L_177 rf_177_2 ?_
                  refine S.iconst (pc' := 242) dX12_plays_241 rfl ?_
                  refine S.iload (pc' := 244) dX12_plays_242 rfl rfl ?_
                  refine S.imul (pc' := 245) dX12_plays_244 rfl ?_
                  refine S.iload_n (pc' := 246) dX12_plays_245 rfl rfl rfl ?_
                  refine S.iadd (pc' := 247) dX12_plays_246 rfl ?_
                  refine S.iald (pc' := 248) dX12_plays_247 rfl L_180 (by omega) (by omega) ?_
                  rw [fp_upM_ne (show 180 ≠ 178 by decide)]
                  refine S.ineg (pc' := 249) dX12_plays_248 rfl ?_
                  refine S.iadd (pc' := 250) dX12_plays_249 rfl ?_
                  refine S.istore (pc' := 252) (LL' := [_, _, _, _, _, _, _, _, _, _, _, _, _, _, _]) dX12_plays_250 rfl (by decide) rfl rfl ?_
                  first
                  | exact h252 _ _ _ _ _ _ _ _ a1 (by omega) (by omega) (by omega) hf hT
                  | exact h252 _ _ _ _ _ _ _ _ a1 (by omega) (by omega) (by omega) (frlay (by omega)) (by rw [fp_upM_at]; exact hT.lay hx (by omega) (by omega))
                  | exact h252 _ _ _ _ _ _ _ _ a1 (by omega) (by omega) (by omega) (frtake _ (by omega)) (by rw [fp_upM_at]; exact hT.take hx (by omega))
                · exact absurd rfl h220
          · refine S.iload (pc' := 101) dX12_plays_99 rfl rfl ?_
            refine S.if_eq (pc' := 104) (tgt := 109) dX12_plays_101 (by decide) rfl (by unfold fp_rng; omega) (fun h101 => ?_) (fun h101 => ?_)
            · refine S.iload (pc' := 111) dX12_plays_109 rfl rfl ?_
              refine S.if_eq (pc' := 114) (tgt := 127) dX12_plays_111 (by decide) rfl (by unfold fp_rng; omega) (fun h111 => ?_) (fun h111 => ?_)
              · refine S.sipush (pc' := 130) dX12_plays_127 rfl (by decide) ?_
                refine S.iret dX12_plays_130 rfl ?_
                exact ⟨by omega, hf⟩
              · refine S.aload_n (pc' := 115) dX12_plays_114 rfl rfl rfl ?_
                refine S.sipush (pc' := 118) dX12_plays_115 rfl (by decide) ?_
                refine S.iload_n (pc' := 119) dX12_plays_118 rfl rfl rfl ?_
                refine S.callVe (pc' := 122) dX12_plays_119 rfl cX12_198 (ok_X12_lie (by omega) (by omega) hx) rfl L_177 (by decide) rfl (Nat.le_of_ble_eq_true rfl) ?_
                refine S.bipush (pc' := 124) dX12_plays_122 rfl (by decide) ?_
                refine S.icmp_ne (pc' := 127) (tgt := 131) dX12_plays_124 (by decide) rfl (by unfold fp_rng; omega) (by unfold fp_rng; omega) (fun h124 => ?_) (fun h124 => ?_)
                · refine S.iload (pc' := 133) dX12_plays_131 rfl rfl ?_
                  refine S.iload (pc' := 135) dX12_plays_133 rfl rfl ?_
                  refine S.if_eq (pc' := 138) (tgt := 142) dX12_plays_135 (by decide) rfl (by unfold fp_rng; omega) (fun h135 => ?_) (fun h135 => ?_)
                  · refine S.iconst (pc' := 143) dX12_plays_142 rfl ?_
                    refine S.isub (pc' := 144) dX12_plays_143 rfl ?_
                    refine S.istore (pc' := 146) (LL' := [_, _, _, _, _, _, _, _, _, _, _, _, _, _, _]) dX12_plays_144 rfl (by decide) rfl rfl ?_
                    refine S.iload (pc' := 148) dX12_plays_146 rfl rfl ?_
                    refine S.iload (pc' := 150) dX12_plays_148 rfl rfl ?_
                    refine S.if_eq (pc' := 153) (tgt := 157) dX12_plays_150 (by decide) rfl (by unfold fp_rng; omega) (fun h150 => ?_) (fun h150 => ?_)
                    · refine S.iconst (pc' := 158) dX12_plays_157 rfl ?_
                      refine S.isub (pc' := 159) dX12_plays_158 rfl ?_
                      refine S.istore (pc' := 161) (LL' := [_, _, _, _, _, _, _, _, _, _, _, _, _, _, _]) dX12_plays_159 rfl (by decide) rfl rfl ?_
                      refine S.aload_n (pc' := 162) dX12_plays_161 rfl rfl rfl ?_
                      refine S.sipush (pc' := 165) dX12_plays_162 rfl (by decide) ?_
                      refine S.bipush (pc' := 167) dX12_plays_165 rfl (by decide) ?_
                      refine S.iload_n (pc' := 168) dX12_plays_167 rfl rfl rfl ?_
                      refine S.aload_n (pc' := 169) dX12_plays_168 rfl rfl rfl ?_
                      refine S.sipush (pc' := 172) dX12_plays_169 rfl (by decide) ?_
                      refine S.iload_n (pc' := 173) dX12_plays_172 rfl rfl rfl ?_
                      refine S.callVe (pc' := 176) dX12_plays_173 rfl cX12_198 (ok_X12_lie (by omega) (by omega) hx) rfl L_177 (by decide) rfl (Nat.le_of_ble_eq_true rfl) ?_
                      refine S.callVw (pc' := 179) dX12_plays_176 rfl cX12_237 (ok_X12_laysIn (by omega) (by omega) hx (by omega) (by omega)) rfl L_177 (by decide) rfl (Nat.le_of_ble_eq_true rfl) ?_
                      refine S.goto (pc' := 252) dX12_plays_179 (by decide) ?_
                      first
                      | exact h252 _ _ _ _ _ _ _ _ a1 (by omega) (by omega) (by omega) hf hT
                      | exact h252 _ _ _ _ _ _ _ _ a1 (by omega) (by omega) (by omega) (frlay (by omega)) (by rw [fp_upM_at]; exact hT.lay hx (by omega) (by omega))
                      | exact h252 _ _ _ _ _ _ _ _ a1 (by omega) (by omega) (by omega) (frtake _ (by omega)) (by rw [fp_upM_at]; exact hT.take hx (by omega))
                    · exact absurd rfl h150
                  · exact absurd rfl h135
                · refine S.sipush (pc' := 130) dX12_plays_127 rfl (by decide) ?_
                  refine S.iret dX12_plays_130 rfl ?_
                  exact ⟨by omega, hf⟩
            · exact absurd rfl h101
        · refine S.iload (pc' := 95) dX12_plays_93 rfl rfl ?_
          refine S.iconst (pc' := 96) dX12_plays_95 rfl ?_
          refine S.icmp_ne (pc' := 99) (tgt := 182) dX12_plays_96 (by decide) rfl (by unfold fp_rng; omega) (by unfold fp_rng; omega) (fun h96 => ?_) (fun h96 => ?_)
          · refine S.iload (pc' := 184) dX12_plays_182 rfl rfl ?_
            refine S.if_ne (pc' := 187) (tgt := 252) dX12_plays_184 (by decide) rfl (by unfold fp_rng; omega) (fun h184 => ?_) (fun h184 => ?_)
            · first
              | exact h252 _ _ _ _ _ _ _ _ a1 (by omega) (by omega) (by omega) hf hT
              | exact h252 _ _ _ _ _ _ _ _ a1 (by omega) (by omega) (by omega) (frlay (by omega)) (by rw [fp_upM_at]; exact hT.lay hx (by omega) (by omega))
              | exact h252 _ _ _ _ _ _ _ _ a1 (by omega) (by omega) (by omega) (frtake _ (by omega)) (by rw [fp_upM_at]; exact hT.take hx (by omega))
            · refine S.aload_n (pc' := 188) dX12_plays_187 rfl rfl rfl ?_
              refine S.sipush (pc' := 191) dX12_plays_188 rfl (by decide) ?_
              refine S.iload_n (pc' := 192) dX12_plays_191 rfl rfl rfl ?_
              refine S.callVe (pc' := 195) dX12_plays_192 rfl cX12_198 (ok_X12_lie (by omega) (by omega) hx) rfl L_177 (by decide) rfl (Nat.le_of_ble_eq_true rfl) ?_
              refine S.if_le (pc' := 198) (tgt := 252) dX12_plays_195 (by decide) rfl (by unfold fp_rng; omega) (fun h195 => ?_) (fun h195 => ?_)
              · first
                | exact h252 _ _ _ _ _ _ _ _ a1 (by omega) (by omega) (by omega) hf hT
                | exact h252 _ _ _ _ _ _ _ _ a1 (by omega) (by omega) (by omega) (frlay (by omega)) (by rw [fp_upM_at]; exact hT.lay hx (by omega) (by omega))
                | exact h252 _ _ _ _ _ _ _ _ a1 (by omega) (by omega) (by omega) (frtake _ (by omega)) (by rw [fp_upM_at]; exact hT.take hx (by omega))
              · refine S.aload_n (pc' := 199) dX12_plays_198 rfl rfl rfl ?_
                refine S.sipush (pc' := 202) dX12_plays_199 rfl (by decide) ?_
                refine S.iload_n (pc' := 203) dX12_plays_202 rfl rfl rfl ?_
                refine S.aload_n (pc' := 204) dX12_plays_203 rfl rfl rfl ?_
                refine S.sipush (pc' := 207) dX12_plays_204 rfl (by decide) ?_
                refine S.iload_n (pc' := 208) dX12_plays_207 rfl rfl rfl ?_
                refine S.callVe (pc' := 211) dX12_plays_208 rfl cX12_216 (ok_X12_givesAt (by omega) (by omega) hx dN hT1 hT2) rfl L_177 (by decide) rfl (Nat.le_of_ble_eq_true rfl) ?_
                refine S.callVe (pc' := 214) dX12_plays_211 rfl cX12_241 (ok_X12_takesOut (by omega) (by omega) hx (by omega) (by omega)) rfl L_177 (by decide) rfl (Nat.le_of_ble_eq_true rfl) ?_
                have hsv := hT2 (md_sel N 360 x) (by omega) (by omega)
                have hvv : 0 ≤ N 180 (4 * N 178 (360 + 10 + 9 * x + 1 + md_sel N 360 x).toNat + p).toNat ∧ N 180 (4 * N 178 (360 + 10 + 9 * x + 1 + md_sel N 360 x).toNat + p).toNat ≤ 20 := dN.2.2.2.2.1 _ (by omega) (by omega)
                refine S.istore (pc' := 216) (LL' := [_, _, _, _, _, _, _, _, _, _, _, _, _, _, _]) dX12_plays_214 rfl (by decide) rfl rfl ?_
                refine S.iload (pc' := 218) dX12_plays_216 rfl rfl ?_
                refine S.iload (pc' := 220) dX12_plays_218 rfl rfl ?_
                refine S.if_eq (pc' := 223) (tgt := 237) dX12_plays_220 (by decide) rfl (by unfold fp_rng; omega) (fun h220 => ?_) (fun h220 => ?_)
                · exact absurd h220 (by decide)
                · refine S.aload_n (pc' := 224) dX12_plays_223 rfl rfl rfl ?_
                  refine S.getR (pc' := 227) dX12_plays_224 rfl fX12_16 L_177 rf_177_2 ?_
                  refine S.iconst (pc' := 228) dX12_plays_227 rfl ?_
                  refine S.iload (pc' := 230) dX12_plays_228 rfl rfl ?_
                  refine S.imul (pc' := 231) dX12_plays_230 rfl ?_
                  refine S.iload_n (pc' := 232) dX12_plays_231 rfl rfl rfl ?_
                  refine S.iadd (pc' := 233) dX12_plays_232 rfl ?_
                  refine S.iald (pc' := 234) dX12_plays_233 rfl L_180 (by omega) (by omega) ?_
                  rw [fp_upM_ne (show 180 ≠ 178 by decide)]
                  refine S.goto (pc' := 249) dX12_plays_234 (by decide) ?_
                  refine S.iadd (pc' := 250) dX12_plays_249 rfl ?_
                  refine S.istore (pc' := 252) (LL' := [_, _, _, _, _, _, _, _, _, _, _, _, _, _, _]) dX12_plays_250 rfl (by decide) rfl rfl ?_
                  first
                  | exact h252 _ _ _ _ _ _ _ _ a1 (by omega) (by omega) (by omega) hf hT
                  | exact h252 _ _ _ _ _ _ _ _ a1 (by omega) (by omega) (by omega) (frlay (by omega)) (by rw [fp_upM_at]; exact hT.lay hx (by omega) (by omega))
                  | exact h252 _ _ _ _ _ _ _ _ a1 (by omega) (by omega) (by omega) (frtake _ (by omega)) (by rw [fp_upM_at]; exact hT.take hx (by omega))
          · refine S.iload (pc' := 101) dX12_plays_99 rfl rfl ?_
            refine S.if_eq (pc' := 104) (tgt := 109) dX12_plays_101 (by decide) rfl (by unfold fp_rng; omega) (fun h101 => ?_) (fun h101 => ?_)
            · exact absurd h101 (by decide)
            · refine S.iload (pc' := 106) dX12_plays_104 rfl rfl ?_
              refine S.goto (pc' := 111) dX12_plays_106 (by decide) ?_
              refine S.if_eq (pc' := 114) (tgt := 127) dX12_plays_111 (by decide) rfl (by unfold fp_rng; omega) (fun h111 => ?_) (fun h111 => ?_)
              · refine S.sipush (pc' := 130) dX12_plays_127 rfl (by decide) ?_
                refine S.iret dX12_plays_130 rfl ?_
                exact ⟨by omega, hf⟩
              · refine S.aload_n (pc' := 115) dX12_plays_114 rfl rfl rfl ?_
                refine S.sipush (pc' := 118) dX12_plays_115 rfl (by decide) ?_
                refine S.iload_n (pc' := 119) dX12_plays_118 rfl rfl rfl ?_
                refine S.callVe (pc' := 122) dX12_plays_119 rfl cX12_198 (ok_X12_lie (by omega) (by omega) hx) rfl L_177 (by decide) rfl (Nat.le_of_ble_eq_true rfl) ?_
                refine S.bipush (pc' := 124) dX12_plays_122 rfl (by decide) ?_
                refine S.icmp_ne (pc' := 127) (tgt := 131) dX12_plays_124 (by decide) rfl (by unfold fp_rng; omega) (by unfold fp_rng; omega) (fun h124 => ?_) (fun h124 => ?_)
                · refine S.iload (pc' := 133) dX12_plays_131 rfl rfl ?_
                  refine S.iload (pc' := 135) dX12_plays_133 rfl rfl ?_
                  refine S.if_eq (pc' := 138) (tgt := 142) dX12_plays_135 (by decide) rfl (by unfold fp_rng; omega) (fun h135 => ?_) (fun h135 => ?_)
                  · exact absurd h135 (by decide)
                  · refine S.iconst (pc' := 139) dX12_plays_138 rfl ?_
                    refine S.goto (pc' := 143) dX12_plays_139 (by decide) ?_
                    refine S.isub (pc' := 144) dX12_plays_143 rfl ?_
                    refine S.istore (pc' := 146) (LL' := [_, _, _, _, _, _, _, _, _, _, _, _, _, _, _]) dX12_plays_144 rfl (by decide) rfl rfl ?_
                    refine S.iload (pc' := 148) dX12_plays_146 rfl rfl ?_
                    refine S.iload (pc' := 150) dX12_plays_148 rfl rfl ?_
                    refine S.if_eq (pc' := 153) (tgt := 157) dX12_plays_150 (by decide) rfl (by unfold fp_rng; omega) (fun h150 => ?_) (fun h150 => ?_)
                    · exact absurd h150 (by decide)
                    · refine S.iconst (pc' := 154) dX12_plays_153 rfl ?_
                      refine S.goto (pc' := 158) dX12_plays_154 (by decide) ?_
                      refine S.isub (pc' := 159) dX12_plays_158 rfl ?_
                      refine S.istore (pc' := 161) (LL' := [_, _, _, _, _, _, _, _, _, _, _, _, _, _, _]) dX12_plays_159 rfl (by decide) rfl rfl ?_
                      refine S.aload_n (pc' := 162) dX12_plays_161 rfl rfl rfl ?_
                      refine S.sipush (pc' := 165) dX12_plays_162 rfl (by decide) ?_
                      refine S.bipush (pc' := 167) dX12_plays_165 rfl (by decide) ?_
                      refine S.iload_n (pc' := 168) dX12_plays_167 rfl rfl rfl ?_
                      refine S.aload_n (pc' := 169) dX12_plays_168 rfl rfl rfl ?_
                      refine S.sipush (pc' := 172) dX12_plays_169 rfl (by decide) ?_
                      refine S.iload_n (pc' := 173) dX12_plays_172 rfl rfl rfl ?_
                      refine S.callVe (pc' := 176) dX12_plays_173 rfl cX12_198 (ok_X12_lie (by omega) (by omega) hx) rfl L_177 (by decide) rfl (Nat.le_of_ble_eq_true rfl) ?_
                      refine S.callVw (pc' := 179) dX12_plays_176 rfl cX12_237 (ok_X12_laysIn (by omega) (by omega) hx (by omega) (by omega)) rfl L_177 (by decide) rfl (Nat.le_of_ble_eq_true rfl) ?_
                      refine S.goto (pc' := 252) dX12_plays_179 (by decide) ?_
                      first
                      | exact h252 _ _ _ _ _ _ _ _ a1 (by omega) (by omega) (by omega) hf hT
                      | exact h252 _ _ _ _ _ _ _ _ a1 (by omega) (by omega) (by omega) (frlay (by omega)) (by rw [fp_upM_at]; exact hT.lay hx (by omega) (by omega))
                      | exact h252 _ _ _ _ _ _ _ _ a1 (by omega) (by omega) (by omega) (frtake _ (by omega)) (by rw [fp_upM_at]; exact hT.take hx (by omega))
                · refine S.sipush (pc' := 130) dX12_plays_127 rfl (by decide) ?_
                  refine S.iret dX12_plays_130 rfl ?_
                  exact ⟨by omega, hf⟩
      have hdv : 0 ≤ mv / of ∧ mv / of ≤ mv := ⟨Int.ediv_nonneg hmv.1 (by omega), Int.ediv_le_self of hmv.1⟩
      have h66 : ∀ fi, (fi = 0 ∨ fi = 1) → fp_S l G 2 kX12_plays 66 [some (rV G 177), some (iV x), some (iV p), some (iV q), some (iV r), some (iV n), some (iV mv), some (iV of), some (iV sum), some (iV own), some (iV other), some (iV k), o12, o13, o14] [iV fi] N (qI fun z O => (-9999 ≤ z ∧ z ≤ 120) ∧ frT M O) := by
        intro fi hfi
        refine S.istore (pc' := 68) (LL' := [_, _, _, _, _, _, _, _, _, _, _, _, _, _, _]) dX12_plays_66 rfl (by decide) rfl rfl ?_
        refine S.iload (pc' := 70) dX12_plays_68 rfl rfl ?_
        refine S.iload (pc' := 72) dX12_plays_70 rfl rfl ?_
        refine S.idiv (pc' := 73) dX12_plays_72 rfl (fp_ine (by omega)) (fp_idiv (by omega) (by omega)) ?_
        refine S.iconst (pc' := 74) dX12_plays_73 rfl ?_
        refine S.irem (pc' := 75) dX12_plays_74 rfl (by decide) (fp_irem (by omega) (by omega)) ?_
        refine S.istore (pc' := 77) (LL' := [_, _, _, _, _, _, _, _, _, _, _, _, _, _, _]) dX12_plays_75 rfl (by decide) rfl rfl ?_
        refine S.iload (pc' := 79) dX12_plays_77 rfl rfl ?_
        refine S.iconst (pc' := 80) dX12_plays_79 rfl ?_
        refine S.icmp_lt (pc' := 83) (tgt := 90) dX12_plays_80 (by decide) rfl (by unfold fp_rng; omega) (by unfold fp_rng; omega) (fun h80 => ?_) (fun h80 => ?_)
        · refine S.iconst (pc' := 91) dX12_plays_90 rfl ?_
          refine S.istore (pc' := 93) (LL' := [_, _, _, _, _, _, _, _, _, _, _, _, _, _, _]) dX12_plays_91 rfl (by decide) rfl rfl ?_
          exact h93 _ _ _ _ (by omega) hfi (by omega)
        · refine S.iload (pc' := 85) dX12_plays_83 rfl rfl ?_
          refine S.iconst (pc' := 86) dX12_plays_85 rfl ?_
          refine S.idiv (pc' := 87) dX12_plays_86 rfl (by decide) (fp_idiv (by omega) (by omega)) ?_
          refine S.goto (pc' := 91) dX12_plays_87 (by decide) ?_
          refine S.istore (pc' := 93) (LL' := [_, _, _, _, _, _, _, _, _, _, _, _, _, _, _]) dX12_plays_91 rfl (by decide) rfl rfl ?_
          exact h93 _ _ _ _ (by omega) hfi (by omega)
      refine S.iload (pc' := 49) dX12_plays_47 rfl rfl ?_
      refine S.iload (pc' := 51) dX12_plays_49 rfl rfl ?_
      refine S.icmp_ge (pc' := 54) (tgt := 258) dX12_plays_51 (by decide) rfl (by unfold fp_rng; omega) (by unfold fp_rng; omega) (fun h51 => ?_) (fun h51 => ?_)
      · exfalso; omega
      · refine S.iload (pc' := 56) dX12_plays_54 rfl rfl ?_
        refine S.iconst (pc' := 57) dX12_plays_56 rfl ?_
        refine S.irem (pc' := 58) dX12_plays_57 rfl (by decide) (fp_irem (by omega) (by omega)) ?_
        refine S.if_ne (pc' := 61) (tgt := 65) dX12_plays_58 (by decide) rfl (by unfold fp_rng; omega) (fun h58 => ?_) (fun h58 => ?_)
        · refine S.iconst (pc' := 66) dX12_plays_65 rfl ?_
          exact h66 _ (by omega)
        · refine S.iconst (pc' := 62) dX12_plays_61 rfl ?_
          refine S.goto (pc' := 66) dX12_plays_62 (by decide) ?_
          exact h66 _ (by omega)
    · refine S.iload (pc' := 49) dX12_plays_47 rfl rfl ?_
      refine S.iload (pc' := 51) dX12_plays_49 rfl rfl ?_
      refine S.icmp_ge (pc' := 54) (tgt := 258) dX12_plays_51 (by decide) rfl (by unfold fp_rng; omega) (by unfold fp_rng; omega) (fun h51 => ?_) (fun h51 => ?_)
      · refine S.iload (pc' := 260) dX12_plays_258 rfl rfl ?_
        refine S.iret dX12_plays_260 rfl ?_
        exact ⟨by omega, hf⟩
      · exfalso; omega
theorem wk_X12_plays {x p q r n mv : Int} (hg : gOk g) (hP : pgOk g pg) (hxg : 0 ≤ x ∧ x < g.2.1) (hp : 0 ≤ p ∧ p < 4) (hq : 0 ≤ q ∧ q < 4) (hr : 0 ≤ r ∧ r ≤ 2) (hn : 1 ≤ n ∧ n ≤ 6) (hmv : 0 ≤ mv ∧ mv ≤ 728) (hd : mdIs M g) (hc : mpIs M 0 g pg) : fp_Ok l G 2 kX12_plays [rV G 177, iV x, iV p, iV q, iV r, iV n, iV mv] M (qI fun z O => (-9999 ≤ z ∧ z ≤ 120) ∧ frT M O) := by
  have hg2 := hg.2.1
  have hx : 0 ≤ x ∧ x < 3 := by omega
  refine fp_Ok.of (r := 8) rfl (Nat.le_of_ble_eq_true rfl) rfl ?_
  have h25 : ∀ (of : Int), 1 ≤ of ∧ of ≤ 729 → fp_S l G 2 kX12_plays 25 [some (rV G 177), some (iV x), some (iV p), some (iV q), some (iV r), some (iV n), some (iV mv), some (iV of), some (iV n), none, none, none, none, none, none] [] M (qI fun z O => (-9999 ≤ z ∧ z ≤ 120) ∧ frT M O) := by
    intro of hof
    refine S.iconst (pc' := 26) dX12_plays_25 rfl ?_
    refine S.istore (pc' := 28) (LL' := [_, _, _, _, _, _, _, _, _, _, _, _, _, _, _]) dX12_plays_26 rfl (by decide) rfl rfl ?_
    refine S.iload (pc' := 30) dX12_plays_28 rfl rfl ?_
    refine S.istore (pc' := 32) (LL' := [_, _, _, _, _, _, _, _, _, _, _, _, _, _, _]) dX12_plays_30 rfl (by decide) rfl rfl ?_
    refine S.iload (pc' := 34) dX12_plays_32 rfl rfl ?_
    refine S.istore (pc' := 36) (LL' := [_, _, _, _, _, _, _, _, _, _, _, _, _, _, _]) dX12_plays_34 rfl (by decide) rfl rfl ?_
    refine S.aload_n (pc' := 37) dX12_plays_36 rfl rfl rfl ?_
    refine S.iconst (pc' := 38) dX12_plays_37 rfl ?_
    refine S.sipush (pc' := 41) dX12_plays_38 rfl (by decide) ?_
    refine S.callVv (pc' := 44) dX12_plays_41 rfl cX12_265 (rk_X12_copies hc hP hg) rfl L_177 (by decide) rfl (Nat.le_of_ble_eq_true rfl) (fun M41 q41 => ?_)
    refine S.iconst (pc' := 45) dX12_plays_44 rfl ?_
    refine S.istore (pc' := 47) (LL' := [_, _, _, _, _, _, _, _, _, _, _, _, _, _, _]) dX12_plays_45 rfl (by decide) rfl rfl ?_
    have hrw := q41.1.rows hP hxg hg
    exact plays_loop hx hp hq hn hmv hd.2.2.2.2.2.2.2.2 (n.toNat + 1) 0 of 0 r r _ none none none (by omega) (by omega) (by omega) hof (by omega) hr hr q41.2 hrw
  have h6 : ∀ (rr j : Nat), (n - j).toNat < rr → (j : Int) + 1 ≤ n → fp_S l G 2 kX12_plays 6 [some (rV G 177), some (iV x), some (iV p), some (iV q), some (iV r), some (iV n), some (iV mv), some (iV (3 ^ j)), some (iV ((j : Int) + 1)), none, none, none, none, none, none] [] M (qI fun z O => (-9999 ≤ z ∧ z ≤ 120) ∧ frT M O) := by
    intro rr
    induction rr with
    | zero => intro j h; omega
    | succ rr ih =>
      intro j h hj
      have hpw := pow3_in (show j < 7 by omega)
      by_cases he : (j : Int) + 1 < n
      · refine S.iload (pc' := 8) dX12_plays_6 rfl rfl ?_
        refine S.iload (pc' := 10) dX12_plays_8 rfl rfl ?_
        refine S.icmp_ge (pc' := 13) (tgt := 25) dX12_plays_10 (by decide) rfl (by unfold fp_rng; omega) (by unfold fp_rng; omega) (fun h10 => ?_) (fun h10 => ?_)
        · exfalso; omega
        · refine S.iload (pc' := 15) dX12_plays_13 rfl rfl ?_
          refine S.iconst (pc' := 16) dX12_plays_15 rfl ?_
          refine S.imul (pc' := 17) dX12_plays_16 rfl ?_
          refine S.istore (pc' := 19) (LL' := [_, _, _, _, _, _, _, _, _, _, _, _, _, _, _]) dX12_plays_17 rfl (by decide) rfl rfl ?_
          refine S.iinc (pc' := 22) (LL' := [_, _, _, _, _, _, _, _, _, _, _, _, _, _, _]) dX12_plays_19 rfl (by decide) rfl rfl rfl ?_
          refine S.goto (pc' := 6) dX12_plays_22 (by decide) ?_
          rw [show (3 : Int) ^ j * 3 = 3 ^ (j + 1) from (Int.pow_succ 3 j).symm, show ((j : Int) + 1 + 1) = ((j + 1 : Nat) : Int) + 1 by omega]
          exact ih (j + 1) (by omega) (by omega)
      · have e : n = (j : Int) + 1 := by omega
        have h5 := h25 _ hpw
        rw [e] at h5 ⊢
        refine S.iload (pc' := 8) dX12_plays_6 rfl rfl ?_
        refine S.iload (pc' := 10) dX12_plays_8 rfl rfl ?_
        refine S.icmp_ge (pc' := 13) (tgt := 25) dX12_plays_10 (by decide) rfl (by unfold fp_rng; omega) (by unfold fp_rng; omega) (fun h10 => ?_) (fun h10 => ?_)
        · exact h5
        · exfalso; omega
  refine S.iconst (pc' := 1) dX12_plays_0 rfl ?_
  refine S.istore (pc' := 3) (LL' := [_, _, _, _, _, _, _, _, _, _, _, _, _, _, _]) dX12_plays_1 rfl (by decide) rfl rfl ?_
  refine S.iconst (pc' := 4) dX12_plays_3 rfl ?_
  refine S.istore (pc' := 6) (LL' := [_, _, _, _, _, _, _, _, _, _, _, _, _, _, _]) dX12_plays_4 rfl (by decide) rfl rfl ?_
  exact h6 (n.toNat + 1) 0 (by omega) (by omega)
end MDU
end
section
/-! duel: the reference, all rows folded -/
def frX (M N : fp_Mem) : Prop := (∀ c, c ≠ 178 → c ≠ 193 → N c = M c) ∧ ∀ j : Nat, (j < 360 ∨ 410 ≤ j) → N 178 j = M 178 j
theorem frX.refl (M : fp_Mem) : frX M M := ⟨fun _ _ _ => rfl, fun _ _ => rfl⟩
theorem frX.trans {M N O : fp_Mem} (h1 : frX M N) (h2 : frX N O) : frX M O := ⟨fun c a1 a2 => (h2.1 c a1 a2).trans (h1.1 c a1 a2), fun j hj => (h2.2 j hj).trans (h1.2 j hj)⟩
theorem frX.md {M N : fp_Mem} {g : aGd} (h : frX M N) (hd : mdIs M g) : mdIs N g := by
  unfold mdIs md_ok at *
  rw [h.1 177 (by decide) (by decide), h.1 179 (by decide) (by decide), h.1 180 (by decide) (by decide), h.1 181 (by decide) (by decide)]
  exact hd
theorem frX.mp0 {M N : fp_Mem} {g : aGd} {pg : aPg} (h : frX M N) (hg : gOk g) (hP : pgOk g pg) (hd : mpIs M 0 g pg) : mpIs N 0 g pg := hd.kept hg hP (by omega) (fun j h1 h2 => h.2 j (by omega))
theorem frX.d {M N : fp_Mem} (h : frX M N) : frD M N := fun c hc => h.1 c (by omega) (by omega)
theorem frX.fold (M : fp_Mem) (j : Nat) (z : Int) : frX M (fp_up M 193 j z) := ⟨fun c _ h => fp_up_ne h, fun j _ => by rw [fp_up_ne (by decide)]⟩
/-- the folds in bounds, the first T of them -/
def fdOk (M : fp_Mem) (T : Int) : Prop := ∀ j : Int, 0 ≤ j → j < T → -9999 ≤ M 193 j.toNat ∧ M 193 j.toNat ≤ 120
theorem fdOk.up {M : fp_Mem} {T v z : Int} (h : fdOk M T) (hv : 0 ≤ v) (hz : -9999 ≤ z ∧ z ≤ 120) : fdOk (fp_up M 193 v.toNat z) T := fun j j0 j1 => by
  rw [fp_up_at]; unfold fp_upf; split
  · exact hz
  · exact h j j0 j1
section MDW
variable {l : Launch} {G : fp_WG} {M N : fp_Mem} {tp : List Int} {fl : Int} {g : aGd} {pg : aPg} {vs : List aVt} {nt : List Int} {im : aIm} {sh : aSh} {tn : Int}
theorem MS.xx (h : MS M tp fl g pg vs nt im sh tn) (ho : OK g pg vs nt im sh) (e : frX M N) : MS N tp fl g pg vs nt im sh tn := h.trial ho (fun c hc => e.1 c (by omega) (by omega)) (fun j hj => e.2 j (by omega))
/-- the best of three -/
theorem mfold_m {x p q r n w sz mvv k v : Int} {T : Int} {Q : fp_Q} (hT : T ≤ 729) (hN : fdOk N T) (hv : 0 ≤ v ∧ 3 * v + 3 ≤ T) (hk : 0 ≤ k ∧ k ≤ 5) (K : ∀ (b wh : Int) (o13 o14 o15 : Option Value), -9999 ≤ b ∧ b ≤ 120 → fp_S l G 3 kX12_duel 269 [some (rV G 177), some (iV x), some (iV p), some (iV q), some (iV r), some (iV n), some (iV w), some (iV sz), some (iV mvv), some (iV k), some (iV v), some (iV b), some (iV wh), o13, o14, o15] [] N Q) : ∀ (rr : Nat) (m b wh : Int) (o14 o15 : Option Value), (3 - m).toNat < rr → 0 ≤ m → m ≤ 3 → -9999 ≤ b ∧ b ≤ 120 →
    fp_S l G 3 kX12_duel 168 [some (rV G 177), some (iV x), some (iV p), some (iV q), some (iV r), some (iV n), some (iV w), some (iV sz), some (iV mvv), some (iV k), some (iV v), some (iV b), some (iV wh), some (iV m), o14, o15] [] N Q := by
  intro rr
  induction rr with
  | zero => intro m b wh o14 o15 h; omega
  | succ rr ih =>
    intro m b wh o14 o15 h m0 m1 hb
    by_cases hlt : m < 3
    · have hx := hN (3 * v + m) (by omega) (by omega)
      generalize hxe : N 193 (3 * v + m).toNat = xx at *
      have h233 : ∀ z, (z = 0 ∨ z = 1) → fp_S l G 3 kX12_duel 233 [some (rV G 177), some (iV x), some (iV p), some (iV q), some (iV r), some (iV n), some (iV w), some (iV sz), some (iV mvv), some (iV k), some (iV v), some (iV b), some (iV wh), some (iV m), some (iV xx), o15] [iV z] N Q := by
        intro z hz
        refine S.istore (pc' := 235) (LL' := [_, _, _, _, _, _, _, _, _, _, _, _, _, _, _, _]) dX12_duel_233 rfl (by decide) rfl rfl ?_
        refine S.iload (pc' := 237) dX12_duel_235 rfl rfl ?_
        refine S.if_eq (pc' := 240) (tgt := 245) dX12_duel_237 (by decide) rfl (by unfold fp_rng; omega) (fun h237 => ?_) (fun h237 => ?_)
        · refine S.iload (pc' := 247) dX12_duel_245 rfl rfl ?_
          refine S.istore (pc' := 249) (LL' := [_, _, _, _, _, _, _, _, _, _, _, _, _, _, _, _]) dX12_duel_247 rfl (by decide) rfl rfl ?_
          refine S.iload (pc' := 251) dX12_duel_249 rfl rfl ?_
          refine S.if_eq (pc' := 254) (tgt := 259) dX12_duel_251 (by decide) rfl (by unfold fp_rng; omega) (fun h251 => ?_) (fun h251 => ?_)
          · refine S.iload (pc' := 261) dX12_duel_259 rfl rfl ?_
            refine S.istore (pc' := 263) (LL' := [_, _, _, _, _, _, _, _, _, _, _, _, _, _, _, _]) dX12_duel_261 rfl (by decide) rfl rfl ?_
            refine S.iinc (pc' := 266) (LL' := [_, _, _, _, _, _, _, _, _, _, _, _, _, _, _, _]) dX12_duel_263 rfl (by decide) rfl rfl rfl ?_
            refine S.goto (pc' := 168) dX12_duel_266 (by decide) ?_
            exact ih _ _ _ _ _ (by omega) (by omega) (by omega) (by omega)
          · refine S.iload (pc' := 256) dX12_duel_254 rfl rfl ?_
            refine S.goto (pc' := 261) dX12_duel_256 (by decide) ?_
            refine S.istore (pc' := 263) (LL' := [_, _, _, _, _, _, _, _, _, _, _, _, _, _, _, _]) dX12_duel_261 rfl (by decide) rfl rfl ?_
            refine S.iinc (pc' := 266) (LL' := [_, _, _, _, _, _, _, _, _, _, _, _, _, _, _, _]) dX12_duel_263 rfl (by decide) rfl rfl rfl ?_
            refine S.goto (pc' := 168) dX12_duel_266 (by decide) ?_
            exact ih _ _ _ _ _ (by omega) (by omega) (by omega) (by omega)
        · refine S.iload (pc' := 242) dX12_duel_240 rfl rfl ?_
          refine S.goto (pc' := 247) dX12_duel_242 (by decide) ?_
          refine S.istore (pc' := 249) (LL' := [_, _, _, _, _, _, _, _, _, _, _, _, _, _, _, _]) dX12_duel_247 rfl (by decide) rfl rfl ?_
          refine S.iload (pc' := 251) dX12_duel_249 rfl rfl ?_
          refine S.if_eq (pc' := 254) (tgt := 259) dX12_duel_251 (by decide) rfl (by unfold fp_rng; omega) (fun h251 => ?_) (fun h251 => ?_)
          · refine S.iload (pc' := 261) dX12_duel_259 rfl rfl ?_
            refine S.istore (pc' := 263) (LL' := [_, _, _, _, _, _, _, _, _, _, _, _, _, _, _, _]) dX12_duel_261 rfl (by decide) rfl rfl ?_
            refine S.iinc (pc' := 266) (LL' := [_, _, _, _, _, _, _, _, _, _, _, _, _, _, _, _]) dX12_duel_263 rfl (by decide) rfl rfl rfl ?_
            refine S.goto (pc' := 168) dX12_duel_266 (by decide) ?_
            exact ih _ _ _ _ _ (by omega) (by omega) (by omega) (by omega)
          · refine S.iload (pc' := 256) dX12_duel_254 rfl rfl ?_
            refine S.goto (pc' := 261) dX12_duel_256 (by decide) ?_
            refine S.istore (pc' := 263) (LL' := [_, _, _, _, _, _, _, _, _, _, _, _, _, _, _, _]) dX12_duel_261 rfl (by decide) rfl rfl ?_
            refine S.iinc (pc' := 266) (LL' := [_, _, _, _, _, _, _, _, _, _, _, _, _, _, _, _]) dX12_duel_263 rfl (by decide) rfl rfl rfl ?_
            refine S.goto (pc' := 168) dX12_duel_266 (by decide) ?_
            exact ih _ _ _ _ _ (by omega) (by omega) (by omega) (by omega)
      refine S.iload (pc' := 170) dX12_duel_168 rfl rfl ?_
      refine S.iconst (pc' := 171) dX12_duel_170 rfl ?_
      refine S.icmp_ge (pc' := 174) (tgt := 269) dX12_duel_171 (by decide) rfl (by unfold fp_rng; omega) (by unfold fp_rng; omega) (fun h171 => ?_) (fun h171 => ?_)
      · exfalso; omega
      · refine S.aload_n (pc' := 175) dX12_duel_174 rfl rfl rfl ?_
        refine S.getR (pc' := 178) dX12_duel_175 rfl fX12_60 L_177 rf_177_34 ?_
        refine S.iconst (pc' := 179) dX12_duel_178 rfl ?_
        refine S.iload (pc' := 181) dX12_duel_179 rfl rfl ?_
        refine S.imul (pc' := 182) dX12_duel_181 rfl ?_
        refine S.iload (pc' := 184) dX12_duel_182 rfl rfl ?_
        refine S.iadd (pc' := 185) dX12_duel_184 rfl ?_
        refine S.iald (pc' := 186) dX12_duel_185 rfl L_193 (by omega) (by omega) ?_
        rw [hxe]
        refine S.istore (pc' := 188) (LL' := [_, _, _, _, _, _, _, _, _, _, _, _, _, _, _, _]) dX12_duel_186 rfl (by decide) rfl rfl ?_
        refine S.iload (pc' := 190) dX12_duel_188 rfl rfl ?_
        refine S.sipush (pc' := 193) dX12_duel_190 rfl (by decide) ?_
        refine S.icmp_eq (pc' := 196) (tgt := 232) dX12_duel_193 (by decide) rfl (by unfold fp_rng; omega) (by unfold fp_rng; omega) (fun h193 => ?_) (fun h193 => ?_)
        · refine S.iconst (pc' := 233) dX12_duel_232 rfl ?_
          exact h233 _ (by omega)
        · refine S.iload (pc' := 198) dX12_duel_196 rfl rfl ?_
          refine S.sipush (pc' := 201) dX12_duel_198 rfl (by decide) ?_
          refine S.icmp_eq (pc' := 204) (tgt := 228) dX12_duel_201 (by decide) rfl (by unfold fp_rng; omega) (by unfold fp_rng; omega) (fun h201 => ?_) (fun h201 => ?_)
          · refine S.iconst (pc' := 229) dX12_duel_228 rfl ?_
            refine S.goto (pc' := 233) dX12_duel_229 (by decide) ?_
            exact h233 _ (by omega)
          · refine S.iload (pc' := 206) dX12_duel_204 rfl rfl ?_
            refine S.iconst (pc' := 207) dX12_duel_206 rfl ?_
            refine S.irem (pc' := 208) dX12_duel_207 rfl (by decide) (fp_irem (by omega) (by omega)) ?_
            refine S.if_ne (pc' := 211) (tgt := 221) dX12_duel_208 (by decide) rfl (by unfold fp_rng; omega) (fun h208 => ?_) (fun h208 => ?_)
            · refine S.iload (pc' := 223) dX12_duel_221 rfl rfl ?_
              refine S.iload (pc' := 225) dX12_duel_223 rfl rfl ?_
              refine S.icmp_ge (pc' := 228) (tgt := 232) dX12_duel_225 (by decide) rfl (by unfold fp_rng; omega) (by unfold fp_rng; omega) (fun h225 => ?_) (fun h225 => ?_)
              · refine S.iconst (pc' := 233) dX12_duel_232 rfl ?_
                exact h233 _ (by omega)
              · refine S.iconst (pc' := 229) dX12_duel_228 rfl ?_
                refine S.goto (pc' := 233) dX12_duel_229 (by decide) ?_
                exact h233 _ (by omega)
            · refine S.iload (pc' := 213) dX12_duel_211 rfl rfl ?_
              refine S.iload (pc' := 215) dX12_duel_213 rfl rfl ?_
              refine S.icmp_le (pc' := 218) (tgt := 232) dX12_duel_215 (by decide) rfl (by unfold fp_rng; omega) (by unfold fp_rng; omega) (fun h215 => ?_) (fun h215 => ?_)
              · refine S.iconst (pc' := 233) dX12_duel_232 rfl ?_
                exact h233 _ (by omega)
              · refine S.goto (pc' := 228) dX12_duel_218 (by decide) ?_
                refine S.iconst (pc' := 229) dX12_duel_228 rfl ?_
                refine S.goto (pc' := 233) dX12_duel_229 (by decide) ?_
                exact h233 _ (by omega)
    · refine S.iload (pc' := 170) dX12_duel_168 rfl rfl ?_
      refine S.iconst (pc' := 171) dX12_duel_170 rfl ?_
      refine S.icmp_ge (pc' := 174) (tgt := 269) dX12_duel_171 (by decide) rfl (by unfold fp_rng; omega) (by unfold fp_rng; omega) (fun h171 => ?_) (fun h171 => ?_)
      · exact K _ _ _ _ _ hb
      · exfalso; omega
theorem mfold_v {x p q r n w k : Int} {j : Nat} {Q : fp_Q} (hj : j < 6) (hk : 0 ≤ k ∧ k ≤ 5) (K : ∀ (N : fp_Mem) (mvv v : Int) (o11 o12 o13 o14 o15 : Option Value), frX M N → fdOk N (3 ^ (j + 1)) → fp_S l G 3 kX12_duel 288 [some (rV G 177), some (iV x), some (iV p), some (iV q), some (iV r), some (iV n), some (iV w), some (iV (3 ^ j)), some (iV mvv), some (iV k), some (iV v), o11, o12, o13, o14, o15] [] N Q) : ∀ (rr : Nat) (mvv v : Int) (N : fp_Mem) (o11 o12 o13 o14 o15 : Option Value), (3 ^ j - v).toNat < rr → 0 ≤ v → v ≤ 3 ^ j → frX M N → fdOk N (3 ^ (j + 1)) →
    fp_S l G 3 kX12_duel 150 [some (rV G 177), some (iV x), some (iV p), some (iV q), some (iV r), some (iV n), some (iV w), some (iV (3 ^ j)), some (iV mvv), some (iV k), some (iV v), o11, o12, o13, o14, o15] [] N Q := by
  have h1 := pow3_in (show j < 7 by omega)
  have h2 := pow3_in (show j + 1 < 7 by omega)
  have e2 : (3 : Int) ^ (j + 1) = 3 ^ j * 3 := Int.pow_succ 3 j
  generalize hTe : (3 : Int) ^ (j + 1) = T at *
  generalize hSe : (3 : Int) ^ j = SZ at *
  intro rr
  induction rr with
  | zero => intro mvv v N o11 o12 o13 o14 o15 h; omega
  | succ rr ih =>
    intro mvv v N o11 o12 o13 o14 o15 h v0 v1 hf hN
    by_cases hlt : v < SZ
    · have h269 : ∀ (b wh : Int) (o13 o14 o15 : Option Value), -9999 ≤ b ∧ b ≤ 120 → fp_S l G 3 kX12_duel 269 [some (rV G 177), some (iV x), some (iV p), some (iV q), some (iV r), some (iV n), some (iV w), some (iV SZ), some (iV mvv), some (iV k), some (iV v), some (iV b), some (iV wh), o13, o14, o15] [] N Q := by
        intro b wh o13 o14 o15 hb
        refine S.aload_n (pc' := 270) dX12_duel_269 rfl rfl rfl ?_
        refine S.getR (pc' := 273) dX12_duel_270 rfl fX12_60 L_177 rf_177_34 ?_
        refine S.iload (pc' := 275) dX12_duel_273 rfl rfl ?_
        refine S.iload (pc' := 277) dX12_duel_275 rfl rfl ?_
        refine S.iast (pc' := 278) dX12_duel_277 rfl L_193 (by omega) (by omega) ?_
        refine S.iload (pc' := 280) dX12_duel_278 rfl rfl ?_
        refine S.istore (pc' := 282) (LL' := [_, _, _, _, _, _, _, _, _, _, _, _, _, _, _, _]) dX12_duel_280 rfl (by decide) rfl rfl ?_
        refine S.iinc (pc' := 285) (LL' := [_, _, _, _, _, _, _, _, _, _, _, _, _, _, _, _]) dX12_duel_282 rfl (by decide) rfl rfl rfl ?_
        refine S.goto (pc' := 150) dX12_duel_285 (by decide) ?_
        exact ih _ _ _ _ _ _ _ _ (by omega) (by omega) (by omega) (hf.trans (frX.fold _ _ _)) (hN.up v0 hb)
      refine S.iload (pc' := 152) dX12_duel_150 rfl rfl ?_
      refine S.iload (pc' := 154) dX12_duel_152 rfl rfl ?_
      refine S.icmp_ge (pc' := 157) (tgt := 288) dX12_duel_154 (by decide) rfl (by unfold fp_rng; omega) (by unfold fp_rng; omega) (fun h154 => ?_) (fun h154 => ?_)
      · exfalso; omega
      · refine S.sipush (pc' := 160) dX12_duel_157 rfl (by decide) ?_
        refine S.istore (pc' := 162) (LL' := [_, _, _, _, _, _, _, _, _, _, _, _, _, _, _, _]) dX12_duel_160 rfl (by decide) rfl rfl ?_
        refine S.iconst (pc' := 163) dX12_duel_162 rfl ?_
        refine S.istore (pc' := 165) (LL' := [_, _, _, _, _, _, _, _, _, _, _, _, _, _, _, _]) dX12_duel_163 rfl (by decide) rfl rfl ?_
        refine S.iconst (pc' := 166) dX12_duel_165 rfl ?_
        refine S.istore (pc' := 168) (LL' := [_, _, _, _, _, _, _, _, _, _, _, _, _, _, _, _]) dX12_duel_166 rfl (by decide) rfl rfl ?_
        exact mfold_m (T := T) (by omega) hN (by omega) hk h269 4 0 _ _ _ _ (by omega) (by omega) (by omega) (by omega)
    · refine S.iload (pc' := 152) dX12_duel_150 rfl rfl ?_
      refine S.iload (pc' := 154) dX12_duel_152 rfl rfl ?_
      refine S.icmp_ge (pc' := 157) (tgt := 288) dX12_duel_154 (by decide) rfl (by unfold fp_rng; omega) (by unfold fp_rng; omega) (fun h154 => ?_) (fun h154 => ?_)
      · exact K _ _ _ _ _ _ _ _ hf hN
      · exfalso; omega
theorem mfold_k {x p q r n w : Int} {Q : fp_Q} (K : ∀ (N : fp_Mem) (sz mvv k : Int) (o10 o11 o12 o13 o14 o15 : Option Value), frX M N → fp_S l G 3 kX12_duel 294 [some (rV G 177), some (iV x), some (iV p), some (iV q), some (iV r), some (iV n), some (iV w), some (iV sz), some (iV mvv), some (iV k), o10, o11, o12, o13, o14, o15] [] N Q) : ∀ (j : Nat) (mvv k : Int) (N : fp_Mem) (o10 o11 o12 o13 o14 o15 : Option Value), j ≤ 6 → k + 1 = j → frX M N → fdOk N (3 ^ j) →
    fp_S l G 3 kX12_duel 136 [some (rV G 177), some (iV x), some (iV p), some (iV q), some (iV r), some (iV n), some (iV w), some (iV (3 ^ j)), some (iV mvv), some (iV k), o10, o11, o12, o13, o14, o15] [] N Q := by
  intro j
  induction j with
  | zero =>
    intro mvv k N o10 o11 o12 o13 o14 o15 hj hk hf hN
    refine S.iload (pc' := 138) dX12_duel_136 rfl rfl ?_
    refine S.if_lt (pc' := 141) (tgt := 294) dX12_duel_138 (by decide) rfl (by unfold fp_rng; omega) (fun h138 => ?_) (fun h138 => ?_)
    · exact K _ _ _ _ _ _ _ _ _ _ hf
    · exfalso; omega
  | succ j ih =>
    intro mvv k N o10 o11 o12 o13 o14 o15 hj hk hf hN
    have h1 := pow3_in (show j < 7 by omega)
    have h2 := pow3_in (show j + 1 < 7 by omega)
    have e2 : (3 : Int) ^ (j + 1) / 3 = 3 ^ j := by
      rw [Int.pow_succ 3 j]; exact Int.mul_ediv_cancel _ (by decide)
    have h288 : ∀ (N1 : fp_Mem) (mvv v : Int) (o11 o12 o13 o14 o15 : Option Value), frX N N1 → fdOk N1 (3 ^ (j + 1)) → fp_S l G 3 kX12_duel 288 [some (rV G 177), some (iV x), some (iV p), some (iV q), some (iV r), some (iV n), some (iV w), some (iV (3 ^ j)), some (iV mvv), some (iV k), some (iV v), o11, o12, o13, o14, o15] [] N1 Q := by
      intro N1 mvv v o11 o12 o13 o14 o15 f1 n1
      have e3 : (3 : Int) ^ (j + 1) = 3 ^ j * 3 := Int.pow_succ 3 j
      refine S.iinc (pc' := 291) (LL' := [_, _, _, _, _, _, _, _, _, _, _, _, _, _, _, _]) dX12_duel_288 rfl (by decide) rfl rfl rfl ?_
      refine S.goto (pc' := 136) dX12_duel_291 (by decide) ?_
      exact ih _ _ _ _ _ _ _ _ _ (by omega) (by omega) (hf.trans f1) (fun i i0 i1 => n1 i i0 (by omega))
    refine S.iload (pc' := 138) dX12_duel_136 rfl rfl ?_
    refine S.if_lt (pc' := 141) (tgt := 294) dX12_duel_138 (by decide) rfl (by unfold fp_rng; omega) (fun h138 => ?_) (fun h138 => ?_)
    · exfalso; omega
    · refine S.iload (pc' := 143) dX12_duel_141 rfl rfl ?_
      refine S.iconst (pc' := 144) dX12_duel_143 rfl ?_
      refine S.idiv (pc' := 145) dX12_duel_144 rfl (by decide) (fp_idiv (by omega) (by omega)) ?_
      rw [e2]
      refine S.istore (pc' := 147) (LL' := [_, _, _, _, _, _, _, _, _, _, _, _, _, _, _, _]) dX12_duel_145 rfl (by decide) rfl rfl ?_
      refine S.iconst (pc' := 148) dX12_duel_147 rfl ?_
      refine S.istore (pc' := 150) (LL' := [_, _, _, _, _, _, _, _, _, _, _, _, _, _, _, _]) dX12_duel_148 rfl (by decide) rfl rfl ?_
      exact mfold_v (M := N) (j := j) (by omega) (by omega) h288 _ _ 0 _ _ _ _ _ _ (Nat.lt_succ_self _) (by omega) (by omega) (frX.refl _) hN
theorem mplay_v {x p q r n w : Int} {m : Nat} {Q : fp_Q} (hm : m < 7) (hnm : n = m) (hn : 1 ≤ n ∧ n ≤ 6) (hg : gOk g) (hP : pgOk g pg) (hx : 0 ≤ x ∧ x < g.2.1) (hp : 0 ≤ p ∧ p < 4) (hq : 0 ≤ q ∧ q < 4) (hr : 0 ≤ r ∧ r ≤ 2) (hd : mdIs M g) (hc : mpIs M 0 g pg) (K : ∀ (N : fp_Mem) (v : Int), frX M N → fdOk N (3 ^ m) → fp_S l G 3 kX12_duel 127 [some (rV G 177), some (iV x), some (iV p), some (iV q), some (iV r), some (iV n), some (iV w), some (iV (3 ^ m)), some (iV v), none, none, none, none, none, none, none] [] N Q) : ∀ (rr : Nat) (v : Int) (N : fp_Mem), (3 ^ m - v).toNat < rr → 0 ≤ v → v ≤ 3 ^ m → frX M N → fdOk N v →
    fp_S l G 3 kX12_duel 94 [some (rV G 177), some (iV x), some (iV p), some (iV q), some (iV r), some (iV n), some (iV w), some (iV (3 ^ m)), some (iV v), none, none, none, none, none, none, none] [] N Q := by
  have h1 := pow3_in hm
  generalize hSe : (3 : Int) ^ m = SZ at *
  intro rr
  induction rr with
  | zero => intro v N h; omega
  | succ rr ih =>
    intro v N h v0 v1 hf hN
    by_cases hlt : v < SZ
    · have dN := hf.md hd
      have cN := hf.mp0 hg hP hc
      refine S.iload (pc' := 96) dX12_duel_94 rfl rfl ?_
      refine S.iload (pc' := 98) dX12_duel_96 rfl rfl ?_
      refine S.icmp_ge (pc' := 101) (tgt := 127) dX12_duel_98 (by decide) rfl (by unfold fp_rng; omega) (by unfold fp_rng; omega) (fun h98 => ?_) (fun h98 => ?_)
      · exfalso; omega
      · refine S.aload_n (pc' := 102) dX12_duel_101 rfl rfl rfl ?_
        refine S.getR (pc' := 105) dX12_duel_102 rfl fX12_60 L_177 rf_177_34 ?_
        refine S.iload (pc' := 107) dX12_duel_105 rfl rfl ?_
        refine S.aload_n (pc' := 108) dX12_duel_107 rfl rfl rfl ?_
        refine S.iload_n (pc' := 109) dX12_duel_108 rfl rfl rfl ?_
        refine S.iload_n (pc' := 110) dX12_duel_109 rfl rfl rfl ?_
        refine S.iload_n (pc' := 111) dX12_duel_110 rfl rfl rfl ?_
        refine S.iload (pc' := 113) dX12_duel_111 rfl rfl ?_
        refine S.iload (pc' := 115) dX12_duel_113 rfl rfl ?_
        refine S.iload (pc' := 117) dX12_duel_115 rfl rfl ?_
        refine S.callVi (pc' := 120) dX12_duel_117 rfl cX12_306 (wk_X12_plays (mv := v) hg hP hx hp hq hr hn (by omega) dN cN) rfl L_177 (by decide) rfl (Nat.le_of_ble_eq_true rfl) (fun z117 M117 q117 => ?_)
        refine S.iast (pc' := 121) dX12_duel_120 rfl L_193 (by omega) (by omega) ?_
        refine S.iinc (pc' := 124) (LL' := [_, _, _, _, _, _, _, _, _, _, _, _, _, _, _, _]) dX12_duel_121 rfl (by decide) rfl rfl rfl ?_
        refine S.goto (pc' := 94) dX12_duel_124 (by decide) ?_
        obtain ⟨z1, f1⟩ := q117
        have f2 : frX M M117 := hf.trans ⟨fun c a1 _ => f1.1 c a1, f1.2⟩
        refine ih _ _ (by omega) (by omega) (by omega) (f2.trans (frX.fold _ _ _)) (fun i i0 i1 => ?_)
        rw [fp_up_at]
        by_cases e : i = v
        · rw [e, fp_upf_at]; exact z1
        · rw [fp_upf_ne (by omega), f1.1 193 (by decide)]; exact hN i i0 (by omega)
    · have e : v = SZ := by omega
      refine S.iload (pc' := 96) dX12_duel_94 rfl rfl ?_
      refine S.iload (pc' := 98) dX12_duel_96 rfl rfl ?_
      refine S.icmp_ge (pc' := 101) (tgt := 127) dX12_duel_98 (by decide) rfl (by unfold fp_rng; omega) (by unfold fp_rng; omega) (fun h98 => ?_) (fun h98 => ?_)
      · exact K _ _ hf (by rw [← e]; exact hN)
      · exfalso; omega
theorem mw_duel {x p q r n w : Int} (hc : MS M tp fl g pg vs nt im sh tn) (ho : OK g pg vs nt im sh) (hx : fp_rng x) (hp : fp_rng p) (hq : fp_rng q) (hr : fp_rng r) (hn : fp_rng n) (hw : fp_rng w) : fp_Ok l G 3 kX12_duel [rV G 177, iV x, iV p, iV q, iV r, iV n, iV w] M (qI fun _ N => MS N tp fl g pg vs nt im sh tn ∧ frD M N) := by
  have hcs := hc
  obtain ⟨-, hd, hcl, hv, -⟩ := hc
  have hg := ho.1
  have hP := ho.2.1
  have e5 : M 177 5 = g.2.1 := hd.2.1
  have hg2 := hg.2.1
  have hx' := hx
  have hp' := hp
  have hq' := hq
  have hr' := hr
  have hn' := hn
  have hw' := hw
  unfold fp_rng at hx' hp' hq' hr' hn' hw'
  refine fp_Ok.of (r := 9) rfl (Nat.le_of_ble_eq_true rfl) rfl ?_
  have h66 : (0 ≤ x ∧ x < g.2.1) → (0 ≤ p ∧ p < 4) → (0 ≤ q ∧ q < 4) → (0 ≤ r ∧ r ≤ 2) → (1 ≤ n ∧ n ≤ 6) → fp_S l G 3 kX12_duel 66 [some (rV G 177), some (iV x), some (iV p), some (iV q), some (iV r), some (iV n), some (iV w), none, none, none, none, none, none, none, none, none] [] M (qI fun _ N => MS N tp fl g pg vs nt im sh tn ∧ frD M N) := by
    intro ix ip iq ir inn
    obtain ⟨m, hm⟩ : ∃ m : Nat, n = (m : Int) := ⟨n.toNat, by omega⟩
    have h294 : ∀ (N : fp_Mem) (sz mvv k : Int) (o10 o11 o12 o13 o14 o15 : Option Value), frX M N → fp_S l G 3 kX12_duel 294 [some (rV G 177), some (iV x), some (iV p), some (iV q), some (iV r), some (iV n), some (iV w), some (iV sz), some (iV mvv), some (iV k), o10, o11, o12, o13, o14, o15] [] N (qI fun _ N => MS N tp fl g pg vs nt im sh tn ∧ frD M N) := by
      intro N sz mvv k o10 o11 o12 o13 o14 o15 f1
      refine S.iload (pc' := 296) dX12_duel_294 rfl rfl ?_
      refine S.if_ne (pc' := 299) (tgt := 312) dX12_duel_296 (by decide) rfl hw (fun h296 => ?_) (fun h296 => ?_)
      · refine S.iload (pc' := 314) dX12_duel_312 rfl rfl ?_
        refine S.iret dX12_duel_314 rfl ?_
        exact ⟨hcs.xx ho f1, f1.d⟩
      · refine S.sipush (pc' := 302) dX12_duel_299 rfl (by decide) ?_
        refine S.aload_n (pc' := 303) dX12_duel_302 rfl rfl rfl ?_
        refine S.getR (pc' := 306) dX12_duel_303 rfl fX12_60 L_177 rf_177_34 ?_
        refine S.iconst (pc' := 307) dX12_duel_306 rfl ?_
        refine S.iald (pc' := 308) dX12_duel_307 rfl L_193 (by omega) (by omega) ?_
        refine S.iadd (pc' := 309) dX12_duel_308 rfl ?_
        refine S.goto (pc' := 314) dX12_duel_309 (by decide) ?_
        refine S.iret dX12_duel_314 rfl ?_
        exact ⟨hcs.xx ho f1, f1.d⟩
    have h127 : ∀ (N : fp_Mem) (v : Int), frX M N → fdOk N (3 ^ m) → fp_S l G 3 kX12_duel 127 [some (rV G 177), some (iV x), some (iV p), some (iV q), some (iV r), some (iV n), some (iV w), some (iV (3 ^ m)), some (iV v), none, none, none, none, none, none, none] [] N (qI fun _ N => MS N tp fl g pg vs nt im sh tn ∧ frD M N) := by
      intro N v f1 n1
      refine S.iconst (pc' := 128) dX12_duel_127 rfl ?_
      refine S.istore (pc' := 130) (LL' := [_, _, _, _, _, _, _, _, _, _, _, _, _, _, _, _]) dX12_duel_128 rfl (by decide) rfl rfl ?_
      refine S.iload (pc' := 132) dX12_duel_130 rfl rfl ?_
      refine S.iconst (pc' := 133) dX12_duel_132 rfl ?_
      refine S.isub (pc' := 134) dX12_duel_133 rfl ?_
      refine S.istore (pc' := 136) (LL' := [_, _, _, _, _, _, _, _, _, _, _, _, _, _, _, _]) dX12_duel_134 rfl (by decide) rfl rfl ?_
      exact mfold_k h294 m _ _ _ _ _ _ _ _ _ (by omega) (by omega) f1 n1
    have h91 : fp_S l G 3 kX12_duel 91 [some (rV G 177), some (iV x), some (iV p), some (iV q), some (iV r), some (iV n), some (iV w), some (iV (3 ^ m)), some (iV n), none, none, none, none, none, none, none] [] M (qI fun _ N => MS N tp fl g pg vs nt im sh tn ∧ frD M N) := by
      have h1 := pow3_in (show m < 7 by omega)
      refine S.iconst (pc' := 92) dX12_duel_91 rfl ?_
      refine S.istore (pc' := 94) (LL' := [_, _, _, _, _, _, _, _, _, _, _, _, _, _, _, _]) dX12_duel_92 rfl (by decide) rfl rfl ?_
      exact mplay_v (m := m) (by omega) hm inn hg hP ix ip iq ir hd hcl h127 _ 0 M (Nat.lt_succ_self _) (by omega) (by omega) (frX.refl _) (fun i i0 i1 => by omega)
    have h72 : ∀ (rr j : Nat), m - j < rr → j ≤ m → fp_S l G 3 kX12_duel 72 [some (rV G 177), some (iV x), some (iV p), some (iV q), some (iV r), some (iV n), some (iV w), some (iV (3 ^ j)), some (iV (j : Int)), none, none, none, none, none, none, none] [] M (qI fun _ N => MS N tp fl g pg vs nt im sh tn ∧ frD M N) := by
      intro rr
      induction rr with
      | zero => intro j h; omega
      | succ rr ih =>
        intro j h hj
        by_cases he : j < m
        · refine S.iload (pc' := 74) dX12_duel_72 rfl rfl ?_
          refine S.iload (pc' := 76) dX12_duel_74 rfl rfl ?_
          refine S.icmp_ge (pc' := 79) (tgt := 91) dX12_duel_76 (by decide) rfl (by unfold fp_rng; omega) (by unfold fp_rng; omega) (fun h76 => ?_) (fun h76 => ?_)
          · exfalso; omega
          · refine S.iload (pc' := 81) dX12_duel_79 rfl rfl ?_
            refine S.iconst (pc' := 82) dX12_duel_81 rfl ?_
            refine S.imul (pc' := 83) dX12_duel_82 rfl ?_
            refine S.istore (pc' := 85) (LL' := [_, _, _, _, _, _, _, _, _, _, _, _, _, _, _, _]) dX12_duel_83 rfl (by decide) rfl rfl ?_
            refine S.iinc (pc' := 88) (LL' := [_, _, _, _, _, _, _, _, _, _, _, _, _, _, _, _]) dX12_duel_85 rfl (by decide) rfl rfl rfl ?_
            refine S.goto (pc' := 72) dX12_duel_88 (by decide) ?_
            rw [show (3 : Int) ^ j * 3 = 3 ^ (j + 1) from (Int.pow_succ 3 j).symm, show ((j : Int) + 1) = ((j + 1 : Nat) : Int) by omega]
            exact ih (j + 1) (by omega) (by omega)
        · have e : j = m := by omega
          subst e
          rw [hm] at h91 ⊢
          refine S.iload (pc' := 74) dX12_duel_72 rfl rfl ?_
          refine S.iload (pc' := 76) dX12_duel_74 rfl rfl ?_
          refine S.icmp_ge (pc' := 79) (tgt := 91) dX12_duel_76 (by decide) rfl (by unfold fp_rng; omega) (by unfold fp_rng; omega) (fun h76 => ?_) (fun h76 => ?_)
          · exact h91
          · exfalso; omega
    refine S.iconst (pc' := 67) dX12_duel_66 rfl ?_
    refine S.istore (pc' := 69) (LL' := [_, _, _, _, _, _, _, _, _, _, _, _, _, _, _, _]) dX12_duel_67 rfl (by decide) rfl rfl ?_
    refine S.iconst (pc' := 70) dX12_duel_69 rfl ?_
    refine S.istore (pc' := 72) (LL' := [_, _, _, _, _, _, _, _, _, _, _, _, _, _, _, _]) dX12_duel_70 rfl (by decide) rfl rfl ?_
    exact h72 (m + 1) 0 (by omega) (by omega)
  refine S.aload_n (pc' := 1) dX12_duel_0 rfl rfl rfl ?_
  refine S.iload_n (pc' := 2) dX12_duel_1 rfl rfl rfl ?_
  refine S.callVi (pc' := 5) dX12_duel_2 rfl cX12_219 (bk_X12_isLine) rfl L_177 (by decide) rfl (Nat.le_of_ble_eq_true rfl) (fun z2 M2 q2 => ?_)
  obtain ⟨b2, rfl⟩ := q2
  refine S.if_eq (pc' := 8) (tgt := 64) dX12_duel_5 (by decide) rfl (by unfold fp_rng; omega) (fun h5 => ?_) (fun h5 => ?_)
  · refine S.iconst (pc' := 65) dX12_duel_64 rfl ?_
    refine S.iret dX12_duel_65 rfl ?_
    exact ⟨hcs, frD.refl _⟩
  · refine S.iload_n (pc' := 9) dX12_duel_8 rfl rfl rfl ?_
    refine S.callSi (pc' := 12) dX12_duel_9 rfl cX12_228 (bk_X12_isOne) rfl (by decide) rfl (Nat.le_of_ble_eq_true rfl) (fun z9 M9 q9 => ?_)
    obtain ⟨b9, rfl⟩ := q9
    refine S.if_eq (pc' := 15) (tgt := 64) dX12_duel_12 (by decide) rfl (by unfold fp_rng; omega) (fun h12 => ?_) (fun h12 => ?_)
    · refine S.iconst (pc' := 65) dX12_duel_64 rfl ?_
      refine S.iret dX12_duel_65 rfl ?_
      exact ⟨hcs, frD.refl _⟩
    · refine S.iload_n (pc' := 16) dX12_duel_15 rfl rfl rfl ?_
      refine S.callSi (pc' := 19) dX12_duel_16 rfl cX12_228 (bk_X12_isOne) rfl (by decide) rfl (Nat.le_of_ble_eq_true rfl) (fun z16 M16 q16 => ?_)
      obtain ⟨b16, rfl⟩ := q16
      refine S.if_eq (pc' := 22) (tgt := 64) dX12_duel_19 (by decide) rfl (by unfold fp_rng; omega) (fun h19 => ?_) (fun h19 => ?_)
      · refine S.iconst (pc' := 65) dX12_duel_64 rfl ?_
        refine S.iret dX12_duel_65 rfl ?_
        exact ⟨hcs, frD.refl _⟩
      · refine S.iload_n (pc' := 23) dX12_duel_22 rfl rfl rfl ?_
        refine S.iload_n (pc' := 24) dX12_duel_23 rfl rfl rfl ?_
        refine S.icmp_eq (pc' := 27) (tgt := 64) dX12_duel_24 (by decide) rfl hp hq (fun h24 => ?_) (fun h24 => ?_)
        · refine S.iconst (pc' := 65) dX12_duel_64 rfl ?_
          refine S.iret dX12_duel_65 rfl ?_
          exact ⟨hcs, frD.refl _⟩
        · refine S.iload (pc' := 29) dX12_duel_27 rfl rfl ?_
          refine S.i2l (pc' := 30) dX12_duel_29 rfl hr ?_
          refine S.lconst (pc' := 31) (w := 0) dX12_duel_30 rfl rfl ?_
          refine S.ldc2 (pc' := 34) (v := 2) dX12_duel_31 rfl lX12_271 (by decide) ?_
          refine S.callSi (pc' := 37) dX12_duel_34 rfl cX12_94 (bk_X12_in) rfl (by decide) rfl (Nat.le_of_ble_eq_true rfl) (fun z34 M34 q34 => ?_)
          obtain ⟨b34, rfl⟩ := q34
          refine S.if_eq (pc' := 40) (tgt := 64) dX12_duel_37 (by decide) rfl (by unfold fp_rng; omega) (fun h37 => ?_) (fun h37 => ?_)
          · refine S.iconst (pc' := 65) dX12_duel_64 rfl ?_
            refine S.iret dX12_duel_65 rfl ?_
            exact ⟨hcs, frD.refl _⟩
          · refine S.iload (pc' := 42) dX12_duel_40 rfl rfl ?_
            refine S.i2l (pc' := 43) dX12_duel_42 rfl hn ?_
            refine S.lconst (pc' := 44) (w := 1) dX12_duel_43 rfl rfl ?_
            refine S.ldc2 (pc' := 47) (v := 6) dX12_duel_44 rfl lX12_304 (by decide) ?_
            refine S.callSi (pc' := 50) dX12_duel_47 rfl cX12_94 (bk_X12_in) rfl (by decide) rfl (Nat.le_of_ble_eq_true rfl) (fun z47 M47 q47 => ?_)
            obtain ⟨b47, rfl⟩ := q47
            refine S.if_eq (pc' := 53) (tgt := 64) dX12_duel_50 (by decide) rfl (by unfold fp_rng; omega) (fun h50 => ?_) (fun h50 => ?_)
            · refine S.iconst (pc' := 65) dX12_duel_64 rfl ?_
              refine S.iret dX12_duel_65 rfl ?_
              exact ⟨hcs, frD.refl _⟩
            · refine S.iload (pc' := 55) dX12_duel_53 rfl rfl ?_
              refine S.i2l (pc' := 56) dX12_duel_55 rfl hw ?_
              refine S.lconst (pc' := 57) (w := 0) dX12_duel_56 rfl rfl ?_
              refine S.lconst (pc' := 58) (w := 1) dX12_duel_57 rfl rfl ?_
              refine S.callSi (pc' := 61) dX12_duel_58 rfl cX12_94 (bk_X12_in) rfl (by decide) rfl (Nat.le_of_ble_eq_true rfl) (fun z58 M58 q58 => ?_)
              obtain ⟨b58, rfl⟩ := q58
              refine S.if_ne (pc' := 64) (tgt := 66) dX12_duel_61 (by decide) rfl (by unfold fp_rng; omega) (fun h61 => ?_) (fun h61 => ?_)
              · exact h66 (by omega) (by omega) (by omega) (by omega) (by omega)
              · refine S.iconst (pc' := 65) dX12_duel_64 rfl ?_
                refine S.iret dX12_duel_65 rfl ?_
                exact ⟨hcs, frD.refl _⟩
end MDW
end
section
/-! orders: the class returns and keeps the state -/
theorem fp_any (x : Int32) : x = Int32.ofInt x.toInt := (Int32.ofInt_toInt x).symm
def fcI : Nat → Int
  | 0 => 1
  | k + 1 => fcI k * ((k : Int) + 2)
theorem fcI_in {k : Nat} (h : k < 7) : 1 ≤ fcI k ∧ fcI k ≤ 5040 := by
  have q : ∀ k : Nat, k < 7 → 1 ≤ fcI k ∧ fcI k ≤ 5040 := by decide +kernel
  exact q k h
def oPre (M : fp_Mem) (g : aGd) (nt : List Int) : Prop := (0 ≤ M 133 0 ∧ M 133 0 ≤ 2) ∧ (0 ≤ M 133 1 ∧ M 133 1 ≤ 7) ∧ (∀ i : Int, 0 ≤ i → i < 8 → 0 ≤ M 134 i.toNat ∧ M 134 i.toNat ≤ 9) ∧ gd_ok M 18 ∧ ntIs M 32 nt ∧ ntOk g nt ∧ gOk g
theorem oPre.drawn {M : fp_Mem} {g : aGd} {nt : List Int} (h : oPre M g nt) {i : Int} (i0 : 0 ≤ i) (i1 : i < nt.length) : 0 ≤ M (32 + 1) i.toNat ∧ M (32 + 1) i.toNat ≤ 9 := by
  obtain ⟨-, -, -, -, hn, ho, hg⟩ := h
  have e := hn.2.2 i i0 i1
  have hm : nt.getD i.toNat 0 ∈ nt := fp_getD_mem (by omega)
  have := ho.1 _ hm
  have := hg.1
  rw [e]
  omega
theorem oPre.kept {M N : fp_Mem} {g : aGd} {nt : List Int} (h : oPre M g nt) (e0 : N 133 0 = M 133 0) (e1 : N 133 1 = M 133 1) (e : ∀ a, a ≠ 133 → a ≠ 135 → N a = M a) : oPre N g nt := by
  obtain ⟨h1, h2, h3, h4, h5, h6, h7⟩ := h
  refine ⟨by rw [e0]; exact h1, by rw [e1]; exact h2, by rw [e 134 (by decide) (by decide)]; exact h3, ?_, h5.kept (fun a a1 a2 => e a (by omega) (by omega)), h6, h7⟩
  unfold gd_ok at h4 ⊢
  rw [e 18 (by decide) (by decide), e (18 + 1) (by decide) (by decide), e (18 + 2) (by decide) (by decide), e (18 + 3) (by decide) (by decide)]
  exact h4
section COR
variable {l : Launch} {G : fp_WG} {M N : fp_Mem} {tp : List Int} {fl : Int} {g : aGd} {pg : aPg} {vs : List aVt} {nt : List Int} {im : aIm} {sh : aSh} {tn : Int}
theorem wk_X3_spotOf {t : Int} (h : oPre M g nt) (ht : fp_rng t) : fp_Ok l G 0 kX3_spotOf [rV G 32, iV t] M (qI fun z N => (z = -4 ∨ (0 ≤ z ∧ z < 8)) ∧ M = N) := by
  obtain ⟨-, -, -, -, hn, ho, hg⟩ := h
  have := fp_find_in (f := fun i => nt.getD i.toNat 0) (t := t) nt.length 0
  have hl := hn.2.1
  exact (rk_X3_spotOf nt32 hn ho hg ht).toI ⟨by omega, rfl⟩
theorem wk_X4_weight {t : Int} (h : oPre M g nt) (ht : 0 ≤ t ∧ t ≤ 9) : fp_Ok l G 0 kX4_weightThatCounts [rV G 133, rV G 18, iV t] M (qI fun z N => (0 ≤ z ∧ z ≤ 100) ∧ M = N) := by
  have h1 := h.1
  have hw := h.2.2.2.1.2.2.2.1 t ht.1 (by omega)
  refine fp_Ok.of (r := 0) rfl (Nat.le_of_ble_eq_true rfl) rfl ?_
  refine S.aload_n (pc' := 1) dX4_weightThatCounts_0 rfl rfl rfl ?_
  refine S.getI (pc' := 4) dX4_weightThatCounts_1 rfl fX4_23 L_133 ?_
  refine S.iconst (pc' := 5) dX4_weightThatCounts_4 rfl ?_
  refine S.icmp_ne (pc' := 8) (tgt := 17) dX4_weightThatCounts_5 (by decide) rfl (by unfold fp_rng; omega) (by unfold fp_rng; omega) (fun h5 => ?_) (fun h5 => ?_)
  · refine S.iconst (pc' := 18) dX4_weightThatCounts_17 rfl ?_
    refine S.iret dX4_weightThatCounts_18 rfl ?_
    first
    | exact ⟨hw, rfl⟩
    | exact ⟨by omega, rfl⟩
  · refine S.aload_n (pc' := 9) dX4_weightThatCounts_8 rfl rfl rfl ?_
    refine S.getR (pc' := 12) dX4_weightThatCounts_9 rfl fX4_42 (gd_lay gd18) (gd_r3 gd18) ?_
    refine S.iload_n (pc' := 13) dX4_weightThatCounts_12 rfl rfl rfl ?_
    refine S.iald (pc' := 14) dX4_weightThatCounts_13 rfl (gd_a3 gd18) (by omega) (by omega) ?_
    refine S.goto (pc' := 18) dX4_weightThatCounts_14 (by decide) ?_
    refine S.iret dX4_weightThatCounts_18 rfl ?_
    first
    | exact ⟨hw, rfl⟩
    | exact ⟨by omega, rfl⟩
theorem wk_X4_isMember {t : Int} (h : oPre M g nt) (ht : fp_rng t) : fp_Ok l G 0 kX4_isMember [rV G 133, iV t] M (qI fun z N => (z = 0 ∨ z = 1) ∧ M = N) := by
  have h2 := h.2.1
  have hL : ∀ (r : Nat) (i : Int), (8 - i).toNat < r → 0 ≤ i → i ≤ 8 → fp_S l G 0 kX4_isMember 2 [some (rV G 133), some (iV t), some (iV i)] [] M (qI fun z N => (z = 0 ∨ z = 1) ∧ M = N) := by
    intro r
    induction r with
    | zero => intro i hr; omega
    | succ r ih =>
      intro i hr i0 i1
      by_cases hlt : i < M 133 1
      · have hm := h.2.2.1 i i0 (by omega)
        refine S.iload_n (pc' := 3) dX4_isMember_2 rfl rfl rfl ?_
        refine S.aload_n (pc' := 4) dX4_isMember_3 rfl rfl rfl ?_
        refine S.getI (pc' := 7) dX4_isMember_4 rfl fX4_31 L_133 ?_
        refine S.icmp_ge (pc' := 10) (tgt := 28) dX4_isMember_7 (by decide) rfl (by unfold fp_rng; omega) (by unfold fp_rng; omega) (fun h7 => ?_) (fun h7 => ?_)
        · exfalso; omega
        · refine S.aload_n (pc' := 11) dX4_isMember_10 rfl rfl rfl ?_
          refine S.getR (pc' := 14) dX4_isMember_11 rfl fX4_9 L_133 rf_133_2 ?_
          refine S.iload_n (pc' := 15) dX4_isMember_14 rfl rfl rfl ?_
          refine S.iald (pc' := 16) dX4_isMember_15 rfl L_134 (by omega) (by omega) ?_
          refine S.iload_n (pc' := 17) dX4_isMember_16 rfl rfl rfl ?_
          refine S.icmp_ne (pc' := 20) (tgt := 22) dX4_isMember_17 (by decide) rfl (by unfold fp_rng; omega) ht (fun h17 => ?_) (fun h17 => ?_)
          · refine S.iinc (pc' := 25) (LL' := [_, _, _]) dX4_isMember_22 rfl (by decide) rfl rfl rfl ?_
            refine S.goto (pc' := 2) dX4_isMember_25 (by decide) ?_
            exact ih _ (by omega) (by omega) (by omega)
          · refine S.iconst (pc' := 21) dX4_isMember_20 rfl ?_
            refine S.zret dX4_isMember_21 rfl (by first | exact Or.inl rfl | exact Or.inr rfl | omega) ?_
            exact ⟨Or.inr rfl, rfl⟩
      · refine S.iload_n (pc' := 3) dX4_isMember_2 rfl rfl rfl ?_
        refine S.aload_n (pc' := 4) dX4_isMember_3 rfl rfl rfl ?_
        refine S.getI (pc' := 7) dX4_isMember_4 rfl fX4_31 L_133 ?_
        refine S.icmp_ge (pc' := 10) (tgt := 28) dX4_isMember_7 (by decide) rfl (by unfold fp_rng; omega) (by unfold fp_rng; omega) (fun h7 => ?_) (fun h7 => ?_)
        · refine S.iconst (pc' := 29) dX4_isMember_28 rfl ?_
          refine S.zret dX4_isMember_29 rfl (by first | exact Or.inl rfl | exact Or.inr rfl | omega) ?_
          exact ⟨Or.inl rfl, rfl⟩
        · exfalso; omega
  refine fp_Ok.of (r := 1) rfl (Nat.le_of_ble_eq_true rfl) rfl ?_
  refine S.iconst (pc' := 1) dX4_isMember_0 rfl ?_
  refine S.istore_n (pc' := 2) (LL' := [_, _, _]) dX4_isMember_1 rfl (by decide) rfl rfl rfl ?_
  exact hL 9 0 (by omega) (by omega) (by omega)
theorem wk_X4_isLightest {i : Int} (h : oPre M g nt) (hi : 0 ≤ i ∧ i < nt.length) : fp_Ok l G 1 kX4_isLightestBehind [rV G 133, rV G 18, rV G 32, iV i] M (qI fun z N => (z = 0 ∨ z = 1) ∧ M = N) := by
  have h2 := h.2.1
  have hl := h.2.2.2.2.1.2.1
  have hdr := h.drawn hi.1 hi.2
  have hL : ∀ (r : Nat) (w j : Int) (o6 o7 : Option Value), 0 ≤ w ∧ w ≤ 100 → (8 - j).toNat < r → 0 ≤ j → j ≤ 8 → fp_S l G 1 kX4_isLightestBehind 16 [some (rV G 133), some (rV G 18), some (rV G 32), some (iV i), some (iV w), some (iV j), o6, o7] [] M (qI fun z N => (z = 0 ∨ z = 1) ∧ M = N) := by
    intro r
    induction r with
    | zero => intro w j o6 o7 hw hr; omega
    | succ r ih =>
      intro w j o6 o7 hw hr j0 j1
      by_cases hlt : j < M 133 1
      · have hm := h.2.2.1 j j0 (by omega)
        have h56 : ∀ z s : Int, (z = 0 ∨ z = 1) → fp_S l G 1 kX4_isLightestBehind 56 [some (rV G 133), some (rV G 18), some (rV G 32), some (iV i), some (iV w), some (iV j), some (iV s), o7] [iV z] M (qI fun z N => (z = 0 ∨ z = 1) ∧ M = N) := by
          intro z s hz
          refine S.istore (pc' := 58) (LL' := [_, _, _, _, _, _, _, _]) dX4_isLightestBehind_56 rfl (by decide) rfl rfl ?_
          refine S.iload (pc' := 60) dX4_isLightestBehind_58 rfl rfl ?_
          refine S.if_ne (pc' := 63) (tgt := 82) dX4_isLightestBehind_60 (by decide) rfl (by unfold fp_rng; omega) (fun h60 => ?_) (fun h60 => ?_)
          · refine S.iinc (pc' := 85) (LL' := [_, _, _, _, _, _, _, _]) dX4_isLightestBehind_82 rfl (by decide) rfl rfl rfl ?_
            refine S.goto (pc' := 16) dX4_isLightestBehind_85 (by decide) ?_
            exact ih _ _ _ _ hw (by omega) (by omega) (by omega)
          · refine S.aload_n (pc' := 64) dX4_isLightestBehind_63 rfl rfl rfl ?_
            refine S.aload_n (pc' := 65) dX4_isLightestBehind_64 rfl rfl rfl ?_
            refine S.aload_n (pc' := 66) dX4_isLightestBehind_65 rfl rfl rfl ?_
            refine S.getR (pc' := 69) dX4_isLightestBehind_66 rfl fX4_9 L_133 rf_133_2 ?_
            refine S.iload (pc' := 71) dX4_isLightestBehind_69 rfl rfl ?_
            refine S.iald (pc' := 72) dX4_isLightestBehind_71 rfl L_134 (by omega) (by omega) ?_
            refine S.callVi (pc' := 75) dX4_isLightestBehind_72 rfl cX4_59 (wk_X4_weight h hm) rfl L_133 (by decide) rfl (Nat.le_of_ble_eq_true rfl) (fun z72 M72 q72 => ?_)
            obtain ⟨z1, rfl⟩ := q72
            refine S.iload (pc' := 77) dX4_isLightestBehind_75 rfl rfl ?_
            refine S.icmp_ge (pc' := 80) (tgt := 82) dX4_isLightestBehind_77 (by decide) rfl (by unfold fp_rng; omega) (by unfold fp_rng; omega) (fun h77 => ?_) (fun h77 => ?_)
            · refine S.iinc (pc' := 85) (LL' := [_, _, _, _, _, _, _, _]) dX4_isLightestBehind_82 rfl (by decide) rfl rfl rfl ?_
              refine S.goto (pc' := 16) dX4_isLightestBehind_85 (by decide) ?_
              exact ih _ _ _ _ hw (by omega) (by omega) (by omega)
            · refine S.iconst (pc' := 81) dX4_isLightestBehind_80 rfl ?_
              refine S.zret dX4_isLightestBehind_81 rfl (by first | exact Or.inl rfl | exact Or.inr rfl | omega) ?_
              exact ⟨Or.inl rfl, rfl⟩
        refine S.iload (pc' := 18) dX4_isLightestBehind_16 rfl rfl ?_
        refine S.aload_n (pc' := 19) dX4_isLightestBehind_18 rfl rfl rfl ?_
        refine S.getI (pc' := 22) dX4_isLightestBehind_19 rfl fX4_31 L_133 ?_
        refine S.icmp_ge (pc' := 25) (tgt := 88) dX4_isLightestBehind_22 (by decide) rfl (by unfold fp_rng; omega) (by unfold fp_rng; omega) (fun h22 => ?_) (fun h22 => ?_)
        · exfalso; omega
        · refine S.aload_n (pc' := 26) dX4_isLightestBehind_25 rfl rfl rfl ?_
          refine S.aload_n (pc' := 27) dX4_isLightestBehind_26 rfl rfl rfl ?_
          refine S.getR (pc' := 30) dX4_isLightestBehind_27 rfl fX4_9 L_133 rf_133_2 ?_
          refine S.iload (pc' := 32) dX4_isLightestBehind_30 rfl rfl ?_
          refine S.iald (pc' := 33) dX4_isLightestBehind_32 rfl L_134 (by omega) (by omega) ?_
          refine S.callVi (pc' := 36) dX4_isLightestBehind_33 rfl cX4_63 (wk_X3_spotOf h (by unfold fp_rng; omega)) rfl (nt_lay nt32) (by decide) rfl (Nat.le_of_ble_eq_true rfl) (fun z33 M33 q33 => ?_)
          obtain ⟨z1, rfl⟩ := q33
          refine S.istore (pc' := 38) (LL' := [_, _, _, _, _, _, _, _]) dX4_isLightestBehind_36 rfl (by decide) rfl rfl ?_
          refine S.iload (pc' := 40) dX4_isLightestBehind_38 rfl rfl ?_
          refine S.bipush (pc' := 42) dX4_isLightestBehind_40 rfl (by decide) ?_
          refine S.icmp_eq (pc' := 45) (tgt := 55) dX4_isLightestBehind_42 (by decide) rfl (by unfold fp_rng; omega) (by unfold fp_rng; omega) (fun h42 => ?_) (fun h42 => ?_)
          · refine S.iconst (pc' := 56) dX4_isLightestBehind_55 rfl ?_
            exact h56 _ _ (by omega)
          · refine S.iload (pc' := 47) dX4_isLightestBehind_45 rfl rfl ?_
            refine S.iload_n (pc' := 48) dX4_isLightestBehind_47 rfl rfl rfl ?_
            refine S.icmp_ge (pc' := 51) (tgt := 55) dX4_isLightestBehind_48 (by decide) rfl (by unfold fp_rng; omega) (by unfold fp_rng; omega) (fun h48 => ?_) (fun h48 => ?_)
            · refine S.iconst (pc' := 56) dX4_isLightestBehind_55 rfl ?_
              exact h56 _ _ (by omega)
            · refine S.iconst (pc' := 52) dX4_isLightestBehind_51 rfl ?_
              refine S.goto (pc' := 56) dX4_isLightestBehind_52 (by decide) ?_
              exact h56 _ _ (by omega)
      · refine S.iload (pc' := 18) dX4_isLightestBehind_16 rfl rfl ?_
        refine S.aload_n (pc' := 19) dX4_isLightestBehind_18 rfl rfl rfl ?_
        refine S.getI (pc' := 22) dX4_isLightestBehind_19 rfl fX4_31 L_133 ?_
        refine S.icmp_ge (pc' := 25) (tgt := 88) dX4_isLightestBehind_22 (by decide) rfl (by unfold fp_rng; omega) (by unfold fp_rng; omega) (fun h22 => ?_) (fun h22 => ?_)
        · refine S.iconst (pc' := 89) dX4_isLightestBehind_88 rfl ?_
          refine S.zret dX4_isLightestBehind_89 rfl (by first | exact Or.inl rfl | exact Or.inr rfl | omega) ?_
          exact ⟨Or.inr rfl, rfl⟩
        · exfalso; omega
  refine fp_Ok.of (r := 4) rfl (Nat.le_of_ble_eq_true rfl) rfl ?_
  refine S.aload_n (pc' := 1) dX4_isLightestBehind_0 rfl rfl rfl ?_
  refine S.aload_n (pc' := 2) dX4_isLightestBehind_1 rfl rfl rfl ?_
  refine S.aload_n (pc' := 3) dX4_isLightestBehind_2 rfl rfl rfl ?_
  refine S.getR (pc' := 6) dX4_isLightestBehind_3 rfl fX4_48 (nt_lay nt32) (nt_r1 nt32) ?_
  refine S.iload_n (pc' := 7) dX4_isLightestBehind_6 rfl rfl rfl ?_
  refine S.iald (pc' := 8) dX4_isLightestBehind_7 rfl (nt_a1 nt32) (by omega) (by omega) ?_
  refine S.callVi (pc' := 11) dX4_isLightestBehind_8 rfl cX4_59 (wk_X4_weight h hdr) rfl L_133 (by decide) rfl (Nat.le_of_ble_eq_true rfl) (fun z8 M8 q8 => ?_)
  obtain ⟨z1, rfl⟩ := q8
  refine S.istore (pc' := 13) (LL' := [_, _, _, _, _, _, _, _]) dX4_isLightestBehind_11 rfl (by decide) rfl rfl ?_
  refine S.iconst (pc' := 14) dX4_isLightestBehind_13 rfl ?_
  refine S.istore (pc' := 16) (LL' := [_, _, _, _, _, _, _, _]) dX4_isLightestBehind_14 rfl (by decide) rfl rfl ?_
  exact hL 9 _ 0 _ _ z1 (by omega) (by omega) (by omega)
theorem wk_X4_canFit (h : oPre M g nt) : fp_Ok l G 2 kX4_canFit [rV G 133, rV G 18, rV G 32] M (qI fun z N => (z = 0 ∨ z = 1) ∧ M = N) := by
  have hl1 := h.2.2.2.2.1.1
  have hl := h.2.2.2.2.1.2.1
  have hL : ∀ (r : Nat) (i : Int), (8 - i).toNat < r → 0 ≤ i → i ≤ 8 → fp_S l G 2 kX4_canFit 2 [some (rV G 133), some (rV G 18), some (rV G 32), some (iV i)] [] M (qI fun z N => (z = 0 ∨ z = 1) ∧ M = N) := by
    intro r
    induction r with
    | zero => intro i hr; omega
    | succ r ih =>
      intro i hr i0 i1
      by_cases hlt : i < nt.length
      · have hdr := h.drawn i0 hlt
        refine S.iload_n (pc' := 3) dX4_canFit_2 rfl rfl rfl ?_
        refine S.aload_n (pc' := 4) dX4_canFit_3 rfl rfl rfl ?_
        refine S.getI (pc' := 7) dX4_canFit_4 rfl fX4_45 (nt_lay nt32) ?_
        refine S.icmp_ge (pc' := 10) (tgt := 41) dX4_canFit_7 (by decide) rfl (by unfold fp_rng; omega) (by unfold fp_rng; omega) (fun h7 => ?_) (fun h7 => ?_)
        · exfalso; omega
        · refine S.aload_n (pc' := 11) dX4_canFit_10 rfl rfl rfl ?_
          refine S.aload_n (pc' := 12) dX4_canFit_11 rfl rfl rfl ?_
          refine S.getR (pc' := 15) dX4_canFit_12 rfl fX4_48 (nt_lay nt32) (nt_r1 nt32) ?_
          refine S.iload_n (pc' := 16) dX4_canFit_15 rfl rfl rfl ?_
          refine S.iald (pc' := 17) dX4_canFit_16 rfl (nt_a1 nt32) (by omega) (by omega) ?_
          refine S.callVi (pc' := 20) dX4_canFit_17 rfl cX4_51 (wk_X4_isMember h (by unfold fp_rng; omega)) rfl L_133 (by decide) rfl (Nat.le_of_ble_eq_true rfl) (fun z17 M17 q17 => ?_)
          obtain ⟨z1, rfl⟩ := q17
          refine S.if_eq (pc' := 23) (tgt := 33) dX4_canFit_20 (by decide) rfl (by unfold fp_rng; omega) (fun h20 => ?_) (fun h20 => ?_)
          · refine S.iconst (pc' := 34) dX4_canFit_33 rfl ?_
            refine S.zret dX4_canFit_34 rfl (by first | exact Or.inl rfl | exact Or.inr rfl | omega) ?_
            exact ⟨Or.inl rfl, rfl⟩
          · refine S.aload_n (pc' := 24) dX4_canFit_23 rfl rfl rfl ?_
            refine S.aload_n (pc' := 25) dX4_canFit_24 rfl rfl rfl ?_
            refine S.aload_n (pc' := 26) dX4_canFit_25 rfl rfl rfl ?_
            refine S.iload_n (pc' := 27) dX4_canFit_26 rfl rfl rfl ?_
            refine S.callVi (pc' := 30) dX4_canFit_27 rfl cX4_55 (wk_X4_isLightest h ⟨i0, hlt⟩) rfl L_133 (by decide) rfl (Nat.le_of_ble_eq_true rfl) (fun z27 M27 q27 => ?_)
            obtain ⟨z2, rfl⟩ := q27
            refine S.if_ne (pc' := 33) (tgt := 35) dX4_canFit_30 (by decide) rfl (by unfold fp_rng; omega) (fun h30 => ?_) (fun h30 => ?_)
            · refine S.iinc (pc' := 38) (LL' := [_, _, _, _]) dX4_canFit_35 rfl (by decide) rfl rfl rfl ?_
              refine S.goto (pc' := 2) dX4_canFit_38 (by decide) ?_
              exact ih _ (by omega) (by omega) (by omega)
            · refine S.iconst (pc' := 34) dX4_canFit_33 rfl ?_
              refine S.zret dX4_canFit_34 rfl (by first | exact Or.inl rfl | exact Or.inr rfl | omega) ?_
              exact ⟨Or.inl rfl, rfl⟩
      · refine S.iload_n (pc' := 3) dX4_canFit_2 rfl rfl rfl ?_
        refine S.aload_n (pc' := 4) dX4_canFit_3 rfl rfl rfl ?_
        refine S.getI (pc' := 7) dX4_canFit_4 rfl fX4_45 (nt_lay nt32) ?_
        refine S.icmp_ge (pc' := 10) (tgt := 41) dX4_canFit_7 (by decide) rfl (by unfold fp_rng; omega) (by unfold fp_rng; omega) (fun h7 => ?_) (fun h7 => ?_)
        · refine S.iconst (pc' := 42) dX4_canFit_41 rfl ?_
          refine S.zret dX4_canFit_42 rfl (by first | exact Or.inl rfl | exact Or.inr rfl | omega) ?_
          exact ⟨Or.inr rfl, rfl⟩
        · exfalso; omega
  refine fp_Ok.of (r := 1) rfl (Nat.le_of_ble_eq_true rfl) rfl ?_
  refine S.iconst (pc' := 1) dX4_canFit_0 rfl ?_
  refine S.istore_n (pc' := 2) (LL' := [_, _, _, _]) dX4_canFit_1 rfl (by decide) rfl rfl rfl ?_
  exact hL 9 0 (by omega) (by omega) (by omega)
theorem wk_X4_choicesAt {i : Int} (h : oPre M g nt) (hi : 0 ≤ i ∧ i < nt.length) : fp_Ok l G 1 kX4_choicesAt [rV G 133, rV G 18, rV G 32, iV i] M (qI fun z N => (0 ≤ z ∧ z ≤ 8) ∧ M = N) := by
  have h2 := h.2.1
  have hl := h.2.2.2.2.1.2.1
  have hdr := h.drawn hi.1 hi.2
  have hL : ∀ (r : Nat) (w c j : Int) (o7 o8 : Option Value), 0 ≤ w ∧ w ≤ 100 → 0 ≤ c ∧ c ≤ j → (8 - j).toNat < r → 0 ≤ j → j ≤ 8 → fp_S l G 1 kX4_choicesAt 19 [some (rV G 133), some (rV G 18), some (rV G 32), some (iV i), some (iV w), some (iV c), some (iV j), o7, o8] [] M (qI fun z N => (0 ≤ z ∧ z ≤ 8) ∧ M = N) := by
    intro r
    induction r with
    | zero => intro w c j o7 o8 hw hc hr; omega
    | succ r ih =>
      intro w c j o7 o8 hw hc hr j0 j1
      by_cases hlt : j < M 133 1
      · have hm := h.2.2.1 j j0 (by omega)
        have h59 : ∀ z s : Int, (z = 0 ∨ z = 1) → fp_S l G 1 kX4_choicesAt 59 [some (rV G 133), some (rV G 18), some (rV G 32), some (iV i), some (iV w), some (iV c), some (iV j), some (iV s), o8] [iV z] M (qI fun z N => (0 ≤ z ∧ z ≤ 8) ∧ M = N) := by
          intro z s hz
          refine S.istore (pc' := 61) (LL' := [_, _, _, _, _, _, _, _, _]) dX4_choicesAt_59 rfl (by decide) rfl rfl ?_
          refine S.iload (pc' := 63) dX4_choicesAt_61 rfl rfl ?_
          refine S.if_ne (pc' := 66) (tgt := 86) dX4_choicesAt_63 (by decide) rfl (by unfold fp_rng; omega) (fun h63 => ?_) (fun h63 => ?_)
          · refine S.iinc (pc' := 89) (LL' := [_, _, _, _, _, _, _, _, _]) dX4_choicesAt_86 rfl (by decide) rfl rfl rfl ?_
            refine S.goto (pc' := 19) dX4_choicesAt_89 (by decide) ?_
            exact ih _ _ _ _ _ hw (by omega) (by omega) (by omega) (by omega)
          · refine S.aload_n (pc' := 67) dX4_choicesAt_66 rfl rfl rfl ?_
            refine S.aload_n (pc' := 68) dX4_choicesAt_67 rfl rfl rfl ?_
            refine S.aload_n (pc' := 69) dX4_choicesAt_68 rfl rfl rfl ?_
            refine S.getR (pc' := 72) dX4_choicesAt_69 rfl fX4_9 L_133 rf_133_2 ?_
            refine S.iload (pc' := 74) dX4_choicesAt_72 rfl rfl ?_
            refine S.iald (pc' := 75) dX4_choicesAt_74 rfl L_134 (by omega) (by omega) ?_
            refine S.callVi (pc' := 78) dX4_choicesAt_75 rfl cX4_59 (wk_X4_weight h hm) rfl L_133 (by decide) rfl (Nat.le_of_ble_eq_true rfl) (fun z75 M75 q75 => ?_)
            obtain ⟨z1, rfl⟩ := q75
            refine S.iload (pc' := 80) dX4_choicesAt_78 rfl rfl ?_
            refine S.icmp_ne (pc' := 83) (tgt := 86) dX4_choicesAt_80 (by decide) rfl (by unfold fp_rng; omega) (by unfold fp_rng; omega) (fun h80 => ?_) (fun h80 => ?_)
            · refine S.iinc (pc' := 89) (LL' := [_, _, _, _, _, _, _, _, _]) dX4_choicesAt_86 rfl (by decide) rfl rfl rfl ?_
              refine S.goto (pc' := 19) dX4_choicesAt_89 (by decide) ?_
              exact ih _ _ _ _ _ hw (by omega) (by omega) (by omega) (by omega)
            · refine S.iinc (pc' := 86) (LL' := [_, _, _, _, _, _, _, _, _]) dX4_choicesAt_83 rfl (by decide) rfl rfl rfl ?_
              refine S.iinc (pc' := 89) (LL' := [_, _, _, _, _, _, _, _, _]) dX4_choicesAt_86 rfl (by decide) rfl rfl rfl ?_
              refine S.goto (pc' := 19) dX4_choicesAt_89 (by decide) ?_
              exact ih _ _ _ _ _ hw (by omega) (by omega) (by omega) (by omega)
        refine S.iload (pc' := 21) dX4_choicesAt_19 rfl rfl ?_
        refine S.aload_n (pc' := 22) dX4_choicesAt_21 rfl rfl rfl ?_
        refine S.getI (pc' := 25) dX4_choicesAt_22 rfl fX4_31 L_133 ?_
        refine S.icmp_ge (pc' := 28) (tgt := 92) dX4_choicesAt_25 (by decide) rfl (by unfold fp_rng; omega) (by unfold fp_rng; omega) (fun h25 => ?_) (fun h25 => ?_)
        · exfalso; omega
        · refine S.aload_n (pc' := 29) dX4_choicesAt_28 rfl rfl rfl ?_
          refine S.aload_n (pc' := 30) dX4_choicesAt_29 rfl rfl rfl ?_
          refine S.getR (pc' := 33) dX4_choicesAt_30 rfl fX4_9 L_133 rf_133_2 ?_
          refine S.iload (pc' := 35) dX4_choicesAt_33 rfl rfl ?_
          refine S.iald (pc' := 36) dX4_choicesAt_35 rfl L_134 (by omega) (by omega) ?_
          refine S.callVi (pc' := 39) dX4_choicesAt_36 rfl cX4_63 (wk_X3_spotOf h (by unfold fp_rng; omega)) rfl (nt_lay nt32) (by decide) rfl (Nat.le_of_ble_eq_true rfl) (fun z36 M36 q36 => ?_)
          obtain ⟨z1, rfl⟩ := q36
          refine S.istore (pc' := 41) (LL' := [_, _, _, _, _, _, _, _, _]) dX4_choicesAt_39 rfl (by decide) rfl rfl ?_
          refine S.iload (pc' := 43) dX4_choicesAt_41 rfl rfl ?_
          refine S.bipush (pc' := 45) dX4_choicesAt_43 rfl (by decide) ?_
          refine S.icmp_eq (pc' := 48) (tgt := 58) dX4_choicesAt_45 (by decide) rfl (by unfold fp_rng; omega) (by unfold fp_rng; omega) (fun h45 => ?_) (fun h45 => ?_)
          · refine S.iconst (pc' := 59) dX4_choicesAt_58 rfl ?_
            exact h59 _ _ (by omega)
          · refine S.iload (pc' := 50) dX4_choicesAt_48 rfl rfl ?_
            refine S.iload_n (pc' := 51) dX4_choicesAt_50 rfl rfl rfl ?_
            refine S.icmp_ge (pc' := 54) (tgt := 58) dX4_choicesAt_51 (by decide) rfl (by unfold fp_rng; omega) (by unfold fp_rng; omega) (fun h51 => ?_) (fun h51 => ?_)
            · refine S.iconst (pc' := 59) dX4_choicesAt_58 rfl ?_
              exact h59 _ _ (by omega)
            · refine S.iconst (pc' := 55) dX4_choicesAt_54 rfl ?_
              refine S.goto (pc' := 59) dX4_choicesAt_55 (by decide) ?_
              exact h59 _ _ (by omega)
      · refine S.iload (pc' := 21) dX4_choicesAt_19 rfl rfl ?_
        refine S.aload_n (pc' := 22) dX4_choicesAt_21 rfl rfl rfl ?_
        refine S.getI (pc' := 25) dX4_choicesAt_22 rfl fX4_31 L_133 ?_
        refine S.icmp_ge (pc' := 28) (tgt := 92) dX4_choicesAt_25 (by decide) rfl (by unfold fp_rng; omega) (by unfold fp_rng; omega) (fun h25 => ?_) (fun h25 => ?_)
        · refine S.iload (pc' := 94) dX4_choicesAt_92 rfl rfl ?_
          refine S.iret dX4_choicesAt_94 rfl ?_
          exact ⟨by omega, rfl⟩
        · exfalso; omega
  refine fp_Ok.of (r := 5) rfl (Nat.le_of_ble_eq_true rfl) rfl ?_
  refine S.aload_n (pc' := 1) dX4_choicesAt_0 rfl rfl rfl ?_
  refine S.aload_n (pc' := 2) dX4_choicesAt_1 rfl rfl rfl ?_
  refine S.aload_n (pc' := 3) dX4_choicesAt_2 rfl rfl rfl ?_
  refine S.getR (pc' := 6) dX4_choicesAt_3 rfl fX4_48 (nt_lay nt32) (nt_r1 nt32) ?_
  refine S.iload_n (pc' := 7) dX4_choicesAt_6 rfl rfl rfl ?_
  refine S.iald (pc' := 8) dX4_choicesAt_7 rfl (nt_a1 nt32) (by omega) (by omega) ?_
  refine S.callVi (pc' := 11) dX4_choicesAt_8 rfl cX4_59 (wk_X4_weight h hdr) rfl L_133 (by decide) rfl (Nat.le_of_ble_eq_true rfl) (fun z8 M8 q8 => ?_)
  obtain ⟨z1, rfl⟩ := q8
  refine S.istore (pc' := 13) (LL' := [_, _, _, _, _, _, _, _, _]) dX4_choicesAt_11 rfl (by decide) rfl rfl ?_
  refine S.iconst (pc' := 14) dX4_choicesAt_13 rfl ?_
  refine S.istore (pc' := 16) (LL' := [_, _, _, _, _, _, _, _, _]) dX4_choicesAt_14 rfl (by decide) rfl rfl ?_
  refine S.iconst (pc' := 17) dX4_choicesAt_16 rfl ?_
  refine S.istore (pc' := 19) (LL' := [_, _, _, _, _, _, _, _, _]) dX4_choicesAt_17 rfl (by decide) rfl rfl ?_
  exact hL 9 _ 0 0 _ _ z1 (by omega) (by omega) (by omega) (by omega)
theorem wk_X4_howMany (h : oPre M g nt) : fp_Ok l G 3 kX4_howMany [rV G 133, rV G 18, rV G 32] M (qI fun _ N => M = N) := by
  have h2 := h.2.1
  have hl1 := h.2.2.2.2.1.1
  have hl := h.2.2.2.2.1.2.1
  have hL2 : ∀ (r : Nat) (m i : Int) (o5 : Option Value), 0 ≤ m ∧ m ≤ 5040 → (8 - i).toNat < r → 0 ≤ i → i ≤ 8 → fp_S l G 3 kX4_howMany 39 [some (rV G 133), some (rV G 18), some (rV G 32), some (iV m), some (iV i), o5] [] M (qI fun _ N => M = N) := by
    intro r
    induction r with
    | zero => intro m i o5 hm hr; omega
    | succ r ih =>
      intro m i o5 hm hr i0 i1
      by_cases hlt : i < nt.length
      · have hq : ∀ c : Int, 0 < c → 0 ≤ m / c ∧ m / c ≤ 5040 := fun c hc => ⟨Int.ediv_nonneg hm.1 (by omega), by have := Int.ediv_le_self c hm.1; omega⟩
        refine S.iload (pc' := 41) dX4_howMany_39 rfl rfl ?_
        refine S.aload_n (pc' := 42) dX4_howMany_41 rfl rfl rfl ?_
        refine S.getI (pc' := 45) dX4_howMany_42 rfl fX4_45 (nt_lay nt32) ?_
        refine S.icmp_ge (pc' := 48) (tgt := 74) dX4_howMany_45 (by decide) rfl (by unfold fp_rng; omega) (by unfold fp_rng; omega) (fun h45 => ?_) (fun h45 => ?_)
        · exfalso; omega
        · refine S.aload_n (pc' := 49) dX4_howMany_48 rfl rfl rfl ?_
          refine S.aload_n (pc' := 50) dX4_howMany_49 rfl rfl rfl ?_
          refine S.aload_n (pc' := 51) dX4_howMany_50 rfl rfl rfl ?_
          refine S.iload (pc' := 53) dX4_howMany_51 rfl rfl ?_
          refine S.callVi (pc' := 56) dX4_howMany_53 rfl cX4_71 (wk_X4_choicesAt h ⟨i0, hlt⟩) rfl L_133 (by decide) rfl (Nat.le_of_ble_eq_true rfl) (fun z53 M53 q53 => ?_)
          obtain ⟨z1, rfl⟩ := q53
          refine S.istore (pc' := 58) (LL' := [_, _, _, _, _, _]) dX4_howMany_56 rfl (by decide) rfl rfl ?_
          refine S.iload (pc' := 60) dX4_howMany_58 rfl rfl ?_
          refine S.if_le (pc' := 63) (tgt := 68) dX4_howMany_60 (by decide) rfl (by unfold fp_rng; omega) (fun h60 => ?_) (fun h60 => ?_)
          · refine S.iinc (pc' := 71) (LL' := [_, _, _, _, _, _]) dX4_howMany_68 rfl (by decide) rfl rfl rfl ?_
            refine S.goto (pc' := 39) dX4_howMany_71 (by decide) ?_
            first
            | exact ih _ _ _ hm (by omega) (by omega) (by omega)
            | exact ih _ _ _ (hq _ (by omega)) (by omega) (by omega) (by omega)
          · refine S.iload_n (pc' := 64) dX4_howMany_63 rfl rfl rfl ?_
            refine S.iload (pc' := 66) dX4_howMany_64 rfl rfl ?_
            refine S.idiv (pc' := 67) dX4_howMany_66 rfl (fp_ine (by omega)) (fp_idiv (by omega) (by omega)) ?_
            refine S.istore_n (pc' := 68) (LL' := [_, _, _, _, _, _]) dX4_howMany_67 rfl (by decide) rfl rfl rfl ?_
            refine S.iinc (pc' := 71) (LL' := [_, _, _, _, _, _]) dX4_howMany_68 rfl (by decide) rfl rfl rfl ?_
            refine S.goto (pc' := 39) dX4_howMany_71 (by decide) ?_
            first
            | exact ih _ _ _ hm (by omega) (by omega) (by omega)
            | exact ih _ _ _ (hq _ (by omega)) (by omega) (by omega) (by omega)
      · refine S.iload (pc' := 41) dX4_howMany_39 rfl rfl ?_
        refine S.aload_n (pc' := 42) dX4_howMany_41 rfl rfl rfl ?_
        refine S.getI (pc' := 45) dX4_howMany_42 rfl fX4_45 (nt_lay nt32) ?_
        refine S.icmp_ge (pc' := 48) (tgt := 74) dX4_howMany_45 (by decide) rfl (by unfold fp_rng; omega) (by unfold fp_rng; omega) (fun h45 => ?_) (fun h45 => ?_)
        · refine S.iload_n (pc' := 75) dX4_howMany_74 rfl rfl rfl ?_
          refine S.iret dX4_howMany_75 rfl ?_
          rfl
        · exfalso; omega
  have hL1 : ∀ (r k : Nat), 7 - k < r → (k = 0 ∨ (k : Int) + 1 ≤ M 133 1) → fp_S l G 3 kX4_howMany 16 [some (rV G 133), some (rV G 18), some (rV G 32), some (iV (fcI k)), some (iV ((k : Int) + 2)), none] [] M (qI fun _ N => M = N) := by
    intro r
    induction r with
    | zero => intro k hr; omega
    | succ r ih =>
      intro k hr hk
      have hf := fcI_in (show k < 7 by omega)
      refine S.iload (pc' := 18) dX4_howMany_16 rfl rfl ?_
      refine S.aload_n (pc' := 19) dX4_howMany_18 rfl rfl rfl ?_
      refine S.getI (pc' := 22) dX4_howMany_19 rfl fX4_31 L_133 ?_
      refine S.icmp_gt (pc' := 25) (tgt := 36) dX4_howMany_22 (by decide) rfl (by unfold fp_rng; omega) (by unfold fp_rng; omega) (fun h22 => ?_) (fun h22 => ?_)
      · refine S.iconst (pc' := 37) dX4_howMany_36 rfl ?_
        refine S.istore (pc' := 39) (LL' := [_, _, _, _, _, _]) dX4_howMany_37 rfl (by decide) rfl rfl ?_
        exact hL2 9 _ 0 _ (by omega) (by omega) (by omega) (by omega)
      · refine S.iload_n (pc' := 26) dX4_howMany_25 rfl rfl rfl ?_
        refine S.iload (pc' := 28) dX4_howMany_26 rfl rfl ?_
        refine S.imul (pc' := 29) dX4_howMany_28 rfl ?_
        refine S.istore_n (pc' := 30) (LL' := [_, _, _, _, _, _]) dX4_howMany_29 rfl (by decide) rfl rfl rfl ?_
        refine S.iinc (pc' := 33) (LL' := [_, _, _, _, _, _]) dX4_howMany_30 rfl (by decide) rfl rfl rfl ?_
        refine S.goto (pc' := 16) dX4_howMany_33 (by decide) ?_
        rw [show fcI k * ((k : Int) + 2) = fcI (k + 1) from rfl, show ((k : Int) + 2 + 1) = ((k + 1 : Nat) : Int) + 2 by omega]
        exact ih (k + 1) (by omega) (by omega)
  refine fp_Ok.of (r := 3) rfl (Nat.le_of_ble_eq_true rfl) rfl ?_
  refine S.aload_n (pc' := 1) dX4_howMany_0 rfl rfl rfl ?_
  refine S.aload_n (pc' := 2) dX4_howMany_1 rfl rfl rfl ?_
  refine S.aload_n (pc' := 3) dX4_howMany_2 rfl rfl rfl ?_
  refine S.callVi (pc' := 6) dX4_howMany_3 rfl cX4_67 (wk_X4_canFit h) rfl L_133 (by decide) rfl (Nat.le_of_ble_eq_true rfl) (fun z3 M3 q3 => ?_)
  obtain ⟨z1, rfl⟩ := q3
  refine S.if_ne (pc' := 9) (tgt := 11) dX4_howMany_6 (by decide) rfl (by unfold fp_rng; omega) (fun h6 => ?_) (fun h6 => ?_)
  · refine S.iconst (pc' := 12) dX4_howMany_11 rfl ?_
    refine S.istore_n (pc' := 13) (LL' := [_, _, _, _, _, _]) dX4_howMany_12 rfl (by decide) rfl rfl rfl ?_
    refine S.iconst (pc' := 14) dX4_howMany_13 rfl ?_
    refine S.istore (pc' := 16) (LL' := [_, _, _, _, _, _]) dX4_howMany_14 rfl (by decide) rfl rfl ?_
    exact hL1 8 0 (by omega) (Or.inl rfl)
  · refine S.iconst (pc' := 10) dX4_howMany_9 rfl ?_
    refine S.iret dX4_howMany_10 rfl ?_
    rfl
end COR
end
