/-! ANY LINE OF A TEXT: what it may be, and that what is told stays as it can be -/
def pRow (tp : List Int) (h : Int) (D : pD) : Int ⊕ (Int × pD) := if nmW tp h 0 = true then pThing tp h (tkE tp h) D else if nmW tp h 1 = true then pLine tp h (tkE tp h) D else if nmW tp h 2 = true then pVisit tp h (tkE tp h) 1 D else if nmW tp h 3 = true then pVisit tp h (tkE tp h) 0 D else if nmW tp h 4 = true then pChance tp h (tkE tp h) D else .inl h
theorem nxt_in {tp : List Int} {s : Int} (h : s ≤ (tp.length : Int)) : s ≤ nxt tp s ∧ nxt tp s ≤ (tp.length : Int) := nxt_le h
theorem pFin_in {tp : List Int} {s : Int} {D : pD} {q : Int × pD} (h : s ≤ (tp.length : Int)) (e : pFin tp s D = .inr q) : q.2 = D ∧ s ≤ q.1 ∧ q.1 ≤ (tp.length : Int) := by
  unfold pFin at e
  split at e
  · cases e
  · cases e
    exact ⟨rfl, nxt_in h⟩
theorem pChance_ok {tp : List Int} {st s : Int} {D : pD} {q : Int × pD} (hs : s ≤ (tp.length : Int)) (hD : dOk D) (e : pChance tp st s D = .inr q) : dOk q.2 ∧ s ≤ q.1 ∧ q.1 ≤ (tp.length : Int) := by
  unfold pChance at e
  split at e
  · cases e
  · split at e
    · cases e
    · rename_i h1
      have h1 : nmOk tp s 0 10 := Classical.byContradiction h1
      split at e
      · cases e
      · cases e
        have n1 := nxt_in hs
        have n2 := nxt_in n1.2
        obtain ⟨g, d⟩ := hD
        obtain ⟨g1, g2, g3, g4⟩ := g
        exact ⟨⟨⟨g1, g2, h1.2.2, g4⟩, d.1, d.2.1, d.2.2.1, d.2.2.2.1, Or.inr rfl, d.2.2.2.2.2⟩, by show s ≤ nxt tp (nxt tp s); omega, n2.2⟩
theorem pAdd_ok {D : pD} {v : aVt} (hD : dOk D) (hl : ¬ 12 ≤ D.2.2.2.2.2.length) (hv : vtOk v) : dOk (pAdd D v) := by
  obtain ⟨d1, d2, d3, d4, d5, d6, d7, d8⟩ := hD
  refine ⟨d1, d2, d3, d4, d5, d6, ?_, fun u hu => ?_⟩
  · show (D.2.2.2.2.2 ++ [v]).length ≤ 12
    simp; omega
  · rcases List.mem_append.mp hu with q | q
    · exact d8 u q
    · simp only [List.mem_singleton] at q
      subst q; exact hv
theorem pVisit_ok {tp : List Int} {st s put : Int} {D : pD} {q : Int × pD} (hs : s ≤ (tp.length : Int)) (hD : dOk D) (e : pVisit tp st s put D = .inr q) : dOk q.2 ∧ s ≤ q.1 ∧ q.1 ≤ (tp.length : Int) := by
  have n1 := nxt_in hs
  have n2 := nxt_in n1.2
  have n3 := nxt_in n2.2
  have n4 := nxt_in n3.2
  have hla := aLast_in2 hD.2.2.2.2.2.2.2
  unfold pVisit at e
  by_cases c0 : 12 ≤ D.2.2.2.2.2.length
  · rw [if_pos c0] at e; cases e
  rw [if_neg c0] at e
  by_cases c1 : nmOk tp s (aLast D.2.2.2.2.2) 99
  rotate_left
  · rw [if_pos c1] at e; cases e
  rw [if_neg (fun x => x c1)] at e
  by_cases c2 : nmOk tp (nxt tp s) 0 3
  rotate_left
  · rw [if_pos c2] at e; cases e
  rw [if_neg (fun x => x c2)] at e
  by_cases c3 : nmOk tp (nxt tp (nxt tp s)) 0 2
  rotate_left
  · rw [if_pos c3] at e; cases e
  rw [if_neg (fun x => x c3)] at e
  have b1 : 0 ≤ num tp s ∧ num tp s ≤ 99 := ⟨by have := c1.2.2.1; unfold num; omega, c1.2.2.2⟩
  have b2 : 0 ≤ num tp (nxt tp s) ∧ num tp (nxt tp s) < 4 := ⟨c2.2.2.1, by have := c2.2.2.2; unfold num; omega⟩
  have b3 : 0 ≤ num tp (nxt tp (nxt tp s)) ∧ num tp (nxt tp (nxt tp s)) < 3 := ⟨c3.2.2.1, by have := c3.2.2.2; unfold num; omega⟩
  by_cases hp : put = 0
  · rw [if_pos hp] at e
    obtain ⟨e1, e2, e3⟩ := pFin_in n3.2 e
    rw [e1]
    exact ⟨pAdd_ok hD c0 ⟨b1, b2, b3, Or.inl rfl⟩, by omega, e3⟩
  · rw [if_neg hp] at e
    by_cases c4 : nmOk tp (nxt tp (nxt tp (nxt tp s))) 0 9
    rotate_left
    · rw [if_pos c4] at e; cases e
    rw [if_neg (fun x => x c4)] at e
    obtain ⟨e1, e2, e3⟩ := pFin_in n4.2 e
    rw [e1]
    exact ⟨pAdd_ok hD c0 ⟨b1, b2, b3, Or.inr ⟨c4.2.2.1, by have := c4.2.2.2; show num tp _ < 10; unfold num; omega⟩⟩, by omega, e3⟩
theorem itN_s {tp : List Int} : ∀ (p : Nat) (s : Int), itN tp (p + 1) s = itN tp p (nxt tp s)
  | 0, s => rfl
  | p + 1, s => by
    show nxt tp (itN tp (p + 1) s) = nxt tp (itN tp p (nxt tp s))
    rw [itN_s p s]
theorem pVl_in {tp : List Int} : ∀ (k : Nat) (s : Int) (p : Nat), pVl tp k s = none → p < k → nmOk tp (itN tp p s) 0 20
  | 0, s, p, h, hp => by omega
  | k + 1, s, p, h, hp => by
    unfold pVl at h
    by_cases c : nmOk tp s 0 20
    · rw [if_pos c] at h
      rcases p with _ | p
      · exact c
      · have := pVl_in k (nxt tp s) p h (by omega)
        rw [itN_s]
        exact this
    · rw [if_neg c] at h; cases h
theorem pThing_ok {tp : List Int} {st s : Int} {D : pD} {q : Int × pD} (hs : s ≤ (tp.length : Int)) (hD : dOk D) (e : pThing tp st s D = .inr q) : dOk q.2 ∧ s ≤ q.1 ∧ q.1 ≤ (tp.length : Int) := by
  have n1 := nxt_in hs
  have n2 := nxt_in n1.2
  have n4 := itN_le n2.2 4
  unfold pThing at e
  by_cases c0 : 10 ≤ D.1.1
  · rw [if_pos c0] at e; cases e
  rw [if_neg c0] at e
  by_cases c1 : nmOk tp s 0 3
  rotate_left
  · rw [if_pos c1] at e; cases e
  rw [if_neg (fun x => x c1)] at e
  by_cases c2 : nmOk tp (nxt tp s) 0 9
  rotate_left
  · rw [if_pos c2] at e; cases e
  rw [if_neg (fun x => x c2)] at e
  cases hv : pVl tp 4 (nxt tp (nxt tp s)) with
  | some h => rw [hv] at e; cases e
  | none =>
    rw [hv] at e
    obtain ⟨e1, e2, e3⟩ := pFin_in n4.2 e
    rw [e1]
    refine ⟨?_, by omega, e3⟩
    obtain ⟨⟨g1, g2, g3, g4, g5, g6⟩, d2, d3, d4, d5, d6, d7, d8⟩ := hD
    refine ⟨⟨?_, g2, g3, fun t t0 t1 => ?_, fun t p t0 t1 p0 p1 => ?_, g6⟩, fun t t0 t1 => ?_, d3, d4, d5, d6, d7, d8⟩
    · show 0 ≤ D.1.1 + 1 ∧ D.1.1 + 1 ≤ 10
      omega
    · have t1' : t < D.1.1 + 1 := t1
      show 0 ≤ (if t = D.1.1 then num tp (nxt tp s) else D.1.2.2.2.1 t) ∧ (if t = D.1.1 then num tp (nxt tp s) else D.1.2.2.2.1 t) ≤ 9
      split
      · exact c2.2.2
      · exact g4 t t0 (by omega)
    · have t1' : t < D.1.1 + 1 := t1
      show 0 ≤ (if t = D.1.1 then num tp (itN tp p.toNat (nxt tp (nxt tp s))) else D.1.2.2.2.2.1 t p) ∧ (if t = D.1.1 then num tp (itN tp p.toNat (nxt tp (nxt tp s))) else D.1.2.2.2.2.1 t p) ≤ 20
      split
      · exact (pVl_in 4 _ p.toNat hv (by omega)).2.2
      · exact g5 t p t0 (by omega) p0 p1
    · have t1' : t < D.1.1 + 1 := t1
      show 0 ≤ (if t = D.1.1 then num tp s else D.2.1 t) ∧ (if t = D.1.1 then num tp s else D.2.1 t) ≤ 3
      split
      · exact c1.2.2
      · exact d2 t t0 (by omega)
