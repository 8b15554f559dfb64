/-! THE WHOLE STATE, on both sides: tape, fault, goods, page, visits, noted, images, sheets, torn -/
abbrev aIm : Type := Int → Option (aPg × List aVt × List Int)
abbrev aSh : Type := Int → Int × Int × (Int → Int)
def ntIs (M : fp_Mem) (k : Nat) (nt : List Int) : Prop := M k 0 = nt.length ∧ nt.length ≤ 8 ∧ ∀ i : Int, 0 ≤ i → i < nt.length → M (k + 1) i.toNat = nt.getD i.toNat 0
def ntOk (g : aGd) (nt : List Int) : Prop := (∀ t ∈ nt, 0 ≤ t ∧ t < g.1) ∧ nt.Nodup
def imOk (g : aGd) (im : aIm) : Prop := ∀ (k : Int) (x : aPg × List aVt × List Int), im k = some x → pgOk g x.1 ∧ vsOk g x.2.1 ∧ ntOk g x.2.2
def shOk (sh : aSh) : Prop := ∀ k, 0 ≤ k → k < 4 → (sh k).1 = -4 ∨ ((0 ≤ (sh k).1 ∧ (sh k).1 ≤ 2) ∧ (0 ≤ (sh k).2.1 ∧ (sh k).2.1 ≤ 40) ∧ ∀ i, 0 ≤ i → i < 40 → fp_rng ((sh k).2.2 i))
/-- the class: tape (signed bytes), fault, torn -/
def csA (M : fp_Mem) (tp : List Int) (fl tn : Int) : Prop := M 0 1 = tp.length ∧ tp.length ≤ 480 ∧ (∀ i : Int, 0 ≤ i → i < tp.length → (0 ≤ tp.getD i.toNat 0 ∧ tp.getD i.toNat 0 < 256) ∧ M 1 i.toNat = (tp.getD i.toNat 0).bmod 256) ∧ M 2 3 = fl ∧ M 0 13 = tn ∧ (0 ≤ fl ∧ fl ≤ 6) ∧ (0 ≤ tn ∧ tn ≤ 4)
def csI (M : fp_Mem) (g : aGd) (im : aIm) : Prop := ∀ k : Int, 0 ≤ k → k < 2 → (im k = none ∧ M (143 + 13 * k.toNat) 0 = 0) ∨ ∃ x : aPg × List aVt × List Int, im k = some x ∧ M (143 + 13 * k.toNat) 0 = 1 ∧ clIs M (143 + 13 * k.toNat + 1) g x.1 ∧ vsIs M (143 + 13 * k.toNat + 6) x.2.1 ∧ ntIs M (143 + 13 * k.toNat + 11) x.2.2
def csS (M : fp_Mem) (sh : aSh) : Prop := ∀ k : Int, 0 ≤ k → k < 4 → ((sh k).1 = -4 ∧ M (169 + 2 * k.toNat) 1 = -4) ∨ ((sh k).1 ≠ -4 ∧ M (169 + 2 * k.toNat) 0 = (sh k).1 ∧ M (169 + 2 * k.toNat) 1 = (sh k).2.1 ∧ ∀ i : Int, 0 ≤ i → i < 40 → M (169 + 2 * k.toNat + 1) i.toNat = (sh k).2.2 i)
def CS (M : fp_Mem) (tp : List Int) (fl : Int) (g : aGd) (pg : aPg) (vs : List aVt) (nt : List Int) (im : aIm) (sh : aSh) (tn : Int) : Prop := csA M tp fl tn ∧ gdIs M 18 g ∧ clIs M 22 g pg ∧ vsIs M 27 vs ∧ ntIs M 32 nt ∧ csI M g im ∧ csS M sh
/-- the bank can be -/
def OK (g : aGd) (pg : aPg) (vs : List aVt) (nt : List Int) (im : aIm) (sh : aSh) : Prop := gOk g ∧ pgOk g pg ∧ vsOk g vs ∧ ntOk g nt ∧ imOk g im ∧ shOk sh
/-- the reference -/
def mnRow (f : Nat → Int) (nt : List Int) : Prop := f 104 = nt.length ∧ nt.length ≤ 8 ∧ ∀ i : Int, 0 ≤ i → i < nt.length → f (96 + i).toNat = nt.getD i.toNat 0
def mvRow (f : Nat → Int) (vs : List aVt) : Prop := f 95 = vs.length ∧ vs.length ≤ 12 ∧ ∀ i : Int, 0 ≤ i → i < vs.length → f (47 + 4 * i).toNat = (vs.getD i.toNat aV0).1 ∧ f (47 + 4 * i + 1).toNat = (vs.getD i.toNat aV0).2.1 ∧ f (47 + 4 * i + 2).toNat = (vs.getD i.toNat aV0).2.2.1 ∧ f (47 + 4 * i + 3).toNat = (vs.getD i.toNat aV0).2.2.2
def msA (M : fp_Mem) (tp : List Int) (fl tn : Int) : Prop := M 177 19 = tp.length ∧ tp.length ≤ 480 ∧ (∀ i : Int, 0 ≤ i → i < tp.length → (0 ≤ tp.getD i.toNat 0 ∧ tp.getD i.toNat 0 < 256) ∧ M 186 i.toNat = tp.getD i.toNat 0) ∧ M 177 20 = fl ∧ M 177 44 = tn
def msI (M : fp_Mem) (g : aGd) (im : aIm) : Prop := ∀ k : Int, 0 ≤ k → k < 2 → (im k = none ∧ M 199 k.toNat = 0) ∨ ∃ x : aPg × List aVt × List Int, im k = some x ∧ M 199 k.toNat = 1 ∧ mpRow (fun j => M 178 (120 * (k.toNat + 1) + j)) 0 g x.1 ∧ mvRow (fun j => M 178 (120 * (k.toNat + 1) + j)) x.2.1 ∧ mnRow (fun j => M 178 (120 * (k.toNat + 1) + j)) x.2.2
def msS (M : fp_Mem) (sh : aSh) : Prop := ∀ k : Int, 0 ≤ k → k < 4 → M 200 k.toNat = (sh k).1 ∧ ((sh k).1 ≠ -4 → M 201 k.toNat = (sh k).2.1 ∧ ∀ i : Int, 0 ≤ i → i < 40 → M 202 (40 * k + i).toNat = (sh k).2.2 i)
def fp_cutL : List Int := [0, 5, 9, 12, 16, 22, 28, 34, 42]
def fp_letL : List Int := [116, 104, 105, 110, 103, 108, 105, 110, 101, 112, 117, 116, 100, 114, 97, 119, 99, 104, 97, 110, 99, 101, 101, 108, 100, 101, 115, 116, 108, 97, 116, 101, 115, 116, 108, 105, 103, 104, 116, 101, 115, 116]
def msK (M : fp_Mem) : Prop := (∀ i : Nat, i < 9 → M 187 i = fp_cutL.getD i 0) ∧ ∀ i : Nat, i < 42 → M 188 i = fp_letL.getD i 0
def MS (M : fp_Mem) (tp : List Int) (fl : Int) (g : aGd) (pg : aPg) (vs : List aVt) (nt : List Int) (im : aIm) (sh : aSh) (tn : Int) : Prop := msA M tp fl tn ∧ mdIs M g ∧ mpIs M 0 g pg ∧ mvRow (M 178) vs ∧ mnRow (M 178) nt ∧ msI M g im ∧ msS M sh ∧ msK M
/-- only the class's cells differ; only the reference's -/
def frC (M N : fp_Mem) : Prop := ∀ c, (177 ≤ c ∨ (3 ≤ c ∧ c ≤ 16)) → N c = M c
def frD (M N : fp_Mem) : Prop := ∀ c, (c < 177 ∨ (183 ≤ c ∧ c ≤ 185)) → N c = M c
theorem ntIs.kept {M N : fp_Mem} {k : Nat} {nt : List Int} (h : ntIs M k nt) (e : ∀ a, k ≤ a → a ≤ k + 1 → N a = M a) : ntIs N k nt := by
  unfold ntIs at *
  rw [e k (by omega) (by omega), e (k + 1) (by omega) (by omega)]
  exact h
theorem csA.kept {M N : fp_Mem} {tp : List Int} {fl tn : Int} (h : csA M tp fl tn) (e0 : N 0 = M 0) (e1 : N 1 = M 1) (e2 : N 2 3 = M 2 3) : csA N tp fl tn := by
  unfold csA at *
  rw [e0, e1, e2]
  exact h
theorem csI.kept {M N : fp_Mem} {g : aGd} {im : aIm} (h : csI M g im) (e : ∀ a, 143 ≤ a → a ≤ 168 → N a = M a) : csI N g im := by
  intro k k0 k1
  have hk : k.toNat = 0 ∨ k.toNat = 1 := by omega
  rcases h k k0 k1 with ⟨h1, h2⟩ | ⟨x, h1, h2, h3, h4, h5⟩
  · exact Or.inl ⟨h1, by rw [e _ (by omega) (by omega)]; exact h2⟩
  · exact Or.inr ⟨x, h1, by rw [e _ (by omega) (by omega)]; exact h2, h3.kept (fun a h0 h1 => e a (by omega) (by omega)), h4.kept (fun a h0 h1 => e a (by omega) (by omega)), h5.kept (fun a h0 h1 => e a (by omega) (by omega))⟩
theorem csS.kept {M N : fp_Mem} {sh : aSh} (h : csS M sh) (e : ∀ a, 169 ≤ a → a ≤ 176 → N a = M a) : csS N sh := by
  intro k k0 k1
  rw [e (169 + 2 * k.toNat) (by omega) (by omega), e (169 + 2 * k.toNat + 1) (by omega) (by omega)]
  exact h k k0 k1
/-- nothing that the state speaks of differs -/
theorem CS.kept {M N : fp_Mem} {tp : List Int} {fl : Int} {g : aGd} {pg : aPg} {vs : List aVt} {nt : List Int} {im : aIm} {sh : aSh} {tn : Int} (h : CS M tp fl g pg vs nt im sh tn) (e : ∀ a, (a < 3 ∨ (18 ≤ a ∧ a ≤ 33) ∨ (143 ≤ a ∧ a ≤ 176)) → N a = M a) : CS N tp fl g pg vs nt im sh tn := by
  obtain ⟨h1, h2, h3, h4, h5, h6, h7⟩ := h
  exact ⟨h1.kept (e 0 (by omega)) (e 1 (by omega)) (by rw [e 2 (by omega)]), h2.kept (fun a q1 q2 => e a (by omega)), h3.kept (fun a q1 q2 => e a (by omega)), h4.kept (fun a q1 q2 => e a (by omega)), h5.kept (fun a q1 q2 => e a (by omega)), h6.kept (fun a q1 q2 => e a (by omega)), h7.kept (fun a q1 q2 => e a (by omega))⟩
/-- the page alone differs -/
theorem CS.page {M N : fp_Mem} {tp : List Int} {fl : Int} {g : aGd} {pg pg' : aPg} {vs : List aVt} {nt : List Int} {im : aIm} {sh : aSh} {tn : Int} (h : CS M tp fl g pg vs nt im sh tn) (e : frP M N 22) (hc : clIs N 22 g pg') : CS N tp fl g pg' vs nt im sh tn := by
  obtain ⟨h1, h2, h3, h4, h5, h6, h7⟩ := h
  exact ⟨h1.kept (e 0 (by omega)) (e 1 (by omega)) (by rw [e 2 (by omega)]), h2.kept (fun a q1 q2 => e a (by omega)), hc, h4.kept (fun a q1 q2 => e a (by omega)), h5.kept (fun a q1 q2 => e a (by omega)), h6.kept (fun a q1 q2 => e a (by omega)), h7.kept (fun a q1 q2 => e a (by omega))⟩
theorem frP.c {M N : fp_Mem} {k : Nat} (h : frP M N k) (hk : k + 4 < 177) (hk2 : 16 ≤ k := by decide) : frC M N := fun c hc => h c (by omega)
theorem frC.refl (M : fp_Mem) : frC M M := fun _ _ => rfl
theorem frD.refl (M : fp_Mem) : frD M M := fun _ _ => rfl
theorem frC.trans {M N O : fp_Mem} (h1 : frC M N) (h2 : frC N O) : frC M O := fun c hc => (h2 c hc).trans (h1 c hc)
theorem frD.trans {M N O : fp_Mem} (h1 : frD M N) (h2 : frD N O) : frD M O := fun c hc => (h2 c hc).trans (h1 c hc)
theorem frT.d {M N : fp_Mem} (h : frT M N) : frD M N := fun c hc => h.1 c (by omega)
theorem frM.d {M N : fp_Mem} {a : Int} (h : frM M N a) : frD M N := fun c hc => h.1 c (by omega)
theorem mnRow.kept {f h : Nat → Int} {nt : List Int} (hn : mnRow f nt) (e : ∀ j : Nat, 96 ≤ j → j ≤ 104 → h j = f j) : mnRow h nt := by
  obtain ⟨h1, h2, h3⟩ := hn
  refine ⟨by rw [e 104 (by decide) (by decide)]; exact h1, h2, fun i i0 i1 => ?_⟩
  rw [e _ (by omega) (by omega)]
  exact h3 i i0 i1
theorem msI.kept {M N : fp_Mem} {g : aGd} {im : aIm} (h : msI M g im) (e9 : N 199 = M 199) (e : ∀ j : Nat, 120 ≤ j → j < 360 → N 178 j = M 178 j) (hio : imOk g im) (hg : gOk g) : msI N g im := by
  intro k k0 k1
  have hk : k.toNat = 0 ∨ k.toNat = 1 := by omega
  rw [e9]
  rcases h k k0 k1 with ⟨h1, h2⟩ | ⟨x, h1, h2, h3, h4, h5⟩
  · exact Or.inl ⟨h1, h2⟩
  · refine Or.inr ⟨x, h1, h2, ?_, ?_, ?_⟩
    · have hq : ∀ j : Nat, j < 120 → N 178 (120 * (k.toNat + 1) + j) = M 178 (120 * (k.toNat + 1) + j) := fun j hj => e _ (by omega) (by omega)
      have hP := (hio k x h1).1
      have hg1 := hg.1
      obtain ⟨c1, c2, c3⟩ := h3
      refine ⟨fun t t0 t1 => ?_, fun t t0 t1 t2 => ?_, fun y y0 y3 => ?_⟩
      · dsimp only; rw [hq _ (by omega)]; exact c1 t t0 t1
      · dsimp only; rw [hq _ (by omega)]; exact c2 t t0 t1 t2
      · obtain ⟨q1, q2⟩ := c3 y y0 y3
        have hl := (hP.2.1 y y0 y3).1
        dsimp only
        rw [hq _ (by omega)]
        refine ⟨q1, fun i i0 i1 => ?_⟩
        rw [hq _ (by omega)]; exact q2 i i0 i1
    · obtain ⟨c1, c2, c3⟩ := h4
      have hq : ∀ j : Nat, j < 120 → N 178 (120 * (k.toNat + 1) + j) = M 178 (120 * (k.toNat + 1) + j) := fun j hj => e _ (by omega) (by omega)
      refine ⟨by dsimp only; rw [hq _ (by omega)]; exact c1, c2, fun i i0 i1 => ?_⟩
      dsimp only
      rw [hq _ (by omega), hq _ (by omega), hq _ (by omega), hq _ (by omega)]
      exact c3 i i0 i1
    · exact h5.kept (fun j j0 j1 => e _ (by omega) (by omega))
/-- the page of the state alone differs -/
theorem MS.page {M N : fp_Mem} {tp : List Int} {fl : Int} {g : aGd} {pg pg' : aPg} {vs : List aVt} {nt : List Int} {im : aIm} {sh : aSh} {tn : Int} (h : MS M tp fl g pg vs nt im sh tn) (hio : imOk g im) (hg : gOk g) (e : frM M N 0) (hc : mpIs N 0 g pg') : MS N tp fl g pg' vs nt im sh tn := by
  obtain ⟨h1, h2, h3, h4, h5, h6, h7, h8⟩ := h
  refine ⟨?_, h2.kept e.1, hc, ?_, h5.kept (fun j j0 j1 => e.2 j (by omega)), h6.kept (e.1 199 (by decide)) (fun j j0 j1 => e.2 j (by omega)) hio hg, ?_, ?_⟩
  · unfold msA at *; rw [e.1 177 (by decide), e.1 186 (by decide)]; exact h1
  · exact mvIs.kept h4 (fun j j0 j1 => e.2 j (by omega))
  · unfold msS at *; rw [e.1 200 (by decide), e.1 201 (by decide), e.1 202 (by decide)]; exact h7
  · unfold msK at *; rw [e.1 187 (by decide), e.1 188 (by decide)]; exact h8
/-- only the trial's page, or rows that the state does not speak of, differ -/
theorem MS.trial {M N : fp_Mem} {tp : List Int} {fl : Int} {g : aGd} {pg : aPg} {vs : List aVt} {nt : List Int} {im : aIm} {sh : aSh} {tn : Int} (h : MS M tp fl g pg vs nt im sh tn) (ho : OK g pg vs nt im sh) (e : ∀ c, (c = 177 ∨ (179 ≤ c ∧ c ≤ 181) ∨ (186 ≤ c ∧ c ≤ 188) ∨ 199 ≤ c) → N c = M c) (e8 : ∀ j : Nat, j < 360 → N 178 j = M 178 j) : MS N tp fl g pg vs nt im sh tn := by
  obtain ⟨h1, h2, h3, h4, h5, h6, h7, h8⟩ := h
  refine ⟨?_, ?_, h3.kept ho.1 ho.2.1 (by omega) (fun j j0 j1 => e8 j (by omega)), ?_, h5.kept (fun j j0 j1 => e8 j (by omega)), h6.kept (e 199 (by omega)) (fun j j0 j1 => e8 j (by omega)) ho.2.2.2.2.1 ho.1, ?_, ?_⟩
  · unfold msA at *; rw [e 177 (by omega), e 186 (by omega)]; exact h1
  · unfold mdIs md_ok at *; rw [e 177 (by omega), e 179 (by omega), e 180 (by omega), e 181 (by omega)]; exact h2
  · exact mvIs.kept h4 (fun j j0 j1 => e8 j (by omega))
  · unfold msS at *; rw [e 200 (by omega), e 201 (by omega), e 202 (by omega)]; exact h7
  · unfold msK at *; rw [e 187 (by omega), e 188 (by omega)]; exact h8
