/-! RINGS: a round, on both sides alike -/
def rF (g : aGd) (b : Int → Int) (th q : Int) : Int := aLk g b th q 4
abbrev rLv (g : aGd) (b : Int → Int) (th p : Int) : Prop := th.toNat.testBit p.toNat = true ∧ aRgC (rF g b th) p 4 p 0 ≠ 0
def rMk (g : aGd) (b : Int → Int) (th : Int) : Nat → Int
  | 0 => 0
  | n + 1 => if rLv g b th (n : Int) then fp_or (rMk g b th n) (2 ^ n) else rMk g b th n
theorem rMk_succ {g : aGd} {b : Int → Int} {th i : Int} (h : 0 ≤ i) : rMk g b th (i + 1).toNat = if rLv g b th i then fp_or (rMk g b th i.toNat) (2 ^ i.toNat) else rMk g b th i.toNat := by
  have e1 : (i + 1).toNat = i.toNat + 1 := by omega
  rw [e1]
  show (if rLv g b th ((i.toNat : Nat) : Int) then _ else _) = _
  rw [Int.toNat_of_nonneg h]
theorem rMk_nn (g : aGd) (b : Int → Int) (th : Int) : ∀ n, 0 ≤ rMk g b th n
  | 0 => Int.le_refl _
  | n + 1 => by
    unfold rMk
    split
    · exact fp_or_nn _ _
    · exact rMk_nn g b th n
theorem fp_pow2 (n : Nat) : ((2 : Int) ^ n).toNat = 2 ^ n := by
  rw [show (2 : Int) ^ n = ((2 ^ n : Nat) : Int) by norm_cast]
  exact Int.toNat_natCast _
theorem rMk_bit (g : aGd) (b : Int → Int) (th : Int) : ∀ n i, (rMk g b th n).toNat.testBit i = true ↔ i < n ∧ rLv g b th (i : Int)
  | 0, i => by simp [rMk]
  | n + 1, i => by
    have ih := rMk_bit g b th n i
    unfold rMk
    split
    · rename_i h
      unfold fp_or
      rw [Int.toNat_natCast, Nat.testBit_or, fp_pow2, Nat.testBit_two_pow]
      simp only [Bool.or_eq_true, decide_eq_true_eq]
      constructor
      · rintro (q | q)
        · exact ⟨by have := (ih.mp q).1; omega, (ih.mp q).2⟩
        · subst q; exact ⟨by omega, h⟩
      · rintro ⟨q1, q2⟩
        by_cases e : i = n
        · exact Or.inr e.symm
        · exact Or.inl (ih.mpr ⟨by omega, q2⟩)
    · rename_i h
      rw [ih]
      constructor
      · rintro ⟨q1, q2⟩; exact ⟨by omega, q2⟩
      · rintro ⟨q1, q2⟩
        refine ⟨?_, q2⟩
        by_cases e : i = n
        · subst e; exact absurd q2 h
        · omega
theorem rMk_lt (g : aGd) (b : Int → Int) (th : Int) : ∀ n, n ≤ 4 → rMk g b th n < 16
  | 0, _ => by simp [rMk]
  | n + 1, h => by
    have ih := rMk_lt g b th n (by omega)
    unfold rMk
    split
    · have h2 : (2 : Int) ^ n < 16 := by
        rcases (show n = 0 ∨ n = 1 ∨ n = 2 ∨ n = 3 by omega) with rfl | rfl | rfl | rfl <;> decide
      exact fp_or_lt (n := 4) ih h2
    · exact ih
def aOut (th lv : Int) : Int := ((th.toNat &&& (15 ^^^ lv.toNat) : Nat) : Int)
theorem aOut_in {th lv : Int} (h : 0 ≤ th ∧ th < 16) : 0 ≤ aOut th lv ∧ aOut th lv < 16 := by
  refine ⟨Int.natCast_nonneg _, ?_⟩
  unfold aOut
  have : th.toNat &&& (15 ^^^ lv.toNat) ≤ th.toNat := Nat.and_le_left
  omega
theorem aOut_bit {th lv : Int} {q : Nat} (h : (aOut th lv).toNat.testBit q = true) : th.toNat.testBit q = true := by
  unfold aOut at h
  rw [Int.toNat_natCast, Nat.testBit_and, Bool.and_eq_true] at h
  exact h.1
theorem aOut_x {lv : Int} (h : 0 ≤ lv ∧ lv < 16) : Int32.ofInt lv ^^^ Int32.ofInt (-1) = Int32.ofInt (-1 - lv) := by
  obtain ⟨n, rfl⟩ := Int.eq_ofNat_of_zero_le h.1
  have q : ∀ n : Nat, n < 16 → Int32.ofInt (n : Int) ^^^ Int32.ofInt (-1) = Int32.ofInt (-1 - (n : Int)) := by decide +kernel
  exact q n (by omega)
theorem aOut_a {th lv : Int} (h : 0 ≤ th ∧ th < 16) (h2 : 0 ≤ lv ∧ lv < 16) : Int32.ofInt th &&& Int32.ofInt (-1 - lv) = Int32.ofInt (aOut th lv) := by
  obtain ⟨n, rfl⟩ := Int.eq_ofNat_of_zero_le h.1
  obtain ⟨k, rfl⟩ := Int.eq_ofNat_of_zero_le h2.1
  have q : ∀ n : Nat, n < 16 → ∀ k : Nat, k < 16 → Int32.ofInt (n : Int) &&& Int32.ofInt (-1 - (k : Int)) = Int32.ofInt (aOut (n : Int) (k : Int)) := by decide +kernel
  exact q n (by omega) k (by omega)
/-- how many are there -/
def rPc (n : Nat) : Nat := (if n.testBit 0 then 1 else 0) + (if n.testBit 1 then 1 else 0) + (if n.testBit 2 then 1 else 0) + (if n.testBit 3 then 1 else 0)
theorem rPc_le (n : Nat) : rPc n ≤ 4 := by
  unfold rPc
  repeat' split
  all_goals omega
theorem rPc_0 {n : Nat} (h : n < 16) (e : rPc n = 0) : n = 0 := by
  have q : ∀ n : Nat, n < 16 → rPc n = 0 → n = 0 := by decide +kernel
  exact q n h e
theorem rPc_lt {n k : Nat} (h : n < 16) (h2 : k < 16) (h3 : k ≠ 0) (h4 : ∀ i, i < 4 → k.testBit i = true → n.testBit i = true) : rPc (n &&& (15 ^^^ k)) < rPc n := by
  have q : ∀ n : Nat, n < 16 → ∀ k : Nat, k < 16 → k ≠ 0 → (∀ i, i < 4 → k.testBit i = true → n.testBit i = true) → rPc (n &&& (15 ^^^ k)) < rPc n := by decide +kernel
  exact q n h k h2 h3 h4
/-- where one likes at most four, some are in a ring -/
def rTab (a b c d : Fin 4) (q : Int) : Int := if q = 0 then (a.val : Int) else if q = 1 then (b.val : Int) else if q = 2 then (c.val : Int) else (d.val : Int)
theorem rSome : ∀ (n : Fin 16) (a b c d : Fin 4), n ≠ 0 → (∀ i : Fin 4, n.val.testBit i.val = true → n.val.testBit (rTab a b c d (i.val : Int)).toNat = true) → ∃ p : Fin 4, n.val.testBit p.val = true ∧ aRgC (rTab a b c d) (p.val : Int) 4 (p.val : Int) 0 ≠ 0 := by decide +kernel
theorem aRgC_congr {f f' : Int → Int} {p : Int} (h : ∀ q : Int, 0 ≤ q → q < 4 → f q = f' q ∧ 0 ≤ f q ∧ f q < 4) : ∀ (n : Nat) (q m : Int), 0 ≤ q → q < 4 → aRgC f p n q m = aRgC f' p n q m
  | 0, _, _, _, _ => rfl
  | n + 1, q, m, h0, h1 => by
    obtain ⟨e1, e2, e3⟩ := h q h0 h1
    unfold aRgC
    rw [← e1]
    split
    · rfl
    · exact aRgC_congr h n _ _ e2 e3
theorem rMk_some {g : aGd} {b : Int → Int} {th : Int} (h : 0 ≤ th ∧ th < 16) (hne : th ≠ 0) : rMk g b th 4 ≠ 0 := by
  have hf : ∀ q : Int, 0 ≤ rF g b th q ∧ rF g b th q < 4 := fun q => aLk_four h hne
  have hin : ∀ q : Int, th.toNat.testBit (rF g b th q).toNat = true := by
    intro q
    rcases aLk_in (g := g) (b := b) (th := th) (p := q) 4 with e | e
    · have := (hf q).1; unfold rF at this; omega
    · exact e.2.2
  let fx : Int → Fin 4 := fun q => ⟨(rF g b th q).toNat, by have := hf q; omega⟩
  have hx : ∀ q : Int, ((fx q).val : Int) = rF g b th q := fun q => Int.toNat_of_nonneg (hf q).1
  have htab : ∀ q : Int, 0 ≤ q → q < 4 → rTab (fx 0) (fx 1) (fx 2) (fx 3) q = rF g b th q := by
    intro q h0 h1
    unfold rTab
    rcases (show q = 0 ∨ q = 1 ∨ q = 2 ∨ q = 3 by omega) with rfl | rfl | rfl | rfl
    · rw [if_pos rfl]; exact hx 0
    · rw [if_neg (by decide), if_pos rfl]; exact hx 1
    · rw [if_neg (by decide), if_neg (by decide), if_pos rfl]; exact hx 2
    · rw [if_neg (by decide), if_neg (by decide), if_neg (by decide)]; exact hx 3
  obtain ⟨p, hp1, hp2⟩ := rSome ⟨th.toNat, by omega⟩ (fx 0) (fx 1) (fx 2) (fx 3) (fun e => hne (by have := congrArg Fin.val e; simp at this; omega)) (fun i hi => by
    have hi4 := i.isLt
    rw [htab (i.val : Int) (by omega) (by omega)]
    exact hin _)
  have hp4 := p.isLt
  rw [aRgC_congr (f' := rF g b th) (fun q h0 h1 => ⟨htab q h0 h1, by rw [htab q h0 h1]; exact hf q⟩) 4 _ _ (by omega) (by omega)] at hp2
  intro e
  have hb := (rMk_bit g b th 4 p.val).mpr ⟨hp4, by rw [Int.toNat_natCast]; exact hp1, hp2⟩
  rw [e] at hb
  simp at hb
abbrev rSt : Type := Int × (Int → Int) × (Int → Int)
def rRd (g : aGd) (b : Int → Int) (x : rSt) : rSt := (aOut x.1 (rMk g b x.1 4), fun y => if rLv g b x.1 y then b (rF g b x.1 y) else x.2.1 y, fun y => if rLv g b x.1 y then aRgC (rF g b x.1) y 4 y 0 else x.2.2 y)
def rIt (g : aGd) (b : Int → Int) : Nat → rSt → rSt
  | 0, x => x
  | n + 1, x => rIt g b n (rRd g b x)
theorem rRd_0 {g : aGd} {b : Int → Int} {x : rSt} (h : x.1 = 0) : rRd g b x = x := by
  obtain ⟨th, u, w⟩ := x
  have h : th = 0 := h
  subst h
  have hl : ∀ y, ¬ rLv g b 0 y := fun y q => by have := q.1; simp at this
  unfold rRd
  simp only [Prod.mk.injEq]
  refine ⟨?_, funext fun y => if_neg (hl y), funext fun y => if_neg (hl y)⟩
  have hm : ∀ n, rMk g b 0 n = 0 := by
    intro n
    induction n with
    | zero => rfl
    | succ n ih =>
      unfold rMk
      rw [if_neg (hl _)]
      exact ih
  rw [hm]
  rfl
theorem rIt_0 {g : aGd} {b : Int → Int} {x : rSt} (h : x.1 = 0) : ∀ n, rIt g b n x = x
  | 0 => rfl
  | n + 1 => by
    unfold rIt
    rw [rRd_0 h]
    exact rIt_0 h n
theorem rIt_s (g : aGd) (b : Int → Int) : ∀ n x, rIt g b (n + 1) x = rRd g b (rIt g b n x)
  | 0, _ => rfl
  | n + 1, x => by
    show rIt g b (n + 1) (rRd g b x) = _
    rw [rIt_s g b n (rRd g b x)]
    rfl
theorem rRd_pc {g : aGd} {b : Int → Int} {x : rSt} (h : 0 ≤ x.1 ∧ x.1 < 16) (hne : x.1 ≠ 0) : rPc (rRd g b x).1.toNat < rPc x.1.toNat := by
  show rPc (aOut x.1 (rMk g b x.1 4)).toNat < _
  unfold aOut
  rw [Int.toNat_natCast]
  have h0 := rMk_nn g b x.1 4
  have h1 := rMk_lt g b x.1 4 (Nat.le_refl _)
  have h2 := rMk_some (g := g) (b := b) h hne
  refine rPc_lt (by omega) (by omega) (by omega) (fun i hi q => ?_)
  have := ((rMk_bit g b x.1 4 i).mp q).2.1
  rwa [Int.toNat_natCast] at this
theorem rRd_bOk {g : aGd} {b : Int → Int} {x : rSt} (h : bOk g b x.1) : bOk g b (rRd g b x).1 := ⟨aOut_in h.1, fun q q0 q1 q2 => h.2 q q0 q1 (aOut_bit q2)⟩
theorem fp_find_in4 {f : Int → Int} {t : Int} : ∀ (n : Nat) (i : Int), fp_find f t n i = -4 ∨ (i ≤ fp_find f t n i ∧ fp_find f t n i < i + n)
  | 0, _ => Or.inl rfl
  | n + 1, i => by
    unfold fp_find
    split
    · exact Or.inr ⟨by omega, by omega⟩
    · rcases fp_find_in4 (f := f) (t := t) n (i + 1) with h | h
      · exact Or.inl h
      · exact Or.inr ⟨by omega, by omega⟩
theorem aTh_bit (g : aGd) (pg : aPg) : ∀ n i, (aTh g pg n).toNat.testBit i = true → i < n ∧ aLeast g pg (i : Int) ≠ -4
  | 0, i, h => by simp [aTh] at h
  | n + 1, i, h => by
    unfold aTh at h
    split at h
    · have := aTh_bit g pg n i h
      exact ⟨by omega, this.2⟩
    · rename_i hne
      unfold fp_or at h
      rw [Int.toNat_natCast, Nat.testBit_or, fp_pow2, Nat.testBit_two_pow] at h
      simp only [Bool.or_eq_true, decide_eq_true_eq] at h
      rcases h with q | q
      · have := aTh_bit g pg n i q
        exact ⟨by omega, this.2⟩
      · subst q; exact ⟨by omega, hne⟩
theorem aTh_lt (g : aGd) (pg : aPg) : ∀ n, n ≤ 4 → aTh g pg n < 16
  | 0, _ => by simp [aTh]
  | n + 1, h => by
    have ih := aTh_lt g pg n (by omega)
    unfold aTh
    split
    · exact ih
    · have h2 : (2 : Int) ^ n < 16 := by
        rcases (show n = 0 ∨ n = 1 ∨ n = 2 ∨ n = 3 by omega) with rfl | rfl | rfl | rfl <;> decide
      exact fp_or_lt (n := 4) ih h2
theorem aTh_bOk {g : aGd} {pg : aPg} (hg : gOk g) : bOk g (aLeast g pg) (aTh g pg 4) := by
  refine ⟨⟨aTh_nn g pg 4, aTh_lt g pg 4 (Nat.le_refl _)⟩, fun q q0 q1 q2 => ?_⟩
  have h := (aTh_bit g pg 4 q.toNat q2).2
  rw [Int.toNat_of_nonneg q0] at h
  have hg1 := hg.1
  rcases fp_find_in4 (f := pg.1) (t := q) g.1.toNat 0 with e | e
  · exact absurd e h
  · unfold aLeast
    omega
def r0x (g : aGd) (pg : aPg) : rSt := (aTh g pg 4, fun _ => -4, fun _ => -4)
def aRing (g : aGd) (pg : aPg) (p : Int) : Int := if 0 ≤ p ∧ p < 4 then (rIt g (aLeast g pg) 4 (r0x g pg)).2.1 p else -1
def aWith (g : aGd) (pg : aPg) (p : Int) : Int := if 0 ≤ p ∧ p < 4 then (rIt g (aLeast g pg) 4 (r0x g pg)).2.2 p else -1
