/-! TOKENS of a text, both sides alike -/
def aBy (tp : List Int) (i : Int) : Int := tp.getD i.toNat 0
def aTo (P : Int → Bool) (tp : List Int) : Nat → Int → Int
  | 0, i => i
  | r + 1, i => if P (aBy tp i) = true then aTo P tp r (i + 1) else i
def aEnd (P : Int → Bool) (tp : List Int) (i : Int) : Int := aTo P tp ((tp.length : Int) - i).toNat i
def isSp (b : Int) : Bool := decide (b = 32)
def isLe (b : Int) : Bool := decide (97 ≤ b ∧ b ≤ 122)
def isFi (b : Int) : Bool := decide (48 ≤ b ∧ b ≤ 57)
theorem aEnd_step {P : Int → Bool} {tp : List Int} {i : Int} (h : i < (tp.length : Int)) : aEnd P tp i = if P (aBy tp i) = true then aEnd P tp (i + 1) else i := by
  unfold aEnd
  rw [show ((tp.length : Int) - i).toNat = ((tp.length : Int) - (i + 1)).toNat + 1 by omega]
  rfl
theorem aEnd_out {P : Int → Bool} {tp : List Int} {i : Int} (h : (tp.length : Int) ≤ i) : aEnd P tp i = i := by
  unfold aEnd
  rw [show ((tp.length : Int) - i).toNat = 0 by omega]
  rfl
theorem aTo_le {P : Int → Bool} {tp : List Int} : ∀ (r : Nat) (i : Int), i ≤ aTo P tp r i ∧ aTo P tp r i ≤ i + r
  | 0, i => by unfold aTo; omega
  | r + 1, i => by
    unfold aTo
    split
    · have := aTo_le (P := P) (tp := tp) r (i + 1)
      omega
    · omega
theorem aEnd_le {P : Int → Bool} {tp : List Int} {i : Int} (h : i ≤ (tp.length : Int)) : i ≤ aEnd P tp i ∧ aEnd P tp i ≤ (tp.length : Int) := by
  have := aTo_le (P := P) (tp := tp) ((tp.length : Int) - i).toNat i
  unfold aEnd
  omega
theorem aTo_not {P : Int → Bool} {tp : List Int} : ∀ (r : Nat) (i : Int), aTo P tp r i < i + r → P (aBy tp (aTo P tp r i)) = false
  | 0, i, h => by unfold aTo at h; omega
  | r + 1, i, h => by
    unfold aTo at h ⊢
    by_cases hp : P (aBy tp i) = true
    · rw [if_pos hp] at h ⊢
      exact aTo_not r (i + 1) (by omega)
    · rw [if_neg hp]
      simpa using hp
theorem aEnd_not {P : Int → Bool} {tp : List Int} {i : Int} (h0 : i ≤ (tp.length : Int)) (h : aEnd P tp i < (tp.length : Int)) : P (aBy tp (aEnd P tp i)) = false := by
  unfold aEnd at *
  exact aTo_not _ _ (by omega)
theorem aEnd_lt {P : Int → Bool} {tp : List Int} {i : Int} (h : i < (tp.length : Int)) (hp : P (aBy tp i) = true) : i < aEnd P tp i := by
  rw [aEnd_step h, if_pos hp]
  have := (aEnd_le (P := P) (tp := tp) (i := i + 1) (by omega)).1
  omega
/-- the TOKEN that begins at h: its kind, where the next may begin, whether it is one; a NUMBER's value -/
def tkS (tp : List Int) (s : Int) : Int := aEnd isSp tp s
def tkK (tp : List Int) (h : Int) : Int := if (tp.length : Int) ≤ h then 0 else if isLe (aBy tp h) = true then 1 else if isFi (aBy tp h) = true then 2 else 3
def tkE (tp : List Int) (h : Int) : Int := if (tp.length : Int) ≤ h then h else if isLe (aBy tp h) = true then aEnd isLe tp h else if isFi (aBy tp h) = true then aEnd isFi tp h else h + 1
abbrev tkOk (tp : List Int) (h : Int) : Prop := (tp.length : Int) ≤ h ∨ isLe (aBy tp h) = true ∨ (isFi (aBy tp h) = true ∧ aEnd isFi tp h - h ≤ 2) ∨ (isFi (aBy tp h) = false ∧ aBy tp h = 59)
def aDec (tp : List Int) (h : Int) : Nat → Int
  | 0 => 0
  | k + 1 => aDec tp h k * 10 + aBy tp (h + k) - 48
def tkV (tp : List Int) (h : Int) : Int := aDec tp h (tkE tp h - h).toNat
theorem tkS_le {tp : List Int} {s : Int} (h : s ≤ (tp.length : Int)) : s ≤ tkS tp s ∧ tkS tp s ≤ (tp.length : Int) := aEnd_le h
theorem tkE_le {tp : List Int} {h : Int} (hh : h ≤ (tp.length : Int)) : h ≤ tkE tp h ∧ tkE tp h ≤ (tp.length : Int) ∧ (h < (tp.length : Int) → h < tkE tp h) := by
  unfold tkE
  split
  · exact ⟨by omega, hh, fun q => by omega⟩
  · rename_i hn
    split
    · rename_i hl
      have := aEnd_le (P := isLe) (tp := tp) hh
      exact ⟨this.1, this.2, fun q => aEnd_lt q hl⟩
    · split
      · rename_i hf
        have := aEnd_le (P := isFi) (tp := tp) hh
        exact ⟨this.1, this.2, fun q => aEnd_lt q hf⟩
      · omega
/-- the tape: bytes -/
def tpOk (tp : List Int) : Prop := tp.length ≤ 480 ∧ ∀ i : Int, 0 ≤ i → i < (tp.length : Int) → 0 ≤ aBy tp i ∧ aBy tp i < 256
theorem by_bm {b : Int} (h : 0 ≤ b ∧ b < 256) : b.bmod 256 = if b < 128 then b else b - 256 := by
  obtain ⟨n, rfl⟩ := Int.eq_ofNat_of_zero_le h.1
  have q : ∀ n : Nat, n < 256 → (n : Int).bmod 256 = if (n : Int) < 128 then (n : Int) else (n : Int) - 256 := by decide +kernel
  exact q n (by omega)
theorem fp_up_up (M : fp_Mem) (k j : Nat) (a b : Int) : fp_up (fp_up M k j a) k j b = fp_up M k j b := by
  funext x y
  simp only [fp_up, fp_upM, fp_upf]
  by_cases hx : x = k
  · subst hx
    by_cases hy : y = j
    · simp [hy, fp_upf]
    · simp [hy, fp_upf]
  · simp [hx]
theorem fp_up_self (M : fp_Mem) (k j : Nat) : fp_up M k j (M k j) = M := by
  funext x y
  simp only [fp_up, fp_upM, fp_upf]
  by_cases hx : x = k
  · subst hx
    by_cases hy : y = j
    · simp [hy, fp_upf]
    · simp [hy, fp_upf]
  · simp [hx]
