/-! odds: the answer is a long (p27 alone) -/
theorem A_odds_lng {g : aGd} {pg : aPg} {vs : List aVt} {nt : List Int} {im : aIm} {sh : aSh} {x t b z : Int} (e : z = A_odds g pg vs x t b) (o : OK g pg vs nt im sh) : fp_lng z := by
  subst e
  obtain ⟨hg, hP, hv, -⟩ := o
  unfold A_odds fp_lng
  split
  · split
    · omega
    · rename_i h10
      have hl : vs.length ≤ 10 := by omega
      have c := chF_in (x := x) hg hP hv hl t (2 ^ vs.length)
      have q2 : ∀ n : Nat, n < 11 → ((2 ^ n : Nat) : Int) ≤ 1024 := by decide +kernel
      have p2 := q2 vs.length (by omega)
      have q10 : ∀ n : Nat, n < 11 → 0 ≤ (10 : Int) ^ n ∧ (10 : Int) ^ n ≤ 10000000000 := by decide +kernel
      have p10 := q10 vs.length (by omega)
      generalize Nat.gcd (chF g pg vs x (2 ^ vs.length) t).toNat ((10 : Int) ^ vs.length).toNat = D
      generalize chF g pg vs x (2 ^ vs.length) t = A at *
      generalize (10 : Int) ^ vs.length = B at *
      generalize ((2 ^ vs.length : Nat) : Int) = W at *
      have hX : 0 ≤ (if b = 0 then A else B) ∧ (if b = 0 then A else B) ≤ 10240000000000 := by
        split <;> omega
      generalize (if b = 0 then A else B) = X at *
      have a1 : 0 ≤ X / (D : Int) := Int.ediv_nonneg hX.1 (by omega)
      have a2 : X / (D : Int) ≤ X := Int.ediv_le_self (D : Int) hX.1
      generalize X / (D : Int) = Y at *
      omega
  · omega
