/-! THE WEIGHTS OF ALL ROWS are the whole -/
theorem chI_bits {g : aGd} {pg : aPg} {vs : List aVt} {m m' : Int} : ∀ k : Nat, (∀ i, i < k → m.toNat.testBit i = m'.toNat.testBit i) → chI g pg vs m k = chI g pg vs m' k
  | 0, _ => rfl
  | k + 1, h => by
    have e := chI_bits (g := g) (pg := pg) (vs := vs) (m := m) (m' := m') k (fun i hi => h i (by omega))
    unfold chI
    rw [e, h k (by omega)]
def chS (g : aGd) (pg : aPg) (vs : List aVt) (k : Nat) (a : Nat) : Nat → Int
  | 0 => 0
  | m + 1 => chS g pg vs k a m + (chI g pg vs ((a + m : Nat) : Int) k).1
theorem chS_add {g : aGd} {pg : aPg} {vs : List aVt} {k a : Nat} (p : Nat) : ∀ q, chS g pg vs k a (p + q) = chS g pg vs k a p + chS g pg vs k (a + p) q
  | 0 => by simp [chS]
  | q + 1 => by
    rw [show p + (q + 1) = (p + q) + 1 by omega, chS, chS_add p q, chS, show a + (p + q) = a + p + q by omega]
    omega
theorem chS_one {g : aGd} {pg : aPg} {vs : List aVt} (hg : gOk g) (hP : pgOk g pg) (hv : vsOk g vs) (k a : Nat) (c : Int) (b : Bool) (hc : c = if b = true then g.2.2.1 else 10 - g.2.2.1) : ∀ q, (∀ m, m < q → (a + m).testBit k = b ∧ ∀ i, i < k → (a + m).testBit i = m.testBit i) → chS g pg vs (k + 1) a q = chS g pg vs k 0 q * c
  | 0, _ => by simp [chS]
  | q + 1, h => by
    rw [chS, chS, chS_one hg hP hv k a c b hc q (fun m hm => h m (by omega)), Int.add_mul]
    congr 1
    obtain ⟨h1, h2⟩ := h q (by omega)
    have e : chI g pg vs ((a + q : Nat) : Int) k = chI g pg vs ((0 + q : Nat) : Int) k := chI_bits k (fun i hi => by rw [Int.toNat_natCast, Int.toNat_natCast, h2 i hi, Nat.zero_add])
    have hw := (chI_in (m := ((0 + q : Nat) : Int)) hg hP hv k).1.1
    rw [chI, e, Int.toNat_natCast, h1, hc]
    split
    · rename_i h0
      rw [show (chI g pg vs ((0 + q : Nat) : Int) k).1 = 0 by omega, Int.zero_mul]
    · cases b <;> rfl
theorem chS_all {g : aGd} {pg : aPg} {vs : List aVt} (hg : gOk g) (hP : pgOk g pg) (hv : vsOk g vs) : ∀ k : Nat, chS g pg vs k 0 (2 ^ k) = 10 ^ k
  | 0 => rfl
  | k + 1 => by
    have ih := chS_all hg hP hv k
    rw [show 2 ^ (k + 1) = 2 ^ k + 2 ^ k by omega, chS_add, chS_one hg hP hv k 0 (10 - g.2.2.1) false rfl _ (fun m hm => ⟨by rw [Nat.zero_add]; exact Nat.testBit_lt_two_pow hm, fun i _ => by rw [Nat.zero_add]⟩), chS_one hg hP hv k (0 + 2 ^ k) g.2.2.1 true rfl _ (fun m hm => ⟨by rw [Nat.zero_add, Nat.testBit_two_pow_add_eq, Nat.testBit_lt_two_pow hm]; rfl, fun i hi => by rw [Nat.zero_add]; exact Nat.testBit_two_pow_add_gt hi m⟩), ih, Int.pow_succ]
    rw [← Int.mul_add]
    congr 1
    omega
theorem chF_le {g : aGd} {pg : aPg} {vs : List aVt} {x t : Int} (hg : gOk g) (hP : pgOk g pg) (hv : vsOk g vs) : ∀ m : Nat, chF g pg vs x m t ≤ chS g pg vs vs.length 0 m
  | 0 => by show (0 : Int) ≤ 0; omega
  | m + 1 => by
    have h := chF_le (x := x) (t := t) hg hP hv m
    have hw := (chI_in (m := (m : Int)) hg hP hv vs.length).1.1
    rw [chF, chS, Nat.zero_add]
    split <;> omega
theorem chF_whole {g : aGd} {pg : aPg} {vs : List aVt} {x t : Int} (hg : gOk g) (hP : pgOk g pg) (hv : vsOk g vs) : chF g pg vs x (2 ^ vs.length) t ≤ 10 ^ vs.length := by
  rw [← chS_all hg hP hv vs.length]
  exact chF_le hg hP hv _
