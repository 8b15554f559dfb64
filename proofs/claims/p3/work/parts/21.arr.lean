/-! Arrays.fill; searches and sums -/
/-- the first of i, i + 1 .. (n of them) at which f is t -/
def fp_find (f : Int → Int) (t : Int) : Nat → Int → Int
  | 0, _ => -4
  | n + 1, i => if f i = t then i else fp_find f t n (i + 1)
def fp_sum (f : Int → Int) : Nat → Int
  | 0 => 0
  | n + 1 => fp_sum f n + f n
/-- bits of those whose w is p -/
def fp_hb (w : Int → Int) (p : Int) : Nat → Int
  | 0 => 0
  | n + 1 => if w n = p then fp_or (fp_hb w p n) (2 ^ n) else fp_hb w p n
theorem fp_hb_lt (w : Int → Int) (p : Int) : ∀ n : Nat, 0 ≤ fp_hb w p n ∧ fp_hb w p n < 2 ^ n
  | 0 => by unfold fp_hb; decide
  | n + 1 => by
    have h := fp_hb_lt w p n
    have h2 : (2 : Int) ^ (n + 1) = 2 * 2 ^ n := by rw [Int.pow_succ]; omega
    have h3 : (0 : Int) < 2 ^ n := Int.pow_pos (by decide)
    unfold fp_hb
    split
    · exact ⟨fp_or_nn _ _, fp_or_lt (by omega) (by omega)⟩
    · omega
theorem fp_hb_succ {w : Int → Int} {p i : Int} (h : 0 ≤ i) : fp_hb w p (i + 1).toNat = if w i = p then fp_or (fp_hb w p i.toNat) (2 ^ i.toNat) else fp_hb w p i.toNat := by
  have e1 : (i + 1).toNat = i.toNat + 1 := by omega
  rw [e1]
  show (if w ((i.toNat : Nat) : Int) = p then _ else _) = _
  rw [Int.toNat_of_nonneg h]
theorem fp_sum_succ {f : Int → Int} {i : Int} (h : 0 ≤ i) : fp_sum f (i + 1).toNat = fp_sum f i.toNat + f i := by
  have e1 : (i + 1).toNat = i.toNat + 1 := by omega
  rw [e1]
  show fp_sum f i.toNat + f ((i.toNat : Nat) : Int) = _
  rw [Int.toNat_of_nonneg h]
theorem fp_pow_le {i : Int} {n : Nat} (h : i.toNat ≤ n) : (1 : Int) ≤ 2 ^ i.toNat ∧ (2 : Int) ^ i.toNat ≤ 2 ^ n := by
  have h1 : (0 : Int) < 2 ^ i.toNat := Int.pow_pos (by decide)
  refine ⟨by omega, ?_⟩
  have h2 := Nat.pow_le_pow_right (n := 2) (by decide) h
  exact_mod_cast h2
theorem fp_up_same (M : fp_Mem) (k i : Nat) (f : Nat → Int) (z : Int) : fp_up (fp_upM M k f) k i z = fp_upM M k (fp_upf f i z) := by
  unfold fp_up
  rw [fp_upM_at, fp_upM_upM]
theorem fp_up_at (M : fp_Mem) (k i : Nat) (z : Int) : fp_up M k i z k = fp_upf (M k) i z := fp_upM_at _ _ _
theorem fp_up_ne {M : fp_Mem} {a k i : Nat} {z : Int} (h : a ≠ k) : fp_up M k i z a = M a := fp_upM_ne h
section ARR
variable {l : Launch} {G : fp_WG} {M : fp_Mem}
theorem fill_loop {a len : Nat} {v : Int} (ha : fp_lay a = (1, len)) (hp : 0 < len) (hv : len ≤ 1000) : ∀ (n : Nat) (i : Int) (N : fp_Mem), ((len : Int) - i).toNat < n → 0 ≤ i → i ≤ len → N = fp_upM M a (fun j => if (j : Int) < i then v else M a j) →
    fp_S l G 0 kJ7_fill_53178 5 [some (rV G a), some (iV v), some (iV i), some (iV (len : Int))] [] N (qW (fp_upM M a (fun j => if (j : Int) < len then v else M a j))) := by
  intro n
  induction n with
  | zero => intro i N h; omega
  | succ n ih =>
    intro i N h h0 h1 hN
    refine S.iload_n dJ7_fill_53178_5 rfl rfl rfl ?_
    refine S.iload_n dJ7_fill_53178_6 rfl rfl rfl ?_
    refine S.icmp_ge (tgt := 20) dJ7_fill_53178_7 (by decide) rfl (by unfold fp_rng; omega) (by unfold fp_rng; omega) (fun h7 => ?_) (fun h7 => ?_)
    · refine S.vret dJ7_fill_53178_20 rfl ?_
      show N = _
      rw [hN, show i = (len : Int) by omega]
    · refine S.aload_n dJ7_fill_53178_10 rfl rfl rfl ?_
      refine S.iload_n dJ7_fill_53178_11 rfl rfl rfl ?_
      refine S.iload_n dJ7_fill_53178_12 rfl rfl rfl ?_
      refine S.iast dJ7_fill_53178_13 rfl ha (by omega) (by omega) ?_
      refine S.iinc (LL' := [_, _, _, _]) dJ7_fill_53178_14 rfl (by decide) rfl rfl rfl ?_
      refine S.goto (pc' := 5) dJ7_fill_53178_17 (by decide) ?_
      refine ih _ _ (by omega) (by omega) (by omega) ?_
      rw [hN, fp_up_same]
      refine congrArg (fp_upM M a) (funext fun j => ?_)
      unfold fp_upf
      by_cases hj : j = i.toNat
      · rw [if_pos hj, if_pos (by omega)]
      · rw [if_neg hj]
        dsimp only
        by_cases hj2 : (j : Int) < i
        · rw [if_pos hj2, if_pos (by omega)]
        · rw [if_neg hj2, if_neg (by omega)]
theorem ok_J7_fill_53178 {a len : Nat} {v : Int} (ha : fp_lay a = (1, len)) (hp : 0 < len := by decide) (hv : len ≤ 1000 := by decide) : fp_Ok l G 0 kJ7_fill_53178 [rV G a, iV v] M (qW (fp_upM M a (fun j => if (j : Int) < len then v else M a j))) := by
  refine fp_Ok.of (r := 2) rfl (Nat.le_of_ble_eq_true rfl) rfl ?_
  refine S.iconst dJ7_fill_53178_0 rfl ?_
  refine S.istore_n (LL' := [_, _, _, _]) dJ7_fill_53178_1 rfl (by decide) rfl rfl rfl ?_
  refine S.aload_n dJ7_fill_53178_2 rfl rfl rfl ?_
  refine S.alen dJ7_fill_53178_3 rfl ha (by decide) rfl (by first | assumption | decide) ?_
  refine S.istore_n (LL' := [_, _, _, _]) dJ7_fill_53178_4 rfl (by decide) rfl rfl rfl ?_
  refine fill_loop ha hp hv (len + 1) 0 M (by omega) (by omega) (by omega) ?_
  rw [show (fun j : Nat => if (j : Int) < 0 then v else M a j) = M a from funext fun j => by rw [if_neg (by omega)], fp_upM_self]
end ARR
