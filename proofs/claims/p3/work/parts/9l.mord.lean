/-! orders: the reference's rows: the next one is greater -/
def rOk (f : Nat → Int) (m : Int) : Prop := (∀ k : Nat, (k : Int) < m → 0 ≤ f k ∧ f k ≤ 9) ∧ ∀ u v : Nat, (u : Int) < m → (v : Int) < m → u ≠ v → f u ≠ f v
def rwV (f : Nat → Int) : Nat → Int
  | 0 => 0
  | n + 1 => 10 * rwV f n + f n
theorem rwV_in {f : Nat → Int} : ∀ n : Nat, (∀ k : Nat, k < n → 0 ≤ f k ∧ f k ≤ 9) → 0 ≤ rwV f n ∧ rwV f n < 10 ^ n
  | 0, _ => by show (0 : Int) ≤ 0 ∧ (0 : Int) < 10 ^ 0; decide
  | n + 1, h => by
    have ih := rwV_in n (fun k hk => h k (by omega))
    have := h n (by omega)
    rw [rwV, Int.pow_succ 10 n]
    omega
theorem rwV_congr {f h : Nat → Int} : ∀ n : Nat, (∀ k : Nat, k < n → f k = h k) → rwV f n = rwV h n
  | 0, _ => rfl
  | n + 1, e => by rw [rwV, rwV, rwV_congr n (fun k hk => e k (by omega)), e n (by omega)]
theorem rwV_lt {f h : Nat → Int} {i : Nat} : ∀ n : Nat, i < n → (∀ k : Nat, k < i → f k = h k) → f i < h i → (∀ k : Nat, k < n → 0 ≤ f k ∧ f k ≤ 9) → (∀ k : Nat, k < n → 0 ≤ h k ∧ h k ≤ 9) → rwV f n < rwV h n
  | 0, hi, _, _, _, _ => by omega
  | n + 1, hi, e, hlt, hf, hh => by
    have a1 := hf n (by omega)
    have a2 := hh n (by omega)
    rw [rwV, rwV]
    by_cases q : i = n
    · subst q
      rw [rwV_congr i e]
      omega
    · have ih := rwV_lt n (by omega) e hlt (fun k hk => hf k (by omega)) (fun k hk => hh k (by omega))
      omega
theorem rOk.swap {f : Nat → Int} {m : Int} {a b : Nat} (h : rOk f m) (ha : (a : Int) < m) (hb : (b : Int) < m) : rOk (fp_upf (fp_upf f a (f b)) b (f a)) m := by
  have e : ∀ u, fp_upf (fp_upf f a (f b)) b (f a) u = f (if u = b then a else if u = a then b else u) := by
    intro u
    unfold fp_upf
    by_cases h1 : u = b
    · rw [if_pos h1, if_pos h1]
    · rw [if_neg h1, if_neg h1]
      by_cases h2 : u = a
      · rw [if_pos h2, if_pos h2]
      · rw [if_neg h2, if_neg h2]
  refine ⟨fun k hk => ?_, fun u v hu hv huv => ?_⟩
  · rw [e]; exact h.1 _ (by split; omega; split <;> omega)
  · rw [e, e]
    refine h.2 _ _ (by split; omega; split <;> omega) (by split; omega; split <;> omega) ?_
    split <;> split <;> (try split) <;> (try split) <;> omega
theorem fp_swap_lo {f : Nat → Int} {a b k : Nat} (ha : k ≠ a) (hb : k ≠ b) : fp_upf (fp_upf f a (f b)) b (f a) k = f k := by rw [fp_upf_ne hb, fp_upf_ne ha]
section MOR
variable {l : Launch} {G : fp_WG} {M N : fp_Mem}
def nrP (M N : fp_Mem) (m z : Int) : Prop := (∀ c, c ≠ 194 → N c = M c) ∧ (z = 0 ∨ (z = 1 ∧ rOk (N 194) m ∧ rwV (M 194) m.toNat < rwV (N 194) m.toNat))
theorem nr_rev {m i j : Int} (hm : 0 ≤ m ∧ m ≤ 8) (hi : 0 ≤ i ∧ i < m) (hM : rOk (M 194) m) : ∀ (r : Nat) (h4 a b : Int) (N : fp_Mem), (b - a + 1).toNat < r → i < a → a ≤ m → -1 ≤ b → b < m → (∀ c, c ≠ 194 → N c = M c) → rOk (N 194) m → (∀ k : Nat, (k : Int) < i → N 194 k = M 194 k) → M 194 i.toNat < N 194 i.toNat →
    fp_S l G 0 kX12_nextRow 100 [some (rV G 177), some (iV m), some (iV i), some (iV j), some (iV h4), some (iV a), some (iV b)] [] N (qI fun z N => nrP M N m z) := by
  intro r
  induction r with
  | zero => intro h4 a b N hr; omega
  | succ r ih =>
    intro h4 a b N hr ha ha2 hb0 hb hf hN hlo hlt
    by_cases hab : a < b
    · have hsw := hN.swap (a := a.toNat) (b := b.toNat) (by omega) (by omega)
      refine S.iload (pc' := 102) dX12_nextRow_100 rfl rfl ?_
      refine S.iload (pc' := 104) dX12_nextRow_102 rfl rfl ?_
      refine S.icmp_ge (pc' := 107) (tgt := 148) dX12_nextRow_104 (by decide) rfl (by unfold fp_rng; omega) (by unfold fp_rng; omega) (fun h104 => ?_) (fun h104 => ?_)
      · exfalso; omega
      · refine S.aload_n (pc' := 108) dX12_nextRow_107 rfl rfl rfl ?_
        refine S.getR (pc' := 111) dX12_nextRow_108 rfl fX12_63 L_177 rf_177_35 ?_
        refine S.iload (pc' := 113) dX12_nextRow_111 rfl rfl ?_
        refine S.iald (pc' := 114) dX12_nextRow_113 rfl L_194 (by omega) (by omega) ?_
        refine S.istore (pc' := 116) (LL' := [_, _, _, _, _, _, _]) dX12_nextRow_114 rfl (by decide) rfl rfl ?_
        refine S.aload_n (pc' := 117) dX12_nextRow_116 rfl rfl rfl ?_
        refine S.getR (pc' := 120) dX12_nextRow_117 rfl fX12_63 L_177 rf_177_35 ?_
        refine S.iload (pc' := 122) dX12_nextRow_120 rfl rfl ?_
        refine S.aload_n (pc' := 123) dX12_nextRow_122 rfl rfl rfl ?_
        refine S.getR (pc' := 126) dX12_nextRow_123 rfl fX12_63 L_177 rf_177_35 ?_
        refine S.iload (pc' := 128) dX12_nextRow_126 rfl rfl ?_
        refine S.iald (pc' := 129) dX12_nextRow_128 rfl L_194 (by omega) (by omega) ?_
        refine S.iast (pc' := 130) dX12_nextRow_129 rfl L_194 (by omega) (by omega) ?_
        refine S.aload_n (pc' := 131) dX12_nextRow_130 rfl rfl rfl ?_
        refine S.getR (pc' := 134) dX12_nextRow_131 rfl fX12_63 L_177 rf_177_35 ?_
        refine S.iload (pc' := 136) dX12_nextRow_134 rfl rfl ?_
        refine S.iload (pc' := 138) dX12_nextRow_136 rfl rfl ?_
        refine S.iast (pc' := 139) dX12_nextRow_138 rfl L_194 (by omega) (by omega) ?_
        refine S.iinc (pc' := 142) (LL' := [_, _, _, _, _, _, _]) dX12_nextRow_139 rfl (by decide) rfl rfl rfl ?_
        refine S.iinc (pc' := 145) (LL' := [_, _, _, _, _, _, _]) dX12_nextRow_142 rfl (by decide) rfl rfl rfl ?_
        refine S.goto (pc' := 100) dX12_nextRow_145 (by decide) ?_
        refine ih _ _ _ _ (by omega) (by omega) (by omega) (by omega) (by omega) (fun c hc => by rw [fp_up_ne hc, fp_up_ne hc]; exact hf c hc) (by rw [fp_up_at, fp_up_at]; exact hsw) (fun k hk => by rw [fp_up_at, fp_up_at, fp_swap_lo (by omega) (by omega)]; exact hlo k hk) (by rw [fp_up_at, fp_up_at, fp_swap_lo (by omega) (by omega)]; exact hlt)
    · refine S.iload (pc' := 102) dX12_nextRow_100 rfl rfl ?_
      refine S.iload (pc' := 104) dX12_nextRow_102 rfl rfl ?_
      refine S.icmp_ge (pc' := 107) (tgt := 148) dX12_nextRow_104 (by decide) rfl (by unfold fp_rng; omega) (by unfold fp_rng; omega) (fun h104 => ?_) (fun h104 => ?_)
      · refine S.iconst (pc' := 149) dX12_nextRow_148 rfl ?_
        refine S.zret dX12_nextRow_149 rfl (by first | exact Or.inl rfl | exact Or.inr rfl | omega) ?_
        refine ⟨hf, Or.inr ⟨rfl, hN, ?_⟩⟩
        exact rwV_lt (i := i.toNat) m.toNat (by omega) (fun k hk => (hlo k (by omega)).symm) hlt (fun k hk => hM.1 k (by omega)) (fun k hk => hN.1 k (by omega))
      · exfalso; omega
theorem nr_j {m i : Int} (hm : 0 ≤ m ∧ m ≤ 8) (hi : 0 ≤ i ∧ i + 1 < m) (hM : rOk (M 194) m) (hup : M 194 i.toNat ≤ M 194 (i + 1).toNat) : ∀ (r : Nat) (j : Int), (j - i).toNat < r → i < j → j < m →
    fp_S l G 0 kX12_nextRow 41 [some (rV G 177), some (iV m), some (iV i), some (iV j), none, none, none] [] M (qI fun z N => nrP M N m z) := by
  intro r
  induction r with
  | zero => intro j hr; omega
  | succ r ih =>
    intro j hr hj1 hj2
    have b1 := hM.1 j.toNat (by omega)
    have b2 := hM.1 i.toNat (by omega)
    have hne := hM.2 i.toNat j.toNat (by omega) (by omega) (by omega)
    by_cases hlt : M 194 j.toNat < M 194 i.toNat
    · have hj3 : j ≠ i + 1 := fun e => by rw [e] at hlt; omega
      refine S.aload_n (pc' := 42) dX12_nextRow_41 rfl rfl rfl ?_
      refine S.getR (pc' := 45) dX12_nextRow_42 rfl fX12_63 L_177 rf_177_35 ?_
      refine S.iload_n (pc' := 46) dX12_nextRow_45 rfl rfl rfl ?_
      refine S.iald (pc' := 47) dX12_nextRow_46 rfl L_194 (by omega) (by omega) ?_
      refine S.aload_n (pc' := 48) dX12_nextRow_47 rfl rfl rfl ?_
      refine S.getR (pc' := 51) dX12_nextRow_48 rfl fX12_63 L_177 rf_177_35 ?_
      refine S.iload_n (pc' := 52) dX12_nextRow_51 rfl rfl rfl ?_
      refine S.iald (pc' := 53) dX12_nextRow_52 rfl L_194 (by omega) (by omega) ?_
      refine S.icmp_ge (pc' := 56) (tgt := 62) dX12_nextRow_53 (by decide) rfl (by unfold fp_rng; omega) (by unfold fp_rng; omega) (fun h53 => ?_) (fun h53 => ?_)
      · exfalso; omega
      · refine S.iinc (pc' := 59) (LL' := [_, _, _, _, _, _, _]) dX12_nextRow_56 rfl (by decide) rfl rfl rfl ?_
        refine S.goto (pc' := 41) dX12_nextRow_59 (by decide) ?_
        exact ih _ (by omega) (by omega) (by omega)
    · have hsw := hM.swap (a := i.toNat) (b := j.toNat) (by omega) (by omega)
      refine S.aload_n (pc' := 42) dX12_nextRow_41 rfl rfl rfl ?_
      refine S.getR (pc' := 45) dX12_nextRow_42 rfl fX12_63 L_177 rf_177_35 ?_
      refine S.iload_n (pc' := 46) dX12_nextRow_45 rfl rfl rfl ?_
      refine S.iald (pc' := 47) dX12_nextRow_46 rfl L_194 (by omega) (by omega) ?_
      refine S.aload_n (pc' := 48) dX12_nextRow_47 rfl rfl rfl ?_
      refine S.getR (pc' := 51) dX12_nextRow_48 rfl fX12_63 L_177 rf_177_35 ?_
      refine S.iload_n (pc' := 52) dX12_nextRow_51 rfl rfl rfl ?_
      refine S.iald (pc' := 53) dX12_nextRow_52 rfl L_194 (by omega) (by omega) ?_
      refine S.icmp_ge (pc' := 56) (tgt := 62) dX12_nextRow_53 (by decide) rfl (by unfold fp_rng; omega) (by unfold fp_rng; omega) (fun h53 => ?_) (fun h53 => ?_)
      · refine S.aload_n (pc' := 63) dX12_nextRow_62 rfl rfl rfl ?_
        refine S.getR (pc' := 66) dX12_nextRow_63 rfl fX12_63 L_177 rf_177_35 ?_
        refine S.iload_n (pc' := 67) dX12_nextRow_66 rfl rfl rfl ?_
        refine S.iald (pc' := 68) dX12_nextRow_67 rfl L_194 (by omega) (by omega) ?_
        refine S.istore (pc' := 70) (LL' := [_, _, _, _, _, _, _]) dX12_nextRow_68 rfl (by decide) rfl rfl ?_
        refine S.aload_n (pc' := 71) dX12_nextRow_70 rfl rfl rfl ?_
        refine S.getR (pc' := 74) dX12_nextRow_71 rfl fX12_63 L_177 rf_177_35 ?_
        refine S.iload_n (pc' := 75) dX12_nextRow_74 rfl rfl rfl ?_
        refine S.aload_n (pc' := 76) dX12_nextRow_75 rfl rfl rfl ?_
        refine S.getR (pc' := 79) dX12_nextRow_76 rfl fX12_63 L_177 rf_177_35 ?_
        refine S.iload_n (pc' := 80) dX12_nextRow_79 rfl rfl rfl ?_
        refine S.iald (pc' := 81) dX12_nextRow_80 rfl L_194 (by omega) (by omega) ?_
        refine S.iast (pc' := 82) dX12_nextRow_81 rfl L_194 (by omega) (by omega) ?_
        refine S.aload_n (pc' := 83) dX12_nextRow_82 rfl rfl rfl ?_
        refine S.getR (pc' := 86) dX12_nextRow_83 rfl fX12_63 L_177 rf_177_35 ?_
        refine S.iload_n (pc' := 87) dX12_nextRow_86 rfl rfl rfl ?_
        refine S.iload (pc' := 89) dX12_nextRow_87 rfl rfl ?_
        refine S.iast (pc' := 90) dX12_nextRow_89 rfl L_194 (by omega) (by omega) ?_
        refine S.iload_n (pc' := 91) dX12_nextRow_90 rfl rfl rfl ?_
        refine S.iconst (pc' := 92) dX12_nextRow_91 rfl ?_
        refine S.iadd (pc' := 93) dX12_nextRow_92 rfl ?_
        refine S.istore (pc' := 95) (LL' := [_, _, _, _, _, _, _]) dX12_nextRow_93 rfl (by decide) rfl rfl ?_
        refine S.iload_n (pc' := 96) dX12_nextRow_95 rfl rfl rfl ?_
        refine S.iconst (pc' := 97) dX12_nextRow_96 rfl ?_
        refine S.isub (pc' := 98) dX12_nextRow_97 rfl ?_
        refine S.istore (pc' := 100) (LL' := [_, _, _, _, _, _, _]) dX12_nextRow_98 rfl (by decide) rfl rfl ?_
        refine nr_rev (M := M) hm (by omega) hM _ _ _ _ _ (Nat.lt_succ_self _) (by omega) (by omega) (by omega) (by omega) (fun c hc => by rw [fp_up_ne hc, fp_up_ne hc]) (by rw [fp_up_at, fp_up_at]; exact hsw) (fun k hk => by rw [fp_up_at, fp_up_at, fp_swap_lo (by omega) (by omega)]) (by rw [fp_up_at, fp_up_at, fp_upf_ne (by omega), fp_upf_at]; omega)
      · exfalso; omega
theorem rk_X12_nextRow {m : Int} (hm : 0 ≤ m ∧ m ≤ 8) (hM : rOk (M 194) m) : fp_Ok l G 0 kX12_nextRow [rV G 177, iV m] M (qI fun z N => nrP M N m z) := by
  refine fp_Ok.of (r := 5) rfl (Nat.le_of_ble_eq_true rfl) rfl ?_
  have hL : ∀ (r : Nat) (i : Int), (i + 1).toNat < r → -1 ≤ i → i + 1 < m → fp_S l G 0 kX12_nextRow 4 [some (rV G 177), some (iV m), some (iV i), none, none, none, none] [] M (qI fun z N => nrP M N m z) := by
    intro r
    induction r with
    | zero => intro i hr; omega
    | succ r ih =>
      intro i hr hi0 hi
      by_cases h0 : i < 0
      · refine S.iload_n (pc' := 5) dX12_nextRow_4 rfl rfl rfl ?_
        refine S.if_lt (pc' := 8) (tgt := 31) dX12_nextRow_5 (by decide) rfl (by unfold fp_rng; omega) (fun h5 => ?_) (fun h5 => ?_)
        · refine S.iload_n (pc' := 32) dX12_nextRow_31 rfl rfl rfl ?_
          refine S.if_ge (pc' := 35) (tgt := 37) dX12_nextRow_32 (by decide) rfl (by unfold fp_rng; omega) (fun h32 => ?_) (fun h32 => ?_)
          · exfalso; omega
          · refine S.iconst (pc' := 36) dX12_nextRow_35 rfl ?_
            refine S.zret dX12_nextRow_36 rfl (by first | exact Or.inl rfl | exact Or.inr rfl | omega) ?_
            exact ⟨fun _ _ => rfl, Or.inl rfl⟩
        · exfalso; omega
      · have b1 := hM.1 i.toNat (by omega)
        have b2 := hM.1 (i + 1).toNat (by omega)
        by_cases hup : M 194 i.toNat ≤ M 194 (i + 1).toNat
        · refine S.iload_n (pc' := 5) dX12_nextRow_4 rfl rfl rfl ?_
          refine S.if_lt (pc' := 8) (tgt := 31) dX12_nextRow_5 (by decide) rfl (by unfold fp_rng; omega) (fun h5 => ?_) (fun h5 => ?_)
          · refine S.iload_n (pc' := 32) dX12_nextRow_31 rfl rfl rfl ?_
            refine S.if_ge (pc' := 35) (tgt := 37) dX12_nextRow_32 (by decide) rfl (by unfold fp_rng; omega) (fun h32 => ?_) (fun h32 => ?_)
            · refine S.iload_n (pc' := 38) dX12_nextRow_37 rfl rfl rfl ?_
              refine S.iconst (pc' := 39) dX12_nextRow_38 rfl ?_
              refine S.isub (pc' := 40) dX12_nextRow_39 rfl ?_
              refine S.istore_n (pc' := 41) (LL' := [_, _, _, _, _, _, _]) dX12_nextRow_40 rfl (by decide) rfl rfl rfl ?_
              exact nr_j hm (by omega) hM hup _ _ (Nat.lt_succ_self _) (by omega) (by omega)
            · exfalso; omega
          · refine S.aload_n (pc' := 9) dX12_nextRow_8 rfl rfl rfl ?_
            refine S.getR (pc' := 12) dX12_nextRow_9 rfl fX12_63 L_177 rf_177_35 ?_
            refine S.iload_n (pc' := 13) dX12_nextRow_12 rfl rfl rfl ?_
            refine S.iald (pc' := 14) dX12_nextRow_13 rfl L_194 (by omega) (by omega) ?_
            refine S.aload_n (pc' := 15) dX12_nextRow_14 rfl rfl rfl ?_
            refine S.getR (pc' := 18) dX12_nextRow_15 rfl fX12_63 L_177 rf_177_35 ?_
            refine S.iload_n (pc' := 19) dX12_nextRow_18 rfl rfl rfl ?_
            refine S.iconst (pc' := 20) dX12_nextRow_19 rfl ?_
            refine S.iadd (pc' := 21) dX12_nextRow_20 rfl ?_
            refine S.iald (pc' := 22) dX12_nextRow_21 rfl L_194 (by omega) (by omega) ?_
            refine S.icmp_le (pc' := 25) (tgt := 31) dX12_nextRow_22 (by decide) rfl (by unfold fp_rng; omega) (by unfold fp_rng; omega) (fun h22 => ?_) (fun h22 => ?_)
            · refine S.iload_n (pc' := 32) dX12_nextRow_31 rfl rfl rfl ?_
              refine S.if_ge (pc' := 35) (tgt := 37) dX12_nextRow_32 (by decide) rfl (by unfold fp_rng; omega) (fun h32 => ?_) (fun h32 => ?_)
              · refine S.iload_n (pc' := 38) dX12_nextRow_37 rfl rfl rfl ?_
                refine S.iconst (pc' := 39) dX12_nextRow_38 rfl ?_
                refine S.isub (pc' := 40) dX12_nextRow_39 rfl ?_
                refine S.istore_n (pc' := 41) (LL' := [_, _, _, _, _, _, _]) dX12_nextRow_40 rfl (by decide) rfl rfl rfl ?_
                exact nr_j hm (by omega) hM hup _ _ (Nat.lt_succ_self _) (by omega) (by omega)
              · exfalso; omega
            · exfalso; omega
        · refine S.iload_n (pc' := 5) dX12_nextRow_4 rfl rfl rfl ?_
          refine S.if_lt (pc' := 8) (tgt := 31) dX12_nextRow_5 (by decide) rfl (by unfold fp_rng; omega) (fun h5 => ?_) (fun h5 => ?_)
          · exfalso; omega
          · refine S.aload_n (pc' := 9) dX12_nextRow_8 rfl rfl rfl ?_
            refine S.getR (pc' := 12) dX12_nextRow_9 rfl fX12_63 L_177 rf_177_35 ?_
            refine S.iload_n (pc' := 13) dX12_nextRow_12 rfl rfl rfl ?_
            refine S.iald (pc' := 14) dX12_nextRow_13 rfl L_194 (by omega) (by omega) ?_
            refine S.aload_n (pc' := 15) dX12_nextRow_14 rfl rfl rfl ?_
            refine S.getR (pc' := 18) dX12_nextRow_15 rfl fX12_63 L_177 rf_177_35 ?_
            refine S.iload_n (pc' := 19) dX12_nextRow_18 rfl rfl rfl ?_
            refine S.iconst (pc' := 20) dX12_nextRow_19 rfl ?_
            refine S.iadd (pc' := 21) dX12_nextRow_20 rfl ?_
            refine S.iald (pc' := 22) dX12_nextRow_21 rfl L_194 (by omega) (by omega) ?_
            refine S.icmp_le (pc' := 25) (tgt := 31) dX12_nextRow_22 (by decide) rfl (by unfold fp_rng; omega) (by unfold fp_rng; omega) (fun h22 => ?_) (fun h22 => ?_)
            · exfalso; omega
            · refine S.iinc (pc' := 28) (LL' := [_, _, _, _, _, _, _]) dX12_nextRow_25 rfl (by decide) rfl rfl rfl ?_
              refine S.goto (pc' := 4) dX12_nextRow_28 (by decide) ?_
              exact ih _ (by omega) (by omega) (by omega)
  by_cases hm1 : 1 ≤ m
  · refine S.iload_n (pc' := 1) dX12_nextRow_0 rfl rfl rfl ?_
    refine S.iconst (pc' := 2) dX12_nextRow_1 rfl ?_
    refine S.isub (pc' := 3) dX12_nextRow_2 rfl ?_
    refine S.istore_n (pc' := 4) (LL' := [_, _, _, _, _, _, _]) dX12_nextRow_3 rfl (by decide) rfl rfl rfl ?_
    exact hL _ _ (Nat.lt_succ_self _) (by omega) (by omega)
  · refine S.iload_n (pc' := 1) dX12_nextRow_0 rfl rfl rfl ?_
    refine S.iconst (pc' := 2) dX12_nextRow_1 rfl ?_
    refine S.isub (pc' := 3) dX12_nextRow_2 rfl ?_
    refine S.istore_n (pc' := 4) (LL' := [_, _, _, _, _, _, _]) dX12_nextRow_3 rfl (by decide) rfl rfl rfl ?_
    refine S.iload_n (pc' := 5) dX12_nextRow_4 rfl rfl rfl ?_
    refine S.if_lt (pc' := 8) (tgt := 31) dX12_nextRow_5 (by decide) rfl (by unfold fp_rng; omega) (fun h5 => ?_) (fun h5 => ?_)
    · refine S.iload_n (pc' := 32) dX12_nextRow_31 rfl rfl rfl ?_
      refine S.if_ge (pc' := 35) (tgt := 37) dX12_nextRow_32 (by decide) rfl (by unfold fp_rng; omega) (fun h32 => ?_) (fun h32 => ?_)
      · exfalso; omega
      · refine S.iconst (pc' := 36) dX12_nextRow_35 rfl ?_
        refine S.zret dX12_nextRow_36 rfl (by first | exact Or.inl rfl | exact Or.inr rfl | omega) ?_
        exact ⟨fun _ _ => rfl, Or.inl rfl⟩
    · exfalso; omega
end MOR
