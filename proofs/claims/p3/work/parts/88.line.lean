/-! A LINE TOLD IN A TEXT: the class -/
theorem fp_bitg {v i : Int} (hv : 0 ≤ v) : fp_and v (2 ^ i.toNat) = if v.toNat.testBit i.toNat = true then 2 ^ i.toNat else 0 := by
  unfold fp_and
  rw [fp_pow2]
  by_cases h : v.toNat.testBit i.toNat = true
  · rw [if_pos h]
    have : v.toNat &&& 2 ^ i.toNat = 2 ^ i.toNat := by
      apply Nat.eq_of_testBit_eq
      intro j
      rw [Nat.testBit_and, Nat.testBit_two_pow]
      by_cases e : i.toNat = j
      · subst e; simp [h]
      · simp [e]
    rw [this]
    norm_cast
  · rw [if_neg h]
    have : v.toNat &&& 2 ^ i.toNat = 0 := by
      apply Nat.eq_of_testBit_eq
      intro j
      rw [Nat.testBit_and, Nat.testBit_two_pow, Nat.zero_testBit]
      by_cases e : i.toNat = j
      · subst e; simp [h]
      · simp [e]
    rw [this]
    rfl
abbrev itOk (tp : List Int) (h : Int) (L : List Int) (mk : Int) : Prop := tkK tp h = 2 ∧ tkV tp h < 10 ∧ ¬ mk.toNat.testBit (tkV tp h).toNat = true ∧ L.length < 8
def pIt (tp : List Int) : Nat → Int → List Int → Int → Int ⊕ (Int × List Int × Int)
  | 0, s, _, _ => .inl (tkS tp s)
  | k + 1, s, L, m9 => if ¬ tkOk tp (tkS tp s) then .inl (tkS tp s) else if tkK tp (tkS tp s) = 3 then .inr (nxt tp s, L, m9) else if itOk tp (tkS tp s) L m9 then pIt tp k (nxt tp s) (L ++ [num tp s]) (fp_or m9 (2 ^ (num tp s).toNat)) else .inl (tkS tp s)
def pLn (D : pD) (kd : Int) (L : List Int) (mk : Int) : pD := ((D.1.1, D.1.2.1 + 1, D.1.2.2.1, D.1.2.2.2.1, D.1.2.2.2.2.1, fun x => if x = D.1.2.1 then kd else D.1.2.2.2.2.2 x), D.2.1, fun x => if x = D.1.2.1 then L else D.2.2.1 x, mk, D.2.2.2.2.1, D.2.2.2.2.2)
def pLine (tp : List Int) (st s : Int) (D : pD) : Int ⊕ (Int × pD) := if 3 ≤ D.1.2.1 then .inl st else if ¬ tkOk tp (tkS tp s) then .inl (tkS tp s) else if aKd tp (tkS tp s) = -4 then .inl (tkS tp s) else
  match pIt tp 9 (nxt tp s) [] D.2.2.2.1 with
  | .inl h => .inl h
  | .inr q => .inr (q.1, pLn D (aKd tp (tkS tp s)) q.2.1 q.2.2)
section LIN
variable {l : Launch} {G : fp_WG} {M N : fp_Mem} {tp : List Int} {D : pD} {s st : Int}
theorem rk_X6_takeLying {h x mk : Int} {L : List Int} (hx : 0 ≤ x ∧ x < 3) (h8 : M 2 8 = tkK tp h) (h9 : M 2 9 = h) (h10 : tkK tp h = 2 → M 2 10 = tkV tp h) (hv : tkK tp h = 2 → 0 ≤ tkV tp h ∧ tkV tp h ≤ 99) (h11 : M 2 11 = mk) (hmk : 0 ≤ mk ∧ mk < 1024) (hL : M 10 x.toNat = (L.length : Int)) (hL8 : L.length ≤ 8) : fp_Ok l G 1 kX6_takeLying [rV G 2, iV x] M (qI fun z N => (itOk tp h L mk ∧ z = 1 ∧ N = fp_up (fp_up (fp_up M 2 11 (fp_or mk (2 ^ (tkV tp h).toNat))) 11 (x * 8 + (L.length : Int)).toNat (tkV tp h)) 10 x.toNat ((L.length : Int) + 1)) ∨ (¬ itOk tp h L mk ∧ z = 0 ∧ ∃ w, (1 ≤ w ∧ w ≤ 6) ∧ N = fp_up (fp_up M 2 3 w) 2 4 h)) := by
  refine fp_Ok.of (r := 0) rfl (Nat.le_of_ble_eq_true rfl) rfl ?_
  have hK := tkK_in tp h
  by_cases hk : tkK tp h = 2
  · have e10 := h10 hk
    have hvv := hv hk
    have hb := fp_bitg (v := mk) (i := tkV tp h) hmk.1
    by_cases hv10 : tkV tp h < 10
    · have hp2 : (0 : Int) ≤ 2 ^ (tkV tp h).toNat := Int.le_of_lt (Int.pow_pos (by decide))
      have hp3 : (2 : Int) ^ (tkV tp h).toNat ≤ 512 := by
        have q : ∀ n : Nat, n < 10 → (2 : Int) ^ n ≤ 512 := by decide +kernel
        exact q _ (by omega)
      have hp4 : (0 : Int) < 2 ^ (tkV tp h).toNat := Int.pow_pos (by decide)
      by_cases hbt : mk.toNat.testBit (tkV tp h).toNat = true
      · rw [if_pos hbt] at hb
        refine S.aload_n (pc' := 1) dX6_takeLying_0 rfl rfl rfl ?_
        refine S.getI (pc' := 4) dX6_takeLying_1 rfl fX6_64 L_2 ?_
        rw [h8, hk]
        refine S.iconst (pc' := 5) dX6_takeLying_4 rfl ?_
        refine S.icmp_eq (pc' := 8) (tgt := 18) dX6_takeLying_5 (by decide) rfl (by unfold fp_rng; omega) (by unfold fp_rng; omega) (fun h5 => ?_) (fun h5 => ?_)
        · refine S.aload_n (pc' := 19) dX6_takeLying_18 rfl rfl rfl ?_
          refine S.getI (pc' := 22) dX6_takeLying_19 rfl fX6_86 L_2 ?_
          refine S.bipush (pc' := 24) dX6_takeLying_22 rfl (by decide) ?_
          rw [e10]
          refine S.icmp_lt (pc' := 27) (tgt := 37) dX6_takeLying_24 (by decide) rfl (by unfold fp_rng; omega) (by unfold fp_rng; omega) (fun h24 => ?_) (fun h24 => ?_)
          · refine S.aload_n (pc' := 38) dX6_takeLying_37 rfl rfl rfl ?_
            refine S.getI (pc' := 41) dX6_takeLying_38 rfl fX6_46 L_2 ?_
            rw [h11]
            refine S.iconst (pc' := 42) dX6_takeLying_41 rfl ?_
            refine S.aload_n (pc' := 43) dX6_takeLying_42 rfl rfl rfl ?_
            refine S.getI (pc' := 46) dX6_takeLying_43 rfl fX6_86 L_2 ?_
            rw [e10]
            refine S.ishl (pc' := 47) dX6_takeLying_46 rfl (fp_shl1 (by omega) (by omega)) ?_
            refine S.iand (pc' := 48) dX6_takeLying_47 rfl (show _ = Int32.ofInt (2 ^ (tkV tp h).toNat) by have q := fp_iand hmk.1 hp2; rw [hb] at q; exact q) ?_
            refine S.if_eq (pc' := 51) (tgt := 61) dX6_takeLying_48 (by decide) rfl (by unfold fp_rng; omega) (fun h48 => ?_) (fun h48 => ?_)
            · exfalso; omega
            · refine S.aload_n (pc' := 52) dX6_takeLying_51 rfl rfl rfl ?_
              refine S.iconst (pc' := 53) dX6_takeLying_52 rfl ?_
              refine S.aload_n (pc' := 54) dX6_takeLying_53 rfl rfl rfl ?_
              refine S.getI (pc' := 57) dX6_takeLying_54 rfl fX6_76 L_2 ?_
              rw [h9]
              refine S.callVe (pc' := 60) dX6_takeLying_57 rfl cX6_89 ok_X6_refuse rfl L_2 (by decide) rfl (Nat.le_of_ble_eq_true rfl) ?_
              refine S.zret dX6_takeLying_60 rfl (Or.inl rfl) ?_
              exact Or.inr ⟨fun q => q.2.2.1 hbt, rfl, _, by omega, rfl⟩
          · exfalso; omega
        · exact absurd rfl h5
      · rw [if_neg hbt] at hb
        by_cases hl : L.length < 8
        · refine S.aload_n (pc' := 1) dX6_takeLying_0 rfl rfl rfl ?_
          refine S.getI (pc' := 4) dX6_takeLying_1 rfl fX6_64 L_2 ?_
          rw [h8, hk]
          refine S.iconst (pc' := 5) dX6_takeLying_4 rfl ?_
          refine S.icmp_eq (pc' := 8) (tgt := 18) dX6_takeLying_5 (by decide) rfl (by unfold fp_rng; omega) (by unfold fp_rng; omega) (fun h5 => ?_) (fun h5 => ?_)
          · refine S.aload_n (pc' := 19) dX6_takeLying_18 rfl rfl rfl ?_
            refine S.getI (pc' := 22) dX6_takeLying_19 rfl fX6_86 L_2 ?_
            refine S.bipush (pc' := 24) dX6_takeLying_22 rfl (by decide) ?_
            rw [e10]
            refine S.icmp_lt (pc' := 27) (tgt := 37) dX6_takeLying_24 (by decide) rfl (by unfold fp_rng; omega) (by unfold fp_rng; omega) (fun h24 => ?_) (fun h24 => ?_)
            · refine S.aload_n (pc' := 38) dX6_takeLying_37 rfl rfl rfl ?_
              refine S.getI (pc' := 41) dX6_takeLying_38 rfl fX6_46 L_2 ?_
              rw [h11]
              refine S.iconst (pc' := 42) dX6_takeLying_41 rfl ?_
              refine S.aload_n (pc' := 43) dX6_takeLying_42 rfl rfl rfl ?_
              refine S.getI (pc' := 46) dX6_takeLying_43 rfl fX6_86 L_2 ?_
              rw [e10]
              refine S.ishl (pc' := 47) dX6_takeLying_46 rfl (fp_shl1 (by omega) (by omega)) ?_
              refine S.iand (pc' := 48) dX6_takeLying_47 rfl (show _ = Int32.ofInt 0 by have q := fp_iand hmk.1 hp2; rw [hb] at q; exact q) ?_
              refine S.if_eq (pc' := 51) (tgt := 61) dX6_takeLying_48 (by decide) rfl (by unfold fp_rng; omega) (fun h48 => ?_) (fun h48 => ?_)
              · refine S.aload_n (pc' := 62) dX6_takeLying_61 rfl rfl rfl ?_
                refine S.getR (pc' := 65) dX6_takeLying_62 rfl fX6_21 L_2 rf_2_1 ?_
                refine S.getR (pc' := 68) dX6_takeLying_65 rfl fX6_166 (pl_lay pl7) (pl_r2 pl7) ?_
                refine S.iload_n (pc' := 69) dX6_takeLying_68 rfl rfl rfl ?_
                refine S.iald (pc' := 70) dX6_takeLying_69 rfl (pl_a2 pl7) (by omega) (by omega) ?_
                rw [hL]
                refine S.bipush (pc' := 72) dX6_takeLying_70 rfl (by decide) ?_
                refine S.icmp_lt (pc' := 75) (tgt := 85) dX6_takeLying_72 (by decide) rfl (by unfold fp_rng; omega) (by unfold fp_rng; omega) (fun h72 => ?_) (fun h72 => ?_)
                · refine S.aload_n (pc' := 86) dX6_takeLying_85 rfl rfl rfl ?_
                  refine S.dup (pc' := 87) dX6_takeLying_86 rfl rfl ?_
                  refine S.getI (pc' := 90) dX6_takeLying_87 rfl fX6_46 L_2 ?_
                  rw [h11]
                  refine S.iconst (pc' := 91) dX6_takeLying_90 rfl ?_
                  refine S.aload_n (pc' := 92) dX6_takeLying_91 rfl rfl rfl ?_
                  refine S.getI (pc' := 95) dX6_takeLying_92 rfl fX6_86 L_2 ?_
                  rw [e10]
                  refine S.ishl (pc' := 96) dX6_takeLying_95 rfl (fp_shl1 (by omega) (by omega)) ?_
                  refine S.ior (pc' := 97) dX6_takeLying_96 rfl (fp_ior hmk.1 hp2) ?_
                  refine S.putI (pc' := 100) dX6_takeLying_97 rfl fX6_46 L_2 ?_
                  refine S.aload_n (pc' := 101) dX6_takeLying_100 rfl rfl rfl ?_
                  refine S.getR (pc' := 104) dX6_takeLying_101 rfl fX6_21 L_2 rf_2_1 ?_
                  refine S.getR (pc' := 107) dX6_takeLying_104 rfl fX6_168 (pl_lay pl7) (pl_r3 pl7) ?_
                  refine S.iload_n (pc' := 108) dX6_takeLying_107 rfl rfl rfl ?_
                  refine S.bipush (pc' := 110) dX6_takeLying_108 rfl (by decide) ?_
                  refine S.imul (pc' := 111) dX6_takeLying_110 rfl ?_
                  refine S.aload_n (pc' := 112) dX6_takeLying_111 rfl rfl rfl ?_
                  refine S.getR (pc' := 115) dX6_takeLying_112 rfl fX6_21 L_2 rf_2_1 ?_
                  refine S.getR (pc' := 118) dX6_takeLying_115 rfl fX6_166 (pl_lay pl7) (pl_r2 pl7) ?_
                  refine S.iload_n (pc' := 119) dX6_takeLying_118 rfl rfl rfl ?_
                  refine S.iald (pc' := 120) dX6_takeLying_119 rfl (pl_a2 pl7) (by omega) (by omega) ?_
                  rw [show fp_up M 2 11 (fp_or mk (2 ^ (tkV tp h).toNat)) 10 x.toNat = (L.length : Int) from hL]
                  refine S.iadd (pc' := 121) dX6_takeLying_120 rfl ?_
                  refine S.aload_n (pc' := 122) dX6_takeLying_121 rfl rfl rfl ?_
                  refine S.getI (pc' := 125) dX6_takeLying_122 rfl fX6_86 L_2 ?_
                  rw [show fp_up M 2 11 (fp_or mk (2 ^ (tkV tp h).toNat)) 2 10 = tkV tp h from e10]
                  refine S.iast (pc' := 126) dX6_takeLying_125 rfl (pl_a3 pl7) (by omega) (by omega) ?_
                  refine S.aload_n (pc' := 127) dX6_takeLying_126 rfl rfl rfl ?_
                  refine S.getR (pc' := 130) dX6_takeLying_127 rfl fX6_21 L_2 rf_2_1 ?_
                  refine S.getR (pc' := 133) dX6_takeLying_130 rfl fX6_166 (pl_lay pl7) (pl_r2 pl7) ?_
                  refine S.iload_n (pc' := 134) dX6_takeLying_133 rfl rfl rfl ?_
                  refine S.dup2 (pc' := 135) dX6_takeLying_134 rfl rfl rfl ?_
                  refine S.iald (pc' := 136) dX6_takeLying_135 rfl (pl_a2 pl7) (by omega) (by omega) ?_
                  rw [show fp_up (fp_up M 2 11 (fp_or mk (2 ^ (tkV tp h).toNat))) 11 (x * 8 + (L.length : Int)).toNat (tkV tp h) 10 x.toNat = (L.length : Int) from hL]
                  refine S.iconst (pc' := 137) dX6_takeLying_136 rfl ?_
                  refine S.iadd (pc' := 138) dX6_takeLying_137 rfl ?_
                  refine S.iast (pc' := 139) dX6_takeLying_138 rfl (pl_a2 pl7) (by omega) (by omega) ?_
                  refine S.iconst (pc' := 140) dX6_takeLying_139 rfl ?_
                  refine S.zret dX6_takeLying_140 rfl (by first | exact Or.inl rfl | exact Or.inr rfl | omega) ?_
                  exact Or.inl ⟨⟨hk, hv10, hbt, hl⟩, rfl, rfl⟩
                · exfalso; omega
              · exact absurd rfl h48
            · exfalso; omega
          · exact absurd rfl h5
        · refine S.aload_n (pc' := 1) dX6_takeLying_0 rfl rfl rfl ?_
          refine S.getI (pc' := 4) dX6_takeLying_1 rfl fX6_64 L_2 ?_
          rw [h8, hk]
          refine S.iconst (pc' := 5) dX6_takeLying_4 rfl ?_
          refine S.icmp_eq (pc' := 8) (tgt := 18) dX6_takeLying_5 (by decide) rfl (by unfold fp_rng; omega) (by unfold fp_rng; omega) (fun h5 => ?_) (fun h5 => ?_)
          · refine S.aload_n (pc' := 19) dX6_takeLying_18 rfl rfl rfl ?_
            refine S.getI (pc' := 22) dX6_takeLying_19 rfl fX6_86 L_2 ?_
            refine S.bipush (pc' := 24) dX6_takeLying_22 rfl (by decide) ?_
            rw [e10]
            refine S.icmp_lt (pc' := 27) (tgt := 37) dX6_takeLying_24 (by decide) rfl (by unfold fp_rng; omega) (by unfold fp_rng; omega) (fun h24 => ?_) (fun h24 => ?_)
            · refine S.aload_n (pc' := 38) dX6_takeLying_37 rfl rfl rfl ?_
              refine S.getI (pc' := 41) dX6_takeLying_38 rfl fX6_46 L_2 ?_
              rw [h11]
              refine S.iconst (pc' := 42) dX6_takeLying_41 rfl ?_
              refine S.aload_n (pc' := 43) dX6_takeLying_42 rfl rfl rfl ?_
              refine S.getI (pc' := 46) dX6_takeLying_43 rfl fX6_86 L_2 ?_
              rw [e10]
              refine S.ishl (pc' := 47) dX6_takeLying_46 rfl (fp_shl1 (by omega) (by omega)) ?_
              refine S.iand (pc' := 48) dX6_takeLying_47 rfl (show _ = Int32.ofInt 0 by have q := fp_iand hmk.1 hp2; rw [hb] at q; exact q) ?_
              refine S.if_eq (pc' := 51) (tgt := 61) dX6_takeLying_48 (by decide) rfl (by unfold fp_rng; omega) (fun h48 => ?_) (fun h48 => ?_)
              · refine S.aload_n (pc' := 62) dX6_takeLying_61 rfl rfl rfl ?_
                refine S.getR (pc' := 65) dX6_takeLying_62 rfl fX6_21 L_2 rf_2_1 ?_
                refine S.getR (pc' := 68) dX6_takeLying_65 rfl fX6_166 (pl_lay pl7) (pl_r2 pl7) ?_
                refine S.iload_n (pc' := 69) dX6_takeLying_68 rfl rfl rfl ?_
                refine S.iald (pc' := 70) dX6_takeLying_69 rfl (pl_a2 pl7) (by omega) (by omega) ?_
                rw [hL]
                refine S.bipush (pc' := 72) dX6_takeLying_70 rfl (by decide) ?_
                refine S.icmp_lt (pc' := 75) (tgt := 85) dX6_takeLying_72 (by decide) rfl (by unfold fp_rng; omega) (by unfold fp_rng; omega) (fun h72 => ?_) (fun h72 => ?_)
                · exfalso; omega
                · refine S.aload_n (pc' := 76) dX6_takeLying_75 rfl rfl rfl ?_
                  refine S.iconst (pc' := 77) dX6_takeLying_76 rfl ?_
                  refine S.aload_n (pc' := 78) dX6_takeLying_77 rfl rfl rfl ?_
                  refine S.getI (pc' := 81) dX6_takeLying_78 rfl fX6_76 L_2 ?_
                  rw [h9]
                  refine S.callVe (pc' := 84) dX6_takeLying_81 rfl cX6_89 ok_X6_refuse rfl L_2 (by decide) rfl (Nat.le_of_ble_eq_true rfl) ?_
                  refine S.zret dX6_takeLying_84 rfl (Or.inl rfl) ?_
                  exact Or.inr ⟨fun q => hl q.2.2.2, rfl, _, by omega, rfl⟩
              · exact absurd rfl h48
            · exfalso; omega
          · exact absurd rfl h5
    · refine S.aload_n (pc' := 1) dX6_takeLying_0 rfl rfl rfl ?_
      refine S.getI (pc' := 4) dX6_takeLying_1 rfl fX6_64 L_2 ?_
      rw [h8, hk]
      refine S.iconst (pc' := 5) dX6_takeLying_4 rfl ?_
      refine S.icmp_eq (pc' := 8) (tgt := 18) dX6_takeLying_5 (by decide) rfl (by unfold fp_rng; omega) (by unfold fp_rng; omega) (fun h5 => ?_) (fun h5 => ?_)
      · refine S.aload_n (pc' := 19) dX6_takeLying_18 rfl rfl rfl ?_
        refine S.getI (pc' := 22) dX6_takeLying_19 rfl fX6_86 L_2 ?_
        refine S.bipush (pc' := 24) dX6_takeLying_22 rfl (by decide) ?_
        rw [e10]
        refine S.icmp_lt (pc' := 27) (tgt := 37) dX6_takeLying_24 (by decide) rfl (by unfold fp_rng; omega) (by unfold fp_rng; omega) (fun h24 => ?_) (fun h24 => ?_)
        · exfalso; omega
        · refine S.aload_n (pc' := 28) dX6_takeLying_27 rfl rfl rfl ?_
          refine S.iconst (pc' := 29) dX6_takeLying_28 rfl ?_
          refine S.aload_n (pc' := 30) dX6_takeLying_29 rfl rfl rfl ?_
          refine S.getI (pc' := 33) dX6_takeLying_30 rfl fX6_76 L_2 ?_
          rw [h9]
          refine S.callVe (pc' := 36) dX6_takeLying_33 rfl cX6_89 ok_X6_refuse rfl L_2 (by decide) rfl (Nat.le_of_ble_eq_true rfl) ?_
          refine S.zret dX6_takeLying_36 rfl (Or.inl rfl) ?_
          exact Or.inr ⟨fun q => hv10 q.2.1, rfl, _, by omega, rfl⟩
      · exact absurd rfl h5
  · refine S.aload_n (pc' := 1) dX6_takeLying_0 rfl rfl rfl ?_
    refine S.getI (pc' := 4) dX6_takeLying_1 rfl fX6_64 L_2 ?_
    rw [h8]
    refine S.iconst (pc' := 5) dX6_takeLying_4 rfl ?_
    refine S.icmp_eq (pc' := 8) (tgt := 18) dX6_takeLying_5 (by decide) rfl (by unfold fp_rng; omega) (by unfold fp_rng; omega) (fun h5 => ?_) (fun h5 => ?_)
    · exact absurd h5 hk
    · refine S.aload_n (pc' := 9) dX6_takeLying_8 rfl rfl rfl ?_
      refine S.iconst (pc' := 10) dX6_takeLying_9 rfl ?_
      refine S.aload_n (pc' := 11) dX6_takeLying_10 rfl rfl rfl ?_
      refine S.getI (pc' := 14) dX6_takeLying_11 rfl fX6_76 L_2 ?_
      rw [h9]
      refine S.callVe (pc' := 17) dX6_takeLying_14 rfl cX6_89 ok_X6_refuse rfl L_2 (by decide) rfl (Nat.le_of_ble_eq_true rfl) ?_
      refine S.zret dX6_takeLying_17 rfl (Or.inl rfl) ?_
      exact Or.inr ⟨fun q => hk q.1, rfl, _, by omega, rfl⟩
end LIN
