-- joined by tools/merge.py: 87.kind, 88.line, 89.line, 91.line, 92.row, 93.row, 94.text, 95.settle, 96.settle, 97.text
section
/-! NAMES held against words; the kind of a LINE: the class -/
def wdB (tp : List Int) (h e : Int) (w : List Int) : Bool := decide (e - h = (w.length : Int)) && (List.range w.length).all fun i => decide (aBy tp (h + (i : Int)) = w.getD i 0)
theorem wdB_iff {tp : List Int} {h e : Int} {w : List Int} : wdB tp h e w = true ↔ wdIs tp h e w := by
  unfold wdB wdIs
  simp only [Bool.and_eq_true, decide_eq_true_eq, List.all_eq_true, List.mem_range]
  constructor
  · rintro ⟨h1, h2⟩
    refine ⟨h1, fun i i0 i1 => ?_⟩
    have := h2 i.toNat (by omega)
    rwa [Int.toNat_of_nonneg i0] at this
  · rintro ⟨h1, h2⟩
    refine ⟨h1, fun i hi => ?_⟩
    have := h2 (i : Int) (by omega) (by omega)
    rwa [Int.toNat_natCast] at this
def nmW (tp : List Int) (h : Int) (i : Nat) : Bool := decide (tkK tp h = 1) && wdB tp h (tkE tp h) (fp_wd i)
def aKd (tp : List Int) (h : Int) : Int := if nmW tp h 5 = true then 0 else if nmW tp h 6 = true then 1 else if nmW tp h 7 = true then 2 else -4
theorem aKd_in (tp : List Int) (h : Int) : aKd tp h = -4 ∨ (0 ≤ aKd tp h ∧ aKd tp h ≤ 2) := by
  unfold aKd
  repeat' split
  all_goals omega
section KND
variable {l : Launch} {G : fp_WG} {M : fp_Mem} {tp : List Int} {h : Int}
/-- the reader's TOKEN is the one at h -/
def tkAt (tp : List Int) (M : fp_Mem) (h : Int) : Prop := M 2 8 = tkK tp h ∧ M 2 9 = h ∧ M 2 7 = tkE tp h ∧ 0 ≤ h ∧ h ≤ (tp.length : Int)
theorem rk_word {a i : Nat} (hi : i < 8) (ht : tpOk tp) (hm : rdT M tp) (hk : tkAt tp M h) (hs : fp_St G a (fp_wd i)) : fp_Ok l G 4 kX6_isWord [rV G 2, .ref a] M (qE (if nmW tp h i = true then 1 else 0) M) := by
  obtain ⟨k1, k2, k3, k4, k5⟩ := hk
  have hE := tkE_le k5
  have hK := tkK_in tp h
  refine (rk_X6_isWord ht hm (by rw [k1]; unfold fp_rng; omega) k2 k3 k4 hE.1 hE.2.1 hs (fp_wd_ok i hi)).weaken (fun r X q => ?_)
  obtain ⟨z, e, q, rfl⟩ := q
  refine ⟨z, e, ?_, rfl⟩
  have hn : nmW tp h i = true ↔ (M 2 8 = 1 ∧ wdIs tp h (tkE tp h) (fp_wd i)) := by
    unfold nmW
    rw [Bool.and_eq_true, decide_eq_true_eq, wdB_iff, k1]
  rcases q with q | q
  · rw [if_pos (hn.mpr q.2)]; exact q.1
  · rw [if_neg (fun x => q.2 (hn.mp x))]; exact q.1
theorem rk_X6_kindRead (ht : tpOk tp) (hm : rdT M tp) (hk : tkAt tp M h) : fp_Ok l G 5 kX6_kindRead [rV G 2] M (qE (aKd tp h) M) := by
  refine fp_Ok.of (r := 0) rfl (Nat.le_of_ble_eq_true rfl) rfl ?_
  unfold aKd
  refine S.aload_n (pc' := 1) dX6_kindRead_0 rfl rfl rfl ?_
  refine S.ldcW (i := 5) (pc' := 3) dX6_kindRead_1 rfl (by decide) rfl rfl (fun a ha => ?_)
  refine S.callVe (pc' := 6) dX6_kindRead_3 rfl cX6_104 (rk_word (by decide) ht hm hk ha) rfl L_2 (by decide) rfl (Nat.le_of_ble_eq_true rfl) ?_
  refine S.if_eq (tgt := 11) (pc' := 9) dX6_kindRead_6 (by decide) rfl (by split <;> (unfold fp_rng; omega)) (fun q1 => ?_) (fun q1 => ?_)
  · have n1 : ¬ nmW tp h 5 = true := fun x => by rw [if_pos x] at q1; exact absurd q1 (by decide)
    rw [if_neg n1]
    refine S.aload_n (pc' := 12) dX6_kindRead_11 rfl rfl rfl ?_
    refine S.ldcW (i := 6) (pc' := 14) dX6_kindRead_12 rfl (by decide) rfl rfl (fun a2 ha2 => ?_)
    refine S.callVe (pc' := 17) dX6_kindRead_14 rfl cX6_104 (rk_word (by decide) ht hm hk ha2) rfl L_2 (by decide) rfl (Nat.le_of_ble_eq_true rfl) ?_
    refine S.if_eq (tgt := 22) (pc' := 20) dX6_kindRead_17 (by decide) rfl (by split <;> (unfold fp_rng; omega)) (fun q2 => ?_) (fun q2 => ?_)
    · have n2 : ¬ nmW tp h 6 = true := fun x => by rw [if_pos x] at q2; exact absurd q2 (by decide)
      rw [if_neg n2]
      refine S.aload_n (pc' := 23) dX6_kindRead_22 rfl rfl rfl ?_
      refine S.ldcW (i := 7) (pc' := 25) dX6_kindRead_23 rfl (by decide) rfl rfl (fun a3 ha3 => ?_)
      refine S.callVe (pc' := 28) dX6_kindRead_25 rfl cX6_104 (rk_word (by decide) ht hm hk ha3) rfl L_2 (by decide) rfl (Nat.le_of_ble_eq_true rfl) ?_
      refine S.if_eq (tgt := 35) (pc' := 31) dX6_kindRead_28 (by decide) rfl (by split <;> (unfold fp_rng; omega)) (fun q3 => ?_) (fun q3 => ?_)
      · have n3 : ¬ nmW tp h 7 = true := fun x => by rw [if_pos x] at q3; exact absurd q3 (by decide)
        rw [if_neg n3]
        refine S.bipush (pc' := 37) dX6_kindRead_35 rfl rfl ?_
        exact S.iret dX6_kindRead_37 rfl ⟨rfl, rfl⟩
      · have n3 : nmW tp h 7 = true := by
          by_cases x : nmW tp h 7 = true
          · exact x
          · rw [if_neg x] at q3; exact absurd rfl q3
        rw [if_pos n3]
        refine S.iconst (pc' := 32) dX6_kindRead_31 rfl ?_
        refine S.goto (pc' := 37) dX6_kindRead_32 (by decide) ?_
        exact S.iret dX6_kindRead_37 rfl ⟨rfl, rfl⟩
    · have n2 : nmW tp h 6 = true := by
        by_cases x : nmW tp h 6 = true
        · exact x
        · rw [if_neg x] at q2; exact absurd rfl q2
      rw [if_pos n2]
      refine S.iconst (pc' := 21) dX6_kindRead_20 rfl ?_
      exact S.iret dX6_kindRead_21 rfl ⟨rfl, rfl⟩
  · have n1 : nmW tp h 5 = true := by
      by_cases x : nmW tp h 5 = true
      · exact x
      · rw [if_neg x] at q1; exact absurd rfl q1
    rw [if_pos n1]
    refine S.iconst (pc' := 10) dX6_kindRead_9 rfl ?_
    exact S.iret dX6_kindRead_10 rfl ⟨rfl, rfl⟩
end KND
end
section
/-! A LINE TOLD IN A TEXT: the class -/
theorem fp_bitg {v i : Int} (hv : 0 ≤ v) : fp_and v (2 ^ i.toNat) = if v.toNat.testBit i.toNat = true then 2 ^ i.toNat else 0 := by
  unfold fp_and
  rw [fp_pow2]
  by_cases h : v.toNat.testBit i.toNat = true
  · rw [if_pos h]
    have : v.toNat &&& 2 ^ i.toNat = 2 ^ i.toNat := by
      apply Nat.eq_of_testBit_eq
      intro j
      rw [Nat.testBit_and, Nat.testBit_two_pow]
      by_cases e : i.toNat = j
      · subst e; simp [h]
      · simp [e]
    rw [this]
    norm_cast
  · rw [if_neg h]
    have : v.toNat &&& 2 ^ i.toNat = 0 := by
      apply Nat.eq_of_testBit_eq
      intro j
      rw [Nat.testBit_and, Nat.testBit_two_pow, Nat.zero_testBit]
      by_cases e : i.toNat = j
      · subst e; simp [h]
      · simp [e]
    rw [this]
    rfl
abbrev itOk (tp : List Int) (h : Int) (L : List Int) (mk : Int) : Prop := tkK tp h = 2 ∧ tkV tp h < 10 ∧ ¬ mk.toNat.testBit (tkV tp h).toNat = true ∧ L.length < 8
def pIt (tp : List Int) : Nat → Int → List Int → Int → Int ⊕ (Int × List Int × Int)
  | 0, s, _, _ => .inl (tkS tp s)
  | k + 1, s, L, m9 => if ¬ tkOk tp (tkS tp s) then .inl (tkS tp s) else if tkK tp (tkS tp s) = 3 then .inr (nxt tp s, L, m9) else if itOk tp (tkS tp s) L m9 then pIt tp k (nxt tp s) (L ++ [num tp s]) (fp_or m9 (2 ^ (num tp s).toNat)) else .inl (tkS tp s)
def pLn (D : pD) (kd : Int) (L : List Int) (mk : Int) : pD := ((D.1.1, D.1.2.1 + 1, D.1.2.2.1, D.1.2.2.2.1, D.1.2.2.2.2.1, fun x => if x = D.1.2.1 then kd else D.1.2.2.2.2.2 x), D.2.1, fun x => if x = D.1.2.1 then L else D.2.2.1 x, mk, D.2.2.2.2.1, D.2.2.2.2.2)
def pLine (tp : List Int) (st s : Int) (D : pD) : Int ⊕ (Int × pD) := if 3 ≤ D.1.2.1 then .inl st else if ¬ tkOk tp (tkS tp s) then .inl (tkS tp s) else if aKd tp (tkS tp s) = -4 then .inl (tkS tp s) else
  match pIt tp 9 (nxt tp s) [] D.2.2.2.1 with
  | .inl h => .inl h
  | .inr q => .inr (q.1, pLn D (aKd tp (tkS tp s)) q.2.1 q.2.2)
section LIN
variable {l : Launch} {G : fp_WG} {M N : fp_Mem} {tp : List Int} {D : pD} {s st : Int}
theorem rk_X6_takeLying {h x mk : Int} {L : List Int} (hx : 0 ≤ x ∧ x < 3) (h8 : M 2 8 = tkK tp h) (h9 : M 2 9 = h) (h10 : tkK tp h = 2 → M 2 10 = tkV tp h) (hv : tkK tp h = 2 → 0 ≤ tkV tp h ∧ tkV tp h ≤ 99) (h11 : M 2 11 = mk) (hmk : 0 ≤ mk ∧ mk < 1024) (hL : M 10 x.toNat = (L.length : Int)) (hL8 : L.length ≤ 8) : fp_Ok l G 1 kX6_takeLying [rV G 2, iV x] M (qI fun z N => (itOk tp h L mk ∧ z = 1 ∧ N = fp_up (fp_up (fp_up M 2 11 (fp_or mk (2 ^ (tkV tp h).toNat))) 11 (x * 8 + (L.length : Int)).toNat (tkV tp h)) 10 x.toNat ((L.length : Int) + 1)) ∨ (¬ itOk tp h L mk ∧ z = 0 ∧ ∃ w, (1 ≤ w ∧ w ≤ 6) ∧ N = fp_up (fp_up M 2 3 w) 2 4 h)) := by
  refine fp_Ok.of (r := 0) rfl (Nat.le_of_ble_eq_true rfl) rfl ?_
  have hK := tkK_in tp h
  by_cases hk : tkK tp h = 2
  · have e10 := h10 hk
    have hvv := hv hk
    have hb := fp_bitg (v := mk) (i := tkV tp h) hmk.1
    by_cases hv10 : tkV tp h < 10
    · have hp2 : (0 : Int) ≤ 2 ^ (tkV tp h).toNat := Int.le_of_lt (Int.pow_pos (by decide))
      have hp3 : (2 : Int) ^ (tkV tp h).toNat ≤ 512 := by
        have q : ∀ n : Nat, n < 10 → (2 : Int) ^ n ≤ 512 := by decide +kernel
        exact q _ (by omega)
      have hp4 : (0 : Int) < 2 ^ (tkV tp h).toNat := Int.pow_pos (by decide)
      by_cases hbt : mk.toNat.testBit (tkV tp h).toNat = true
      · rw [if_pos hbt] at hb
        refine S.aload_n (pc' := 1) dX6_takeLying_0 rfl rfl rfl ?_
        refine S.getI (pc' := 4) dX6_takeLying_1 rfl fX6_64 L_2 ?_
        rw [h8, hk]
        refine S.iconst (pc' := 5) dX6_takeLying_4 rfl ?_
        refine S.icmp_eq (pc' := 8) (tgt := 18) dX6_takeLying_5 (by decide) rfl (by unfold fp_rng; omega) (by unfold fp_rng; omega) (fun h5 => ?_) (fun h5 => ?_)
        · refine S.aload_n (pc' := 19) dX6_takeLying_18 rfl rfl rfl ?_
          refine S.getI (pc' := 22) dX6_takeLying_19 rfl fX6_86 L_2 ?_
          refine S.bipush (pc' := 24) dX6_takeLying_22 rfl (by decide) ?_
          rw [e10]
          refine S.icmp_lt (pc' := 27) (tgt := 37) dX6_takeLying_24 (by decide) rfl (by unfold fp_rng; omega) (by unfold fp_rng; omega) (fun h24 => ?_) (fun h24 => ?_)
          · refine S.aload_n (pc' := 38) dX6_takeLying_37 rfl rfl rfl ?_
            refine S.getI (pc' := 41) dX6_takeLying_38 rfl fX6_46 L_2 ?_
            rw [h11]
            refine S.iconst (pc' := 42) dX6_takeLying_41 rfl ?_
            refine S.aload_n (pc' := 43) dX6_takeLying_42 rfl rfl rfl ?_
            refine S.getI (pc' := 46) dX6_takeLying_43 rfl fX6_86 L_2 ?_
            rw [e10]
            refine S.ishl (pc' := 47) dX6_takeLying_46 rfl (fp_shl1 (by omega) (by omega)) ?_
            refine S.iand (pc' := 48) dX6_takeLying_47 rfl (show _ = Int32.ofInt (2 ^ (tkV tp h).toNat) by have q := fp_iand hmk.1 hp2; rw [hb] at q; exact q) ?_
            refine S.if_eq (pc' := 51) (tgt := 61) dX6_takeLying_48 (by decide) rfl (by unfold fp_rng; omega) (fun h48 => ?_) (fun h48 => ?_)
            · exfalso; omega
            · refine S.aload_n (pc' := 52) dX6_takeLying_51 rfl rfl rfl ?_
              refine S.iconst (pc' := 53) dX6_takeLying_52 rfl ?_
              refine S.aload_n (pc' := 54) dX6_takeLying_53 rfl rfl rfl ?_
              refine S.getI (pc' := 57) dX6_takeLying_54 rfl fX6_76 L_2 ?_
              rw [h9]
              refine S.callVe (pc' := 60) dX6_takeLying_57 rfl cX6_89 ok_X6_refuse rfl L_2 (by decide) rfl (Nat.le_of_ble_eq_true rfl) ?_
              refine S.zret dX6_takeLying_60 rfl (Or.inl rfl) ?_
              exact Or.inr ⟨fun q => q.2.2.1 hbt, rfl, _, by omega, rfl⟩
          · exfalso; omega
        · exact absurd rfl h5
      · rw [if_neg hbt] at hb
        by_cases hl : L.length < 8
        · refine S.aload_n (pc' := 1) dX6_takeLying_0 rfl rfl rfl ?_
          refine S.getI (pc' := 4) dX6_takeLying_1 rfl fX6_64 L_2 ?_
          rw [h8, hk]
          refine S.iconst (pc' := 5) dX6_takeLying_4 rfl ?_
          refine S.icmp_eq (pc' := 8) (tgt := 18) dX6_takeLying_5 (by decide) rfl (by unfold fp_rng; omega) (by unfold fp_rng; omega) (fun h5 => ?_) (fun h5 => ?_)
          · refine S.aload_n (pc' := 19) dX6_takeLying_18 rfl rfl rfl ?_
            refine S.getI (pc' := 22) dX6_takeLying_19 rfl fX6_86 L_2 ?_
            refine S.bipush (pc' := 24) dX6_takeLying_22 rfl (by decide) ?_
            rw [e10]
            refine S.icmp_lt (pc' := 27) (tgt := 37) dX6_takeLying_24 (by decide) rfl (by unfold fp_rng; omega) (by unfold fp_rng; omega) (fun h24 => ?_) (fun h24 => ?_)
            · refine S.aload_n (pc' := 38) dX6_takeLying_37 rfl rfl rfl ?_
              refine S.getI (pc' := 41) dX6_takeLying_38 rfl fX6_46 L_2 ?_
              rw [h11]
              refine S.iconst (pc' := 42) dX6_takeLying_41 rfl ?_
              refine S.aload_n (pc' := 43) dX6_takeLying_42 rfl rfl rfl ?_
              refine S.getI (pc' := 46) dX6_takeLying_43 rfl fX6_86 L_2 ?_
              rw [e10]
              refine S.ishl (pc' := 47) dX6_takeLying_46 rfl (fp_shl1 (by omega) (by omega)) ?_
              refine S.iand (pc' := 48) dX6_takeLying_47 rfl (show _ = Int32.ofInt 0 by have q := fp_iand hmk.1 hp2; rw [hb] at q; exact q) ?_
              refine S.if_eq (pc' := 51) (tgt := 61) dX6_takeLying_48 (by decide) rfl (by unfold fp_rng; omega) (fun h48 => ?_) (fun h48 => ?_)
              · refine S.aload_n (pc' := 62) dX6_takeLying_61 rfl rfl rfl ?_
                refine S.getR (pc' := 65) dX6_takeLying_62 rfl fX6_21 L_2 rf_2_1 ?_
                refine S.getR (pc' := 68) dX6_takeLying_65 rfl fX6_166 (pl_lay pl7) (pl_r2 pl7) ?_
                refine S.iload_n (pc' := 69) dX6_takeLying_68 rfl rfl rfl ?_
                refine S.iald (pc' := 70) dX6_takeLying_69 rfl (pl_a2 pl7) (by omega) (by omega) ?_
                rw [hL]
                refine S.bipush (pc' := 72) dX6_takeLying_70 rfl (by decide) ?_
                refine S.icmp_lt (pc' := 75) (tgt := 85) dX6_takeLying_72 (by decide) rfl (by unfold fp_rng; omega) (by unfold fp_rng; omega) (fun h72 => ?_) (fun h72 => ?_)
                · refine S.aload_n (pc' := 86) dX6_takeLying_85 rfl rfl rfl ?_
                  refine S.dup (pc' := 87) dX6_takeLying_86 rfl rfl ?_
                  refine S.getI (pc' := 90) dX6_takeLying_87 rfl fX6_46 L_2 ?_
                  rw [h11]
                  refine S.iconst (pc' := 91) dX6_takeLying_90 rfl ?_
                  refine S.aload_n (pc' := 92) dX6_takeLying_91 rfl rfl rfl ?_
                  refine S.getI (pc' := 95) dX6_takeLying_92 rfl fX6_86 L_2 ?_
                  rw [e10]
                  refine S.ishl (pc' := 96) dX6_takeLying_95 rfl (fp_shl1 (by omega) (by omega)) ?_
                  refine S.ior (pc' := 97) dX6_takeLying_96 rfl (fp_ior hmk.1 hp2) ?_
                  refine S.putI (pc' := 100) dX6_takeLying_97 rfl fX6_46 L_2 ?_
                  refine S.aload_n (pc' := 101) dX6_takeLying_100 rfl rfl rfl ?_
                  refine S.getR (pc' := 104) dX6_takeLying_101 rfl fX6_21 L_2 rf_2_1 ?_
                  refine S.getR (pc' := 107) dX6_takeLying_104 rfl fX6_168 (pl_lay pl7) (pl_r3 pl7) ?_
                  refine S.iload_n (pc' := 108) dX6_takeLying_107 rfl rfl rfl ?_
                  refine S.bipush (pc' := 110) dX6_takeLying_108 rfl (by decide) ?_
                  refine S.imul (pc' := 111) dX6_takeLying_110 rfl ?_
                  refine S.aload_n (pc' := 112) dX6_takeLying_111 rfl rfl rfl ?_
                  refine S.getR (pc' := 115) dX6_takeLying_112 rfl fX6_21 L_2 rf_2_1 ?_
                  refine S.getR (pc' := 118) dX6_takeLying_115 rfl fX6_166 (pl_lay pl7) (pl_r2 pl7) ?_
                  refine S.iload_n (pc' := 119) dX6_takeLying_118 rfl rfl rfl ?_
                  refine S.iald (pc' := 120) dX6_takeLying_119 rfl (pl_a2 pl7) (by omega) (by omega) ?_
                  rw [show fp_up M 2 11 (fp_or mk (2 ^ (tkV tp h).toNat)) 10 x.toNat = (L.length : Int) from hL]
                  refine S.iadd (pc' := 121) dX6_takeLying_120 rfl ?_
                  refine S.aload_n (pc' := 122) dX6_takeLying_121 rfl rfl rfl ?_
                  refine S.getI (pc' := 125) dX6_takeLying_122 rfl fX6_86 L_2 ?_
                  rw [show fp_up M 2 11 (fp_or mk (2 ^ (tkV tp h).toNat)) 2 10 = tkV tp h from e10]
                  refine S.iast (pc' := 126) dX6_takeLying_125 rfl (pl_a3 pl7) (by omega) (by omega) ?_
                  refine S.aload_n (pc' := 127) dX6_takeLying_126 rfl rfl rfl ?_
                  refine S.getR (pc' := 130) dX6_takeLying_127 rfl fX6_21 L_2 rf_2_1 ?_
                  refine S.getR (pc' := 133) dX6_takeLying_130 rfl fX6_166 (pl_lay pl7) (pl_r2 pl7) ?_
                  refine S.iload_n (pc' := 134) dX6_takeLying_133 rfl rfl rfl ?_
                  refine S.dup2 (pc' := 135) dX6_takeLying_134 rfl rfl rfl ?_
                  refine S.iald (pc' := 136) dX6_takeLying_135 rfl (pl_a2 pl7) (by omega) (by omega) ?_
                  rw [show fp_up (fp_up M 2 11 (fp_or mk (2 ^ (tkV tp h).toNat))) 11 (x * 8 + (L.length : Int)).toNat (tkV tp h) 10 x.toNat = (L.length : Int) from hL]
                  refine S.iconst (pc' := 137) dX6_takeLying_136 rfl ?_
                  refine S.iadd (pc' := 138) dX6_takeLying_137 rfl ?_
                  refine S.iast (pc' := 139) dX6_takeLying_138 rfl (pl_a2 pl7) (by omega) (by omega) ?_
                  refine S.iconst (pc' := 140) dX6_takeLying_139 rfl ?_
                  refine S.zret dX6_takeLying_140 rfl (by first | exact Or.inl rfl | exact Or.inr rfl | omega) ?_
                  exact Or.inl ⟨⟨hk, hv10, hbt, hl⟩, rfl, rfl⟩
                · exfalso; omega
              · exact absurd rfl h48
            · exfalso; omega
          · exact absurd rfl h5
        · refine S.aload_n (pc' := 1) dX6_takeLying_0 rfl rfl rfl ?_
          refine S.getI (pc' := 4) dX6_takeLying_1 rfl fX6_64 L_2 ?_
          rw [h8, hk]
          refine S.iconst (pc' := 5) dX6_takeLying_4 rfl ?_
          refine S.icmp_eq (pc' := 8) (tgt := 18) dX6_takeLying_5 (by decide) rfl (by unfold fp_rng; omega) (by unfold fp_rng; omega) (fun h5 => ?_) (fun h5 => ?_)
          · refine S.aload_n (pc' := 19) dX6_takeLying_18 rfl rfl rfl ?_
            refine S.getI (pc' := 22) dX6_takeLying_19 rfl fX6_86 L_2 ?_
            refine S.bipush (pc' := 24) dX6_takeLying_22 rfl (by decide) ?_
            rw [e10]
            refine S.icmp_lt (pc' := 27) (tgt := 37) dX6_takeLying_24 (by decide) rfl (by unfold fp_rng; omega) (by unfold fp_rng; omega) (fun h24 => ?_) (fun h24 => ?_)
            · refine S.aload_n (pc' := 38) dX6_takeLying_37 rfl rfl rfl ?_
              refine S.getI (pc' := 41) dX6_takeLying_38 rfl fX6_46 L_2 ?_
              rw [h11]
              refine S.iconst (pc' := 42) dX6_takeLying_41 rfl ?_
              refine S.aload_n (pc' := 43) dX6_takeLying_42 rfl rfl rfl ?_
              refine S.getI (pc' := 46) dX6_takeLying_43 rfl fX6_86 L_2 ?_
              rw [e10]
              refine S.ishl (pc' := 47) dX6_takeLying_46 rfl (fp_shl1 (by omega) (by omega)) ?_
              refine S.iand (pc' := 48) dX6_takeLying_47 rfl (show _ = Int32.ofInt 0 by have q := fp_iand hmk.1 hp2; rw [hb] at q; exact q) ?_
              refine S.if_eq (pc' := 51) (tgt := 61) dX6_takeLying_48 (by decide) rfl (by unfold fp_rng; omega) (fun h48 => ?_) (fun h48 => ?_)
              · refine S.aload_n (pc' := 62) dX6_takeLying_61 rfl rfl rfl ?_
                refine S.getR (pc' := 65) dX6_takeLying_62 rfl fX6_21 L_2 rf_2_1 ?_
                refine S.getR (pc' := 68) dX6_takeLying_65 rfl fX6_166 (pl_lay pl7) (pl_r2 pl7) ?_
                refine S.iload_n (pc' := 69) dX6_takeLying_68 rfl rfl rfl ?_
                refine S.iald (pc' := 70) dX6_takeLying_69 rfl (pl_a2 pl7) (by omega) (by omega) ?_
                rw [hL]
                refine S.bipush (pc' := 72) dX6_takeLying_70 rfl (by decide) ?_
                refine S.icmp_lt (pc' := 75) (tgt := 85) dX6_takeLying_72 (by decide) rfl (by unfold fp_rng; omega) (by unfold fp_rng; omega) (fun h72 => ?_) (fun h72 => ?_)
                · exfalso; omega
                · refine S.aload_n (pc' := 76) dX6_takeLying_75 rfl rfl rfl ?_
                  refine S.iconst (pc' := 77) dX6_takeLying_76 rfl ?_
                  refine S.aload_n (pc' := 78) dX6_takeLying_77 rfl rfl rfl ?_
                  refine S.getI (pc' := 81) dX6_takeLying_78 rfl fX6_76 L_2 ?_
                  rw [h9]
                  refine S.callVe (pc' := 84) dX6_takeLying_81 rfl cX6_89 ok_X6_refuse rfl L_2 (by decide) rfl (Nat.le_of_ble_eq_true rfl) ?_
                  refine S.zret dX6_takeLying_84 rfl (Or.inl rfl) ?_
                  exact Or.inr ⟨fun q => hl q.2.2.2, rfl, _, by omega, rfl⟩
              · exact absurd rfl h48
            · exfalso; omega
          · exact absurd rfl h5
    · refine S.aload_n (pc' := 1) dX6_takeLying_0 rfl rfl rfl ?_
      refine S.getI (pc' := 4) dX6_takeLying_1 rfl fX6_64 L_2 ?_
      rw [h8, hk]
      refine S.iconst (pc' := 5) dX6_takeLying_4 rfl ?_
      refine S.icmp_eq (pc' := 8) (tgt := 18) dX6_takeLying_5 (by decide) rfl (by unfold fp_rng; omega) (by unfold fp_rng; omega) (fun h5 => ?_) (fun h5 => ?_)
      · refine S.aload_n (pc' := 19) dX6_takeLying_18 rfl rfl rfl ?_
        refine S.getI (pc' := 22) dX6_takeLying_19 rfl fX6_86 L_2 ?_
        refine S.bipush (pc' := 24) dX6_takeLying_22 rfl (by decide) ?_
        rw [e10]
        refine S.icmp_lt (pc' := 27) (tgt := 37) dX6_takeLying_24 (by decide) rfl (by unfold fp_rng; omega) (by unfold fp_rng; omega) (fun h24 => ?_) (fun h24 => ?_)
        · exfalso; omega
        · refine S.aload_n (pc' := 28) dX6_takeLying_27 rfl rfl rfl ?_
          refine S.iconst (pc' := 29) dX6_takeLying_28 rfl ?_
          refine S.aload_n (pc' := 30) dX6_takeLying_29 rfl rfl rfl ?_
          refine S.getI (pc' := 33) dX6_takeLying_30 rfl fX6_76 L_2 ?_
          rw [h9]
          refine S.callVe (pc' := 36) dX6_takeLying_33 rfl cX6_89 ok_X6_refuse rfl L_2 (by decide) rfl (Nat.le_of_ble_eq_true rfl) ?_
          refine S.zret dX6_takeLying_36 rfl (Or.inl rfl) ?_
          exact Or.inr ⟨fun q => hv10 q.2.1, rfl, _, by omega, rfl⟩
      · exact absurd rfl h5
  · refine S.aload_n (pc' := 1) dX6_takeLying_0 rfl rfl rfl ?_
    refine S.getI (pc' := 4) dX6_takeLying_1 rfl fX6_64 L_2 ?_
    rw [h8]
    refine S.iconst (pc' := 5) dX6_takeLying_4 rfl ?_
    refine S.icmp_eq (pc' := 8) (tgt := 18) dX6_takeLying_5 (by decide) rfl (by unfold fp_rng; omega) (by unfold fp_rng; omega) (fun h5 => ?_) (fun h5 => ?_)
    · exact absurd h5 hk
    · refine S.aload_n (pc' := 9) dX6_takeLying_8 rfl rfl rfl ?_
      refine S.iconst (pc' := 10) dX6_takeLying_9 rfl ?_
      refine S.aload_n (pc' := 11) dX6_takeLying_10 rfl rfl rfl ?_
      refine S.getI (pc' := 14) dX6_takeLying_11 rfl fX6_76 L_2 ?_
      rw [h9]
      refine S.callVe (pc' := 17) dX6_takeLying_14 rfl cX6_89 ok_X6_refuse rfl L_2 (by decide) rfl (Nat.le_of_ble_eq_true rfl) ?_
      refine S.zret dX6_takeLying_17 rfl (Or.inl rfl) ?_
      exact Or.inr ⟨fun q => hk q.1, rfl, _, by omega, rfl⟩
end LIN
end
section
/-! A LINE TOLD IN A TEXT: the class, THING by THING -/
section LI2
variable {l : Launch} {G : fp_WG} {M N : fp_Mem} {tp : List Int} {D : pD} {s st : Int}
def liI (M N : fp_Mem) (x : Int) (L : List Int) (mk s : Int) : Prop := (∀ a, a ≠ 2 → a ≠ 10 → a ≠ 11 → N a = M a) ∧ (∀ j, j ≠ 7 → j ≠ 8 → j ≠ 9 → j ≠ 10 → j ≠ 3 → j ≠ 4 → j ≠ 11 → N 2 j = M 2 j) ∧ N 2 11 = mk ∧ (0 ≤ mk ∧ mk < 1024) ∧ N 2 7 = s ∧ N 2 3 = 0 ∧ (∀ y : Nat, y ≠ x.toNat → N 10 y = M 10 y) ∧ N 10 x.toNat = (L.length : Int) ∧ (∀ j : Nat, ¬ (x * 8 ≤ (j : Int) ∧ (j : Int) < x * 8 + (L.length : Int)) → N 11 j = M 11 j) ∧ (∀ i : Int, 0 ≤ i → i < (L.length : Int) → N 11 (x * 8 + i).toNat = L.getD i.toNat 0) ∧ L.length ≤ 8 ∧ ∀ v ∈ L, 0 ≤ v ∧ v < 10
theorem liI.T {x mk : Int} {L : List Int} (h : liI M N x L mk s) (hm : rdT M tp) : rdT N tp := ⟨by rw [h.2.1 5 (by decide) (by decide) (by decide) (by decide) (by decide) (by decide) (by decide)]; exact hm.1, by rw [h.2.1 6 (by decide) (by decide) (by decide) (by decide) (by decide) (by decide) (by decide)]; exact hm.2.1, fun i i0 i1 => by rw [h.1 1 (by decide) (by decide) (by decide)]; exact hm.2.2 i i0 i1⟩
theorem liI.I {x mk : Int} {L : List Int} (h : liI M N x L mk s) (hi : rdI M) (hx : 0 ≤ x ∧ x < 3) : rdI N := by
  obtain ⟨a1, a2, a3, a4, a5, a6, a7, a8, a9, a10, a11, a12⟩ := h
  obtain ⟨i1, i2, i3, i4, i5, i6⟩ := hi
  refine ⟨?_, ?_, ?_, ?_, ?_, fun i i0 i1 => ?_⟩
  · rw [a1 4 (by decide) (by decide) (by decide)]; exact i1
  · rw [a1 4 (by decide) (by decide) (by decide)]; exact i2
  · rw [a1 5 (by decide) (by decide) (by decide)]; exact i3
  · rw [a1 5 (by decide) (by decide) (by decide)]; exact i4
  · rw [a1 6 (by decide) (by decide) (by decide)]; exact i5
  · by_cases hc : x * 8 ≤ i ∧ i < x * 8 + (L.length : Int)
    · have e := a10 (i - x * 8) (by omega) (by omega)
      rw [show x * 8 + (i - x * 8) = i by omega] at e
      rw [e]
      have hm : L.getD (i - x * 8).toNat 0 ∈ L := by
        rw [List.getD_eq_getElem?_getD, List.getElem?_eq_getElem (by omega)]
        exact List.getElem_mem _
      have := a12 _ hm
      omega
    · rw [a9 i.toNat (by omega)]; exact i6 i i0 i1
theorem liI.fr {x mk s' : Int} {L : List Int} {O : fp_Mem} (h : liI M N x L mk s) (f : fr2 N O) (h7 : O 2 7 = s') (h3 : O 2 3 = 0) : liI M O x L mk s' := by
  obtain ⟨a1, a2, a3, a4, a5, a6, a7, a8, a9, a10, a11, a12⟩ := h
  refine ⟨fun a q2 q10 q11 => by rw [f.1 a q2]; exact a1 a q2 q10 q11, fun j q7 q8 q9 q10 q3 q4 q11 => by rw [f.2 j q7 q8 q9 q10 q3 q4]; exact a2 j q7 q8 q9 q10 q3 q4 q11, by rw [f.2 11 (by decide) (by decide) (by decide) (by decide) (by decide) (by decide)]; exact a3, a4, h7, h3, ?_, ?_, ?_, ?_, a11, a12⟩
  · rw [f.1 10 (by decide)]; exact a7
  · rw [f.1 10 (by decide)]; exact a8
  · rw [f.1 11 (by decide)]; exact a9
  · rw [f.1 11 (by decide)]; exact a10
theorem liI.add {x mk v : Int} {L : List Int} (h : liI M N x L mk s) (hx : 0 ≤ x ∧ x < 3) (hv : 0 ≤ v ∧ v < 10) (hl : L.length < 8) : liI M (fp_up (fp_up (fp_up N 2 11 (fp_or mk (2 ^ v.toNat))) 11 (x * 8 + (L.length : Int)).toNat v) 10 x.toNat ((L.length : Int) + 1)) x (L ++ [v]) (fp_or mk (2 ^ v.toNat)) s := by
  obtain ⟨a1, a2, a3, a4, a5, a6, a7, a8, a9, a10, a11, a12⟩ := h
  have hp3 : (2 : Int) ^ v.toNat < 1024 := by
    have q : ∀ n : Nat, n < 10 → (2 : Int) ^ n < 1024 := by decide +kernel
    exact q _ (by omega)
  have hlen : ((L ++ [v]).length : Int) = (L.length : Int) + 1 := by simp
  refine ⟨fun a q2 q10 q11 => by rw [fp_up_ne q10, fp_up_ne q11, fp_up_ne q2]; exact a1 a q2 q10 q11, fun j q7 q8 q9 q10 q3 q4 q11 => by rw [fp_up_ne (by decide), fp_up_ne (by decide), fp_up_at, fp_upf_ne q11]; exact a2 j q7 q8 q9 q10 q3 q4 q11, rfl, ⟨fp_or_nn _ _, fp_or_lt (n := 10) a4.2 hp3⟩, a5, a6, fun y hy => ?_, ?_, fun j hj => ?_, fun i i0 i1 => ?_, by simp; omega, fun u hu => ?_⟩
  · rw [fp_up_at, fp_upf_ne hy, fp_up_ne (by decide), fp_up_ne (by decide)]; exact a7 y hy
  · rw [fp_up_at, fp_upf_at, hlen]
  · rw [hlen] at hj
    rw [fp_up_ne (by decide), fp_up_at, fp_upf_ne (by omega), fp_up_ne (by decide)]
    exact a9 j (by omega)
  · rw [hlen] at i1
    rw [fp_up_ne (by decide), fp_up_at]
    by_cases e : i = (L.length : Int)
    · subst e
      rw [fp_upf_at, Int.toNat_natCast, List.getD_eq_getElem?_getD, List.getElem?_append_right (Nat.le_refl _)]
      simp
    · rw [fp_upf_ne (by omega), fp_up_ne (by decide), a10 i i0 (by omega), List.getD_eq_getElem?_getD, List.getD_eq_getElem?_getD, List.getElem?_append_left (by omega)]
  · rcases List.mem_append.mp hu with q | q
    · exact a12 u q
    · simp only [List.mem_singleton] at q
      subst q; exact hv
theorem li_go {x kd a b : Int} {Q : fp_Q} (h : fp_S l G 6 kX6_readLineOfThings 78 [some (rV G 2), some (iV x), some (iV kd), some (iV b)] [] N Q) (e : a = b) : fp_S l G 6 kX6_readLineOfThings 78 [some (rV G 2), some (iV x), some (iV kd), some (iV a)] [] N Q := by
  subst e; exact h
theorem li_loop {R : Int ⊕ (Int × pD)} {M0 : fp_Mem} {x kd : Int} {Dn : List Int → Int → pD} (ht : tpOk tp) (hf : fR M0 M) (hm : rdT M tp) (hi : rdI M) (hx : 0 ≤ x ∧ x < 3) (hDn : ∀ (N : fp_Mem) (L : List Int) (mk s : Int), liI M N x L mk s → rdD N (Dn L mk)) : ∀ (k : Nat) (s : Int) (L : List Int) (mk : Int) (N : fp_Mem), (9 - L.length) = k → 0 ≤ s → s ≤ (tp.length : Int) → liI M N x L mk s → (match pIt tp k s L mk with | .inl h => .inl h | .inr q => .inr (q.1, Dn q.2.1 q.2.2)) = R →
    fp_S l G 6 kX6_readLineOfThings 78 [some (rV G 2), some (iV x), some (iV kd), some (iV (L.length : Int))] [] N (qI fun z O => lnP tp M0 O R z) := by
  intro k
  induction k with
  | zero =>
    intro s L mk N hk s0 s1 hI hR
    have := hI.2.2.2.2.2.2.2.2.2.2.1
    omega
  | succ k ih =>
    intro s L mk N hk s0 s1 hI hR
    have hmN := hI.T hm
    have hIN := hI.I hi hx
    have hL8 := hI.2.2.2.2.2.2.2.2.2.2.1
    have hfN : fR M0 N := hf.trans (fun a ha => hI.1 a (by omega) (by omega) (by omega))
    have hn := nxt_le s1
    have hSl := tkS_le s1
    have hK := tkK_in tp (tkS tp s)
    unfold pIt at hR
    refine S.iload_n (pc' := 79) dX6_readLineOfThings_78 rfl rfl rfl ?_
    refine S.bipush (pc' := 81) dX6_readLineOfThings_79 rfl (by decide) ?_
    refine S.icmp_gt (pc' := 84) (tgt := 119) dX6_readLineOfThings_81 (by decide) rfl (by unfold fp_rng; omega) (by unfold fp_rng; omega) (fun h81 => ?_) (fun h81 => ?_)
    · exfalso; omega
    · refine S.aload_n (pc' := 85) dX6_readLineOfThings_84 rfl rfl rfl ?_
      refine S.callVi (pc' := 88) dX6_readLineOfThings_85 rfl cX6_60 (rk_X6_step ht hmN hI.2.2.2.2.1 s0 s1) rfl L_2 (by decide) rfl (Nat.le_of_ble_eq_true rfl) (fun z85 M85 q85 => ?_)
      obtain ⟨a1, a2, a3, a4, a5⟩ := q85
      have hfr : fr2 N M85 := ⟨a1, a2⟩
      refine S.if_ne (pc' := 91) (tgt := 93) dX6_readLineOfThings_88 (by decide) rfl (by rcases a5 with b | b <;> (unfold fp_rng; omega)) (fun h88 => ?_) (fun h88 => ?_)
      · rcases a5 with ⟨c1, c2, c3, c4, c5⟩ | b
        rotate_left
        · exfalso; omega
        rw [if_neg (fun q => q c1)] at hR
        have hI2 : liI M M85 x L mk (nxt tp s) := hI.fr hfr c3 (by rw [c4]; exact hI.2.2.2.2.2.1)
        refine S.aload_n (pc' := 94) dX6_readLineOfThings_93 rfl rfl rfl ?_
        refine S.getI (pc' := 97) dX6_readLineOfThings_94 rfl fX6_64 L_2 ?_
        refine S.iconst (pc' := 98) dX6_readLineOfThings_97 rfl ?_
        rw [a3]
        refine S.icmp_ne (pc' := 101) (tgt := 103) dX6_readLineOfThings_98 (by decide) rfl (by unfold fp_rng; omega) (by unfold fp_rng; omega) (fun h98 => ?_) (fun h98 => ?_)
        · rw [if_neg h98] at hR
          refine S.aload_n (pc' := 104) dX6_readLineOfThings_103 rfl rfl rfl ?_
          refine S.iload_n (pc' := 105) dX6_readLineOfThings_104 rfl rfl rfl ?_
          refine S.callVi (pc' := 108) dX6_readLineOfThings_105 rfl cX6_163 (rk_X6_takeLying (tp := tp) (h := tkS tp s) (mk := mk) (L := L) hx a3 a4 c5 (fun q => tkV_in hSl.2 q c1) hI2.2.2.1 hI2.2.2.2.1 hI2.2.2.2.2.2.2.2.1 hL8) rfl L_2 (by decide) rfl (Nat.le_of_ble_eq_true rfl) (fun z105 M105 q105 => ?_)
          refine S.if_ne (pc' := 111) (tgt := 113) dX6_readLineOfThings_108 (by decide) rfl (by rcases q105 with b | b <;> (unfold fp_rng; omega)) (fun h108 => ?_) (fun h108 => ?_)
          · refine S.iinc (pc' := 116) (LL' := [_, _, _, _]) dX6_readLineOfThings_113 rfl (by decide) rfl rfl rfl ?_
            refine S.goto (pc' := 78) dX6_readLineOfThings_116 (by decide) ?_
            rcases q105 with b | b
            rotate_left
            · exfalso; omega
            rw [if_pos b.1] at hR
            obtain ⟨b1, b2, rfl⟩ := b
            have hvv := tkV_in hSl.2 b1.1 c1
            have e9 : (L.length : Int) + 1 = ((L ++ [num tp s]).length : Int) := by simp
            exact li_go (ih (nxt tp s) (L ++ [num tp s]) _ _ (by simp; omega) (by omega) hn.2 (hI2.add (v := num tp s) hx ⟨hvv.1, b1.2.1⟩ b1.2.2.2) hR) e9
          · refine S.iconst (pc' := 112) dX6_readLineOfThings_111 rfl ?_
            refine S.zret dX6_readLineOfThings_112 rfl (by first | exact Or.inl rfl | exact Or.inr rfl | omega) ?_
            rcases q105 with b | b
            · exfalso; omega
            · rw [if_neg b.1] at hR
              obtain ⟨w, w1, rfl⟩ := b.2.2
              have hf2 : fr2 N (fp_up (fp_up M85 2 3 w) 2 4 (tkS tp s)) := hfr.refuse
              exact lnP_no (hfN.trans hf2.R) (hf2.T hmN) (hf2.I hIN) hR.symm (flt_refuse w1)
        · refine S.iconst (pc' := 102) dX6_readLineOfThings_101 rfl ?_
          refine S.zret dX6_readLineOfThings_102 rfl (by first | exact Or.inl rfl | exact Or.inr rfl | omega) ?_
          rw [if_pos h98] at hR
          rw [← hR]
          exact ⟨hfN.trans hfr.R, hfr.T hmN, hfr.I hIN, Or.inr ⟨_, rfl, rfl, c3, hI2.2.2.2.2.2.1, hDn _ _ _ _ hI2⟩⟩
      · refine S.iconst (pc' := 92) dX6_readLineOfThings_91 rfl ?_
        refine S.zret dX6_readLineOfThings_92 rfl (by first | exact Or.inl rfl | exact Or.inr rfl | omega) ?_
        rcases a5 with b | b
        · exfalso; omega
        · rw [if_pos b.1] at hR
          exact lnP_no (hfN.trans hfr.R) (hfr.T hmN) (hfr.I hIN) hR.symm ⟨⟨by omega, by omega⟩, b.2.2.2⟩
end LI2
end
section
/-! A LINE TOLD IN A TEXT: the class; any line of the text -/
section LI3
variable {l : Launch} {G : fp_WG} {M N : fp_Mem} {tp : List Int} {D : pD} {s st : Int}
theorem li_D {A : fp_Mem} {kd s' mk : Int} {L : List Int} (hd : rdD M D) (hD : dOk D) (f : fr2 M A) (h0 : 0 ≤ D.1.2.1) (h1 : D.1.2.1 < 3) (hN : liI (fp_up (fp_up A 6 D.1.2.1.toNat kd) 3 1 (D.1.2.1 + 1)) N D.1.2.1 L mk s') : rdD N (pLn D kd L mk) := by
  obtain ⟨a1, a2, a3, a4, a5, a6, a7, a8, a9, a10, a11, a12⟩ := hN
  obtain ⟨⟨g0, g1, g2, g3, g4, g5⟩, ⟨p1, p2, p3, p4⟩, hv, h11, h12⟩ := hd
  have r : ∀ x, x ≠ 2 → x ≠ 10 → x ≠ 11 → x ≠ 3 → x ≠ 6 → N x = M x := fun x q2 q10 q11 q3 q6 => by rw [a1 x q2 q10 q11, fp_up_ne q3, fp_up_ne q6, f.1 x q2]
  have r3 : N 3 = fp_upf (M 3) 1 (D.1.2.1 + 1) := by rw [a1 3 (by decide) (by decide) (by decide), fp_up_at, fp_up_ne (by decide), f.1 3 (by decide)]
  have r6 : N 6 = fp_upf (M 6) D.1.2.1.toNat kd := by rw [a1 6 (by decide) (by decide) (by decide), fp_up_ne (by decide), fp_up_at, f.1 6 (by decide)]
  have r2 : N 2 12 = M 2 12 := by rw [a2 12 (by decide) (by decide) (by decide) (by decide) (by decide) (by decide) (by decide), fp_up_ne (by decide), fp_up_ne (by decide), f.2 12 (by decide) (by decide) (by decide) (by decide) (by decide) (by decide)]
  have r10 : ∀ y : Nat, y ≠ D.1.2.1.toNat → N 10 y = M 10 y := fun y hy => by rw [a7 y hy, fp_up_ne (by decide), fp_up_ne (by decide), f.1 10 (by decide)]
  have r11 : ∀ j : Nat, ¬ (D.1.2.1 * 8 ≤ (j : Int) ∧ (j : Int) < D.1.2.1 * 8 + (L.length : Int)) → N 11 j = M 11 j := fun j hj => by rw [a9 j hj, fp_up_ne (by decide), fp_up_ne (by decide), f.1 11 (by decide)]
  refine ⟨⟨?_, ?_, ?_, fun t t0 t1 => ?_, fun t p t0 t1 q0 q1 => ?_, fun x x0 x1 => ?_⟩, ⟨fun t t0 t1 => ?_, fun t t0 t1 => ?_, fun t t0 t1 => ?_, fun x x0 x1 => ?_⟩, hv.kept (fun a q1 q2 => r a (by omega) (by omega) (by omega) (by omega) (by omega)), a3, by rw [r2]; exact h12⟩
  · rw [r3, fp_upf_ne (by decide)]; exact g0
  · rw [r3, fp_upf_at]; rfl
  · rw [r3, fp_upf_ne (by decide)]; exact g2
  · rw [r 4 (by decide) (by decide) (by decide) (by decide) (by decide)]; exact g3 t t0 t1
  · rw [r 5 (by decide) (by decide) (by decide) (by decide) (by decide)]; exact g4 t p t0 t1 q0 q1
  · rw [r6]
    show _ = if x = D.1.2.1 then kd else D.1.2.2.2.2.2 x
    have x1' : x < D.1.2.1 + 1 := x1
    by_cases e : x = D.1.2.1
    · rw [e, if_pos rfl, fp_upf_at]
    · rw [if_neg e, fp_upf_ne (by omega)]; exact g5 x x0 (by omega)
  · rw [r 8 (by decide) (by decide) (by decide) (by decide) (by decide)]; exact p1 t t0 t1
  · rw [r 8 (by decide) (by decide) (by decide) (by decide) (by decide)]; exact p2 t t0 t1
  · rw [r 9 (by decide) (by decide) (by decide) (by decide) (by decide)]; exact p3 t t0 t1
  · show N 10 x.toNat = ((if x = D.1.2.1 then L else D.2.2.1 x).length : Int) ∧ ∀ i : Int, 0 ≤ i → i < ((if x = D.1.2.1 then L else D.2.2.1 x).length : Int) → N 11 (x * 8 + i).toNat = (if x = D.1.2.1 then L else D.2.2.1 x).getD i.toNat 0
    by_cases e : x = D.1.2.1
    · subst e
      rw [if_pos rfl]
      exact ⟨a8, a10⟩
    · rw [if_neg e, r10 _ (by omega)]
      obtain ⟨k1, k2⟩ := p4 x x0 x1
      refine ⟨k1, fun i i0 i1 => ?_⟩
      have : i < 8 := by
        have := (hD.2.2.1 x x0 x1).1
        omega
      rw [r11 _ (by omega)]
      exact k2 i i0 i1
theorem li_k {x kd w : Int} (hi : rdI M) (hx : 0 ≤ x ∧ x < 3) (hk : 0 ≤ kd ∧ kd ≤ 2) : rdI (fp_up (fp_up M 6 x.toNat kd) 3 1 w) := by
  obtain ⟨i1, i2, i3, i4, i5, i6⟩ := hi
  refine ⟨i1, i2, i3, i4, fun y y0 y1 => ?_, i6⟩
  rw [fp_up_ne (by decide), fp_up_at]
  by_cases e : y.toNat = x.toNat
  · rw [e, fp_upf_at]; exact hk
  · rw [fp_upf_ne e]; exact i5 y y0 y1
theorem li_0 {A : fp_Mem} {kd s' : Int} (hd : rdD M D) (hD : dOk D) (f : fr2 M A) (h0 : 0 ≤ D.1.2.1) (h1 : D.1.2.1 < 3) (h7 : A 2 7 = s') (h3 : A 2 3 = 0) : liI (fp_up (fp_up A 6 D.1.2.1.toNat kd) 3 1 (D.1.2.1 + 1)) (fp_up (fp_up A 6 D.1.2.1.toNat kd) 3 1 (D.1.2.1 + 1)) D.1.2.1 [] D.2.2.2.1 s' := by
  refine ⟨fun _ _ _ _ => rfl, fun _ _ _ _ _ _ _ _ => rfl, ?_, hD.2.2.2.2.1, h7, h3, fun _ _ => rfl, ?_, fun _ _ => rfl, fun i i0 i1 => absurd i1 (by simp; omega), by simp, fun v hv => (List.not_mem_nil hv).elim⟩
  · rw [fp_up_ne (by decide), fp_up_ne (by decide), f.2 11 (by decide) (by decide) (by decide) (by decide) (by decide) (by decide)]
    exact hd.2.2.2.1
  · rw [fp_up_ne (by decide), fp_up_ne (by decide), f.1 10 (by decide), (hd.2.1.2.2.2 D.1.2.1 h0 h1).1, (hD.2.2.1 D.1.2.1 h0 h1).2.2.1 (Int.le_refl _)]
theorem rk_X6_readLineOfThings (ht : tpOk tp) (hm : rdT M tp) (hs : M 2 7 = s) (h0 : 0 ≤ s) (h1 : s ≤ (tp.length : Int)) (h9 : M 2 9 = st) (h3 : M 2 3 = 0) (hd : rdD M D) (hD : dOk D) (hi : rdI M) : fp_Ok l G 6 kX6_readLineOfThings [rV G 2] M (qI fun z N => lnP tp M N (pLine tp st s D) z) := by
  refine fp_Ok.of (r := 3) rfl (Nat.le_of_ble_eq_true rfl) rfl ?_
  have hx := nxt_le h1
  have hSl := tkS_le h1
  have hg2 := hD.1.2.1
  have hkd := aKd_in tp (tkS tp s)
  have e31 : M 3 1 = D.1.2.1 := hd.1.2.1
  unfold pLine
  by_cases h10 : 3 ≤ D.1.2.1
  · rw [if_pos h10]
    refine S.aload_n (pc' := 1) dX6_readLineOfThings_0 rfl rfl rfl ?_
    refine S.getR (pc' := 4) dX6_readLineOfThings_1 rfl fX6_12 L_2 rf_2_0 ?_
    refine S.getI (pc' := 7) dX6_readLineOfThings_4 rfl fX6_154 (gd_lay gd3) ?_
    rw [e31]
    refine S.istore_n (pc' := 8) (LL' := [_, _, _, _]) dX6_readLineOfThings_7 rfl (by decide) rfl rfl rfl ?_
    refine S.iload_n (pc' := 9) dX6_readLineOfThings_8 rfl rfl rfl ?_
    refine S.iconst (pc' := 10) dX6_readLineOfThings_9 rfl ?_
    refine S.icmp_lt (pc' := 13) (tgt := 23) dX6_readLineOfThings_10 (by decide) rfl (by unfold fp_rng; omega) (by unfold fp_rng; omega) (fun k10 => ?_) (fun k10 => ?_)
    · exfalso; omega
    · refine S.aload_n (pc' := 14) dX6_readLineOfThings_13 rfl rfl rfl ?_
      refine S.iconst (pc' := 15) dX6_readLineOfThings_14 rfl ?_
      refine S.aload_n (pc' := 16) dX6_readLineOfThings_15 rfl rfl rfl ?_
      refine S.getI (pc' := 19) dX6_readLineOfThings_16 rfl fX6_76 L_2 ?_
      rw [h9]
      refine S.callVe (pc' := 22) dX6_readLineOfThings_19 rfl cX6_89 ok_X6_refuse rfl L_2 (by decide) rfl (Nat.le_of_ble_eq_true rfl) ?_
      refine S.zret dX6_readLineOfThings_22 rfl (Or.inl rfl) ?_
      exact lnP_no (fun a ha => by rw [fp_up_ne (by omega), fp_up_ne (by omega)]) ((hm.up (by decide) (by decide)).up (by decide) (by decide)) (hi.kept rfl rfl rfl rfl) rfl (flt_refuse (by omega))
  · rw [if_neg h10]
    refine S.aload_n (pc' := 1) dX6_readLineOfThings_0 rfl rfl rfl ?_
    refine S.getR (pc' := 4) dX6_readLineOfThings_1 rfl fX6_12 L_2 rf_2_0 ?_
    refine S.getI (pc' := 7) dX6_readLineOfThings_4 rfl fX6_154 (gd_lay gd3) ?_
    rw [e31]
    refine S.istore_n (pc' := 8) (LL' := [_, _, _, _]) dX6_readLineOfThings_7 rfl (by decide) rfl rfl rfl ?_
    refine S.iload_n (pc' := 9) dX6_readLineOfThings_8 rfl rfl rfl ?_
    refine S.iconst (pc' := 10) dX6_readLineOfThings_9 rfl ?_
    refine S.icmp_lt (pc' := 13) (tgt := 23) dX6_readLineOfThings_10 (by decide) rfl (by unfold fp_rng; omega) (by unfold fp_rng; omega) (fun k10 => ?_) (fun k10 => ?_)
    · refine S.aload_n (pc' := 24) dX6_readLineOfThings_23 rfl rfl rfl ?_
      refine S.callVi (pc' := 27) dX6_readLineOfThings_24 rfl cX6_60 (rk_X6_step ht hm hs h0 h1) rfl L_2 (by decide) rfl (Nat.le_of_ble_eq_true rfl) (fun z24 M24 q24 => ?_)
      obtain ⟨a1, a2, a3, a4, a5⟩ := q24
      have hfr : fr2 M M24 := ⟨a1, a2⟩
      refine S.if_ne (pc' := 30) (tgt := 32) dX6_readLineOfThings_27 (by decide) rfl (by rcases a5 with b | b <;> (unfold fp_rng; omega)) (fun h27 => ?_) (fun h27 => ?_)
      · rcases a5 with ⟨c1, c2, c3, c4, c5⟩ | b
        rotate_left
        · exfalso; omega
        rw [if_neg (fun q => q c1)]
        refine S.aload_n (pc' := 33) dX6_readLineOfThings_32 rfl rfl rfl ?_
        refine S.callVe (pc' := 36) dX6_readLineOfThings_33 rfl cX6_157 (rk_X6_kindRead ht (hfr.T hm) ⟨a3, a4, c3, by omega, hSl.2⟩) rfl L_2 (by decide) rfl (Nat.le_of_ble_eq_true rfl) ?_
        refine S.istore_n (pc' := 37) (LL' := [_, _, _, _]) dX6_readLineOfThings_36 rfl (by decide) rfl rfl rfl ?_
        refine S.iload_n (pc' := 38) dX6_readLineOfThings_37 rfl rfl rfl ?_
        refine S.bipush (pc' := 40) dX6_readLineOfThings_38 rfl (by decide) ?_
        refine S.icmp_ne (pc' := 43) (tgt := 53) dX6_readLineOfThings_40 (by decide) rfl (by unfold fp_rng; omega) (by unfold fp_rng; omega) (fun h40 => ?_) (fun h40 => ?_)
        · rw [if_neg h40]
          refine S.aload_n (pc' := 54) dX6_readLineOfThings_53 rfl rfl rfl ?_
          refine S.getR (pc' := 57) dX6_readLineOfThings_54 rfl fX6_12 L_2 rf_2_0 ?_
          refine S.getR (pc' := 60) dX6_readLineOfThings_57 rfl fX6_160 (gd_lay gd3) (gd_r5 gd3) ?_
          refine S.iload_n (pc' := 61) dX6_readLineOfThings_60 rfl rfl rfl ?_
          refine S.iload_n (pc' := 62) dX6_readLineOfThings_61 rfl rfl rfl ?_
          refine S.iast (pc' := 63) dX6_readLineOfThings_62 rfl (gd_a5 gd3) (by omega) (by omega) ?_
          refine S.aload_n (pc' := 64) dX6_readLineOfThings_63 rfl rfl rfl ?_
          refine S.getR (pc' := 67) dX6_readLineOfThings_64 rfl fX6_12 L_2 rf_2_0 ?_
          refine S.dup (pc' := 68) dX6_readLineOfThings_67 rfl rfl ?_
          refine S.getI (pc' := 71) dX6_readLineOfThings_68 rfl fX6_154 (gd_lay gd3) ?_
          refine S.iconst (pc' := 72) dX6_readLineOfThings_71 rfl ?_
          rw [show fp_up M24 6 D.1.2.1.toNat (aKd tp (tkS tp s)) 3 1 = D.1.2.1 by rw [fp_up_ne (by decide), hfr.1 3 (by decide)]; exact e31]
          refine S.iadd (pc' := 73) dX6_readLineOfThings_72 rfl ?_
          refine S.putI (pc' := 76) dX6_readLineOfThings_73 rfl fX6_154 (gd_lay gd3) ?_
          refine S.iconst (pc' := 77) dX6_readLineOfThings_76 rfl ?_
          refine S.istore_n (pc' := 78) (LL' := [_, _, _, _]) dX6_readLineOfThings_77 rfl (by decide) rfl rfl rfl ?_
          refine li_go (li_loop (M := fp_up (fp_up M24 6 D.1.2.1.toNat (aKd tp (tkS tp s))) 3 1 (D.1.2.1 + 1)) (x := D.1.2.1) (kd := aKd tp (tkS tp s)) (Dn := pLn D (aKd tp (tkS tp s))) ht (hfr.R.trans (fun a ha => by rw [fp_up_ne (by omega), fp_up_ne (by omega)])) ⟨(hfr.T hm).1, (hfr.T hm).2.1, (hfr.T hm).2.2⟩ (li_k (hfr.I hi) (by omega) (by omega)) (by omega) (fun N L mk s' hN => li_D hd hD hfr (by omega) (by omega) hN) 9 (nxt tp s) [] D.2.2.2.1 _ rfl (by omega) hx.2 (li_0 hd hD hfr (by omega) (by omega) c3 (c4.trans h3)) rfl) rfl
        · refine S.aload_n (pc' := 44) dX6_readLineOfThings_43 rfl rfl rfl ?_
          refine S.iconst (pc' := 45) dX6_readLineOfThings_44 rfl ?_
          refine S.aload_n (pc' := 46) dX6_readLineOfThings_45 rfl rfl rfl ?_
          refine S.getI (pc' := 49) dX6_readLineOfThings_46 rfl fX6_76 L_2 ?_
          rw [a4]
          refine S.callVe (pc' := 52) dX6_readLineOfThings_49 rfl cX6_89 ok_X6_refuse rfl L_2 (by decide) rfl (Nat.le_of_ble_eq_true rfl) ?_
          refine S.zret dX6_readLineOfThings_52 rfl (Or.inl rfl) ?_
          rw [if_pos h40]
          exact lnP_no hfr.refuse.R (hfr.refuse.T hm) (hfr.refuse.I hi) rfl (flt_refuse (by omega))
      · refine S.iconst (pc' := 31) dX6_readLineOfThings_30 rfl ?_
        refine S.zret dX6_readLineOfThings_31 rfl (by first | exact Or.inl rfl | exact Or.inr rfl | omega) ?_
        rcases a5 with b | b
        · exfalso; omega
        · rw [if_pos b.1]
          exact lnP_no hfr.R (hfr.T hm) (hfr.I hi) rfl ⟨⟨by omega, by omega⟩, b.2.2.2⟩
    · exfalso; omega
end LI3
end
section
/-! ANY LINE OF A TEXT: what it may be, and that what is told stays as it can be -/
def pRow (tp : List Int) (h : Int) (D : pD) : Int ⊕ (Int × pD) := if nmW tp h 0 = true then pThing tp h (tkE tp h) D else if nmW tp h 1 = true then pLine tp h (tkE tp h) D else if nmW tp h 2 = true then pVisit tp h (tkE tp h) 1 D else if nmW tp h 3 = true then pVisit tp h (tkE tp h) 0 D else if nmW tp h 4 = true then pChance tp h (tkE tp h) D else .inl h
theorem nxt_in {tp : List Int} {s : Int} (h : s ≤ (tp.length : Int)) : s ≤ nxt tp s ∧ nxt tp s ≤ (tp.length : Int) := nxt_le h
theorem pFin_in {tp : List Int} {s : Int} {D : pD} {q : Int × pD} (h : s ≤ (tp.length : Int)) (e : pFin tp s D = .inr q) : q.2 = D ∧ s ≤ q.1 ∧ q.1 ≤ (tp.length : Int) := by
  unfold pFin at e
  split at e
  · cases e
  · cases e
    exact ⟨rfl, nxt_in h⟩
theorem pChance_ok {tp : List Int} {st s : Int} {D : pD} {q : Int × pD} (hs : s ≤ (tp.length : Int)) (hD : dOk D) (e : pChance tp st s D = .inr q) : dOk q.2 ∧ s ≤ q.1 ∧ q.1 ≤ (tp.length : Int) := by
  unfold pChance at e
  split at e
  · cases e
  · split at e
    · cases e
    · rename_i h1
      have h1 : nmOk tp s 0 10 := Classical.byContradiction h1
      split at e
      · cases e
      · cases e
        have n1 := nxt_in hs
        have n2 := nxt_in n1.2
        obtain ⟨g, d⟩ := hD
        obtain ⟨g1, g2, g3, g4⟩ := g
        exact ⟨⟨⟨g1, g2, h1.2.2, g4⟩, d.1, d.2.1, d.2.2.1, d.2.2.2.1, Or.inr rfl, d.2.2.2.2.2⟩, by show s ≤ nxt tp (nxt tp s); omega, n2.2⟩
theorem pAdd_ok {D : pD} {v : aVt} (hD : dOk D) (hl : ¬ 12 ≤ D.2.2.2.2.2.length) (hv : vtOk v) : dOk (pAdd D v) := by
  obtain ⟨d1, d2, d3, d4, d5, d6, d7, d8⟩ := hD
  refine ⟨d1, d2, d3, d4, d5, d6, ?_, fun u hu => ?_⟩
  · show (D.2.2.2.2.2 ++ [v]).length ≤ 12
    simp; omega
  · rcases List.mem_append.mp hu with q | q
    · exact d8 u q
    · simp only [List.mem_singleton] at q
      subst q; exact hv
theorem pVisit_ok {tp : List Int} {st s put : Int} {D : pD} {q : Int × pD} (hs : s ≤ (tp.length : Int)) (hD : dOk D) (e : pVisit tp st s put D = .inr q) : dOk q.2 ∧ s ≤ q.1 ∧ q.1 ≤ (tp.length : Int) := by
  have n1 := nxt_in hs
  have n2 := nxt_in n1.2
  have n3 := nxt_in n2.2
  have n4 := nxt_in n3.2
  have hla := aLast_in2 hD.2.2.2.2.2.2.2
  unfold pVisit at e
  by_cases c0 : 12 ≤ D.2.2.2.2.2.length
  · rw [if_pos c0] at e; cases e
  rw [if_neg c0] at e
  by_cases c1 : nmOk tp s (aLast D.2.2.2.2.2) 99
  rotate_left
  · rw [if_pos c1] at e; cases e
  rw [if_neg (fun x => x c1)] at e
  by_cases c2 : nmOk tp (nxt tp s) 0 3
  rotate_left
  · rw [if_pos c2] at e; cases e
  rw [if_neg (fun x => x c2)] at e
  by_cases c3 : nmOk tp (nxt tp (nxt tp s)) 0 2
  rotate_left
  · rw [if_pos c3] at e; cases e
  rw [if_neg (fun x => x c3)] at e
  have b1 : 0 ≤ num tp s ∧ num tp s ≤ 99 := ⟨by have := c1.2.2.1; unfold num; omega, c1.2.2.2⟩
  have b2 : 0 ≤ num tp (nxt tp s) ∧ num tp (nxt tp s) < 4 := ⟨c2.2.2.1, by have := c2.2.2.2; unfold num; omega⟩
  have b3 : 0 ≤ num tp (nxt tp (nxt tp s)) ∧ num tp (nxt tp (nxt tp s)) < 3 := ⟨c3.2.2.1, by have := c3.2.2.2; unfold num; omega⟩
  by_cases hp : put = 0
  · rw [if_pos hp] at e
    obtain ⟨e1, e2, e3⟩ := pFin_in n3.2 e
    rw [e1]
    exact ⟨pAdd_ok hD c0 ⟨b1, b2, b3, Or.inl rfl⟩, by omega, e3⟩
  · rw [if_neg hp] at e
    by_cases c4 : nmOk tp (nxt tp (nxt tp (nxt tp s))) 0 9
    rotate_left
    · rw [if_pos c4] at e; cases e
    rw [if_neg (fun x => x c4)] at e
    obtain ⟨e1, e2, e3⟩ := pFin_in n4.2 e
    rw [e1]
    exact ⟨pAdd_ok hD c0 ⟨b1, b2, b3, Or.inr ⟨c4.2.2.1, by have := c4.2.2.2; show num tp _ < 10; unfold num; omega⟩⟩, by omega, e3⟩
theorem itN_s {tp : List Int} : ∀ (p : Nat) (s : Int), itN tp (p + 1) s = itN tp p (nxt tp s)
  | 0, s => rfl
  | p + 1, s => by
    show nxt tp (itN tp (p + 1) s) = nxt tp (itN tp p (nxt tp s))
    rw [itN_s p s]
theorem pVl_in {tp : List Int} : ∀ (k : Nat) (s : Int) (p : Nat), pVl tp k s = none → p < k → nmOk tp (itN tp p s) 0 20
  | 0, s, p, h, hp => by omega
  | k + 1, s, p, h, hp => by
    unfold pVl at h
    by_cases c : nmOk tp s 0 20
    · rw [if_pos c] at h
      rcases p with _ | p
      · exact c
      · have := pVl_in k (nxt tp s) p h (by omega)
        rw [itN_s]
        exact this
    · rw [if_neg c] at h; cases h
theorem pThing_ok {tp : List Int} {st s : Int} {D : pD} {q : Int × pD} (hs : s ≤ (tp.length : Int)) (hD : dOk D) (e : pThing tp st s D = .inr q) : dOk q.2 ∧ s ≤ q.1 ∧ q.1 ≤ (tp.length : Int) := by
  have n1 := nxt_in hs
  have n2 := nxt_in n1.2
  have n4 := itN_le n2.2 4
  unfold pThing at e
  by_cases c0 : 10 ≤ D.1.1
  · rw [if_pos c0] at e; cases e
  rw [if_neg c0] at e
  by_cases c1 : nmOk tp s 0 3
  rotate_left
  · rw [if_pos c1] at e; cases e
  rw [if_neg (fun x => x c1)] at e
  by_cases c2 : nmOk tp (nxt tp s) 0 9
  rotate_left
  · rw [if_pos c2] at e; cases e
  rw [if_neg (fun x => x c2)] at e
  cases hv : pVl tp 4 (nxt tp (nxt tp s)) with
  | some h => rw [hv] at e; cases e
  | none =>
    rw [hv] at e
    obtain ⟨e1, e2, e3⟩ := pFin_in n4.2 e
    rw [e1]
    refine ⟨?_, by omega, e3⟩
    obtain ⟨⟨g1, g2, g3, g4, g5, g6⟩, d2, d3, d4, d5, d6, d7, d8⟩ := hD
    refine ⟨⟨?_, g2, g3, fun t t0 t1 => ?_, fun t p t0 t1 p0 p1 => ?_, g6⟩, fun t t0 t1 => ?_, d3, d4, d5, d6, d7, d8⟩
    · show 0 ≤ D.1.1 + 1 ∧ D.1.1 + 1 ≤ 10
      omega
    · have t1' : t < D.1.1 + 1 := t1
      show 0 ≤ (if t = D.1.1 then num tp (nxt tp s) else D.1.2.2.2.1 t) ∧ (if t = D.1.1 then num tp (nxt tp s) else D.1.2.2.2.1 t) ≤ 9
      split
      · exact c2.2.2
      · exact g4 t t0 (by omega)
    · have t1' : t < D.1.1 + 1 := t1
      show 0 ≤ (if t = D.1.1 then num tp (itN tp p.toNat (nxt tp (nxt tp s))) else D.1.2.2.2.2.1 t p) ∧ (if t = D.1.1 then num tp (itN tp p.toNat (nxt tp (nxt tp s))) else D.1.2.2.2.2.1 t p) ≤ 20
      split
      · exact (pVl_in 4 _ p.toNat hv (by omega)).2.2
      · exact g5 t p t0 (by omega) p0 p1
    · have t1' : t < D.1.1 + 1 := t1
      show 0 ≤ (if t = D.1.1 then num tp s else D.2.1 t) ∧ (if t = D.1.1 then num tp s else D.2.1 t) ≤ 3
      split
      · exact c1.2.2
      · exact d2 t t0 (by omega)
end
section
/-! A LINE told stays as it can be; any line of a text -/
def itI (L : List Int) (mk m0 : Int) : Prop := (0 ≤ mk ∧ mk < 1024) ∧ L.length ≤ 8 ∧ L.Nodup ∧ (∀ v ∈ L, (0 ≤ v ∧ v < 10) ∧ mk.toNat.testBit v.toNat = true ∧ ¬ m0.toNat.testBit v.toNat = true) ∧ ∀ t : Nat, m0.toNat.testBit t = true → mk.toNat.testBit t = true
theorem fp_or_bit {a : Int} {n t : Nat} : (fp_or a (2 ^ n)).toNat.testBit t = true ↔ (a.toNat.testBit t = true ∨ n = t) := by
  unfold fp_or
  rw [Int.toNat_natCast, Nat.testBit_or, fp_pow2, Nat.testBit_two_pow]
  simp only [Bool.or_eq_true, decide_eq_true_eq]
theorem itI_add {L : List Int} {mk m0 v : Int} (h : itI L mk m0) (hv : 0 ≤ v ∧ v < 10) (hb : ¬ mk.toNat.testBit v.toNat = true) (hl : L.length < 8) : itI (L ++ [v]) (fp_or mk (2 ^ v.toNat)) m0 := by
  obtain ⟨h1, h2, h3, h4, h5⟩ := h
  have hp3 : (2 : Int) ^ v.toNat < 1024 := by
    have q : ∀ n : Nat, n < 10 → (2 : Int) ^ n < 1024 := by decide +kernel
    exact q _ (by omega)
  refine ⟨⟨fp_or_nn _ _, fp_or_lt (n := 10) h1.2 hp3⟩, by simp; omega, ?_, fun u hu => ?_, fun t ht => fp_or_bit.mpr (Or.inl (h5 t ht))⟩
  · rw [List.nodup_append]
    refine ⟨h3, by simp, fun a ha b hb2 => ?_⟩
    simp only [List.mem_singleton] at hb2
    subst hb2
    intro e
    subst e
    exact hb (h4 a ha).2.1
  · rcases List.mem_append.mp hu with q | q
    · obtain ⟨k1, k2, k3⟩ := h4 u q
      exact ⟨k1, fp_or_bit.mpr (Or.inl k2), k3⟩
    · simp only [List.mem_singleton] at q
      subst q
      exact ⟨hv, fp_or_bit.mpr (Or.inr rfl), fun x => hb (h5 _ x)⟩
theorem pIt_ok {tp : List Int} {m0 : Int} : ∀ (k : Nat) (s : Int) (L : List Int) (mk : Int) (q : Int × List Int × Int), s ≤ (tp.length : Int) → itI L mk m0 → pIt tp k s L mk = .inr q → itI q.2.1 q.2.2 m0 ∧ s ≤ q.1 ∧ q.1 ≤ (tp.length : Int)
  | 0, s, L, m9, q, hs, hI, e => by unfold pIt at e; cases e
  | k + 1, s, L, m9, q, hs, hI, e => by
    have n1 := nxt_in hs
    have hS := tkS_le hs
    unfold pIt at e
    by_cases c0 : tkOk tp (tkS tp s)
    rotate_left
    · rw [if_pos c0] at e; cases e
    rw [if_neg (fun x => x c0)] at e
    by_cases c1 : tkK tp (tkS tp s) = 3
    · rw [if_pos c1] at e
      cases e
      exact ⟨hI, n1⟩
    rw [if_neg c1] at e
    by_cases c2 : itOk tp (tkS tp s) L m9
    · rw [if_pos c2] at e
      have hv := tkV_in hS.2 c2.1 c0
      obtain ⟨r1, r2, r3⟩ := pIt_ok k (nxt tp s) _ _ q n1.2 (itI_add (v := num tp s) hI ⟨hv.1, c2.2.1⟩ c2.2.2.1 c2.2.2.2) e
      exact ⟨r1, by omega, r3⟩
    · rw [if_neg c2] at e; cases e
theorem pLine_ok {tp : List Int} {st s : Int} {D : pD} {q : Int × pD} (hs : s ≤ (tp.length : Int)) (hD : dOk D) (e : pLine tp st s D = .inr q) : dOk q.2 ∧ s ≤ q.1 ∧ q.1 ≤ (tp.length : Int) := by
  have n1 := nxt_in hs
  have hk := aKd_in tp (tkS tp s)
  unfold pLine at e
  by_cases c0 : 3 ≤ D.1.2.1
  · rw [if_pos c0] at e; cases e
  rw [if_neg c0] at e
  by_cases c1 : tkOk tp (tkS tp s)
  rotate_left
  · rw [if_pos c1] at e; cases e
  rw [if_neg (fun x => x c1)] at e
  by_cases c2 : aKd tp (tkS tp s) = -4
  · rw [if_pos c2] at e; cases e
  rw [if_neg c2] at e
  cases hp : pIt tp 9 (nxt tp s) [] D.2.2.2.1 with
  | inl h => rw [hp] at e; cases e
  | inr r =>
    rw [hp] at e
    cases e
    obtain ⟨⟨g1, g2, g3, g4, g5, g6⟩, d2, d3, d4, d5, d6, d7, d8⟩ := hD
    obtain ⟨⟨i1, i2, i3, i4, i5⟩, r2, r3⟩ := pIt_ok (m0 := D.2.2.2.1) 9 (nxt tp s) [] D.2.2.2.1 r n1.2 ⟨d5, by simp, List.nodup_nil, fun v hv => (List.not_mem_nil hv).elim, fun t ht => ht⟩ hp
    refine ⟨⟨⟨g1, ?_, g3, g4, g5, fun x x0 x1 => ?_⟩, d2, fun x x0 x1 => ?_, fun x y t x0 x1 y0 y1 hne hx => ?_, i1, d6, d7, d8⟩, by omega, r3⟩
    · show 0 ≤ D.1.2.1 + 1 ∧ D.1.2.1 + 1 ≤ 3
      omega
    · have x1' : x < D.1.2.1 + 1 := x1
      show 0 ≤ (if x = D.1.2.1 then aKd tp (tkS tp s) else D.1.2.2.2.2.2 x) ∧ (if x = D.1.2.1 then aKd tp (tkS tp s) else D.1.2.2.2.2.2 x) ≤ 2
      split
      · omega
      · exact g6 x x0 (by omega)
    · show (if x = D.1.2.1 then r.2.1 else D.2.2.1 x).length ≤ 8 ∧ (if x = D.1.2.1 then r.2.1 else D.2.2.1 x).Nodup ∧ (D.1.2.1 + 1 ≤ x → (if x = D.1.2.1 then r.2.1 else D.2.2.1 x) = []) ∧ ∀ t ∈ (if x = D.1.2.1 then r.2.1 else D.2.2.1 x), (0 ≤ t ∧ t < 10) ∧ r.2.2.toNat.testBit t.toNat = true
      by_cases ex : x = D.1.2.1
      · rw [if_pos ex]
        exact ⟨i2, i3, fun q => by omega, fun t ht => ⟨(i4 t ht).1, (i4 t ht).2.1⟩⟩
      · rw [if_neg ex]
        obtain ⟨k1, k2, k3, k4⟩ := d3 x x0 x1
        exact ⟨k1, k2, fun q => k3 (by omega), fun t ht => ⟨(k4 t ht).1, i5 _ (k4 t ht).2⟩⟩
    · have hx : t ∈ (if x = D.1.2.1 then r.2.1 else D.2.2.1 x) := hx
      show t ∉ (if y = D.1.2.1 then r.2.1 else D.2.2.1 y)
      by_cases ex : x = D.1.2.1
      · rw [if_pos ex] at hx
        rw [if_neg (fun z => hne (ex.trans z.symm))]
        intro hy
        exact (i4 t hx).2.2 ((d3 y y0 y1).2.2.2 t hy).2
      · rw [if_neg ex] at hx
        by_cases ey : y = D.1.2.1
        · rw [if_pos ey]
          intro hy
          exact (i4 t hy).2.2 ((d3 x x0 x1).2.2.2 t hx).2
        · rw [if_neg ey]
          exact d4 x y t x0 x1 y0 y1 hne hx
theorem nmW_K {tp : List Int} {h : Int} {i : Nat} (e : nmW tp h i = true) : tkK tp h = 1 := by
  unfold nmW at e
  rw [Bool.and_eq_true, decide_eq_true_eq] at e
  exact e.1
theorem pRow_ok {tp : List Int} {h : Int} {D : pD} {q : Int × pD} (hh : h ≤ (tp.length : Int)) (hD : dOk D) (e : pRow tp h D = .inr q) : dOk q.2 ∧ h < q.1 ∧ q.1 ≤ (tp.length : Int) := by
  have hE := tkE_le hh
  have hlt : tkK tp h = 1 → h < tkE tp h := by
    intro hk
    apply hE.2.2
    unfold tkK at hk
    split at hk
    · omega
    · omega
  unfold pRow at e
  split at e
  · rename_i c
    have := hlt (nmW_K c)
    obtain ⟨r1, r2, r3⟩ := pThing_ok hE.2.1 hD e
    exact ⟨r1, by omega, r3⟩
  · split at e
    · rename_i c
      have := hlt (nmW_K c)
      obtain ⟨r1, r2, r3⟩ := pLine_ok hE.2.1 hD e
      exact ⟨r1, by omega, r3⟩
    · split at e
      · rename_i c
        have := hlt (nmW_K c)
        obtain ⟨r1, r2, r3⟩ := pVisit_ok hE.2.1 hD e
        exact ⟨r1, by omega, r3⟩
      · split at e
        · rename_i c
          have := hlt (nmW_K c)
          obtain ⟨r1, r2, r3⟩ := pVisit_ok hE.2.1 hD e
          exact ⟨r1, by omega, r3⟩
        · split at e
          · rename_i c
            have := hlt (nmW_K c)
            obtain ⟨r1, r2, r3⟩ := pChance_ok hE.2.1 hD e
            exact ⟨r1, by omega, r3⟩
          · cases e
section ROW
variable {l : Launch} {G : fp_WG} {M : fp_Mem} {tp : List Int} {D : pD} {h : Int}
theorem lnP_z {N : fp_Mem} {r : Int ⊕ (Int × pD)} {z : Int} (q : lnP tp M N r z) : z = 0 ∨ z = 1 := by
  rcases q.2.2.2 with ⟨_, _, e, _⟩ | ⟨_, _, e, _⟩
  · exact Or.inl e
  · exact Or.inr e
theorem rk_X6_readLine (ht : tpOk tp) (hm : rdT M tp) (hk : tkAt tp M h) (h3 : M 2 3 = 0) (hd : rdD M D) (hD : dOk D) (hi : rdI M) : fp_Ok l G 7 kX6_readLine [rV G 2] M (qI fun z N => lnP tp M N (pRow tp h D) z) := by
  have hE := tkE_le hk.2.2.2.2
  have e0 : 0 ≤ tkE tp h := by have := hk.2.2.2.1; omega
  refine fp_Ok.of (r := 0) rfl (Nat.le_of_ble_eq_true rfl) rfl ?_
  unfold pRow
  refine S.aload_n (pc' := 1) dX6_readLine_0 rfl rfl rfl ?_
  refine S.ldcW (i := 0) (pc' := 3) dX6_readLine_1 rfl (by decide) rfl rfl (fun a ha => ?_)
  refine S.callVe (pc' := 6) dX6_readLine_3 rfl cX6_104 (rk_word (by decide) ht hm hk ha) rfl L_2 (by decide) rfl (Nat.le_of_ble_eq_true rfl) ?_
  by_cases n0 : nmW tp h 0 = true
  · rw [if_pos n0, if_pos n0]
    refine S.if_eq (tgt := 14) (pc' := 9) dX6_readLine_6 (by decide) rfl (by unfold fp_rng; omega) (fun q => absurd q (by decide)) (fun _ => ?_)
    refine S.aload_n (pc' := 10) dX6_readLine_9 rfl rfl rfl ?_
    refine S.callVi (pc' := 13) dX6_readLine_10 rfl cX6_108 (rk_X6_readThing ht hm hk.2.2.1 e0 hE.2.1 hk.2.1 h3 hd hD hi) rfl L_2 (by decide) rfl (Nat.le_of_ble_eq_true rfl) (fun z N q => ?_)
    exact S.zret dX6_readLine_13 rfl (lnP_z q) q
  rw [if_neg n0, if_neg n0]
  refine S.if_eq (tgt := 14) (pc' := 9) dX6_readLine_6 (by decide) rfl fp_rng0 (fun _ => ?_) (fun q => absurd rfl q)
  refine S.aload_n (pc' := 15) dX6_readLine_14 rfl rfl rfl ?_
  refine S.ldcW (i := 1) (pc' := 17) dX6_readLine_15 rfl (by decide) rfl rfl (fun a ha => ?_)
  refine S.callVe (pc' := 20) dX6_readLine_17 rfl cX6_104 (rk_word (by decide) ht hm hk ha) rfl L_2 (by decide) rfl (Nat.le_of_ble_eq_true rfl) ?_
  by_cases n1 : nmW tp h 1 = true
  · rw [if_pos n1, if_pos n1]
    refine S.if_eq (tgt := 28) (pc' := 23) dX6_readLine_20 (by decide) rfl (by unfold fp_rng; omega) (fun q => absurd q (by decide)) (fun _ => ?_)
    refine S.aload_n (pc' := 24) dX6_readLine_23 rfl rfl rfl ?_
    refine S.callVi (pc' := 27) dX6_readLine_24 rfl cX6_113 (rk_X6_readLineOfThings ht hm hk.2.2.1 e0 hE.2.1 hk.2.1 h3 hd hD hi) rfl L_2 (by decide) rfl (Nat.le_of_ble_eq_true rfl) (fun z N q => ?_)
    exact S.zret dX6_readLine_27 rfl (lnP_z q) q
  rw [if_neg n1, if_neg n1]
  refine S.if_eq (tgt := 28) (pc' := 23) dX6_readLine_20 (by decide) rfl fp_rng0 (fun _ => ?_) (fun q => absurd rfl q)
  refine S.aload_n (pc' := 29) dX6_readLine_28 rfl rfl rfl ?_
  refine S.ldcW (i := 2) (pc' := 31) dX6_readLine_29 rfl (by decide) rfl rfl (fun a ha => ?_)
  refine S.callVe (pc' := 34) dX6_readLine_31 rfl cX6_104 (rk_word (by decide) ht hm hk ha) rfl L_2 (by decide) rfl (Nat.le_of_ble_eq_true rfl) ?_
  by_cases n2 : nmW tp h 2 = true
  · rw [if_pos n2, if_pos n2]
    refine S.if_eq (tgt := 43) (pc' := 37) dX6_readLine_34 (by decide) rfl (by unfold fp_rng; omega) (fun q => absurd q (by decide)) (fun _ => ?_)
    refine S.aload_n (pc' := 38) dX6_readLine_37 rfl rfl rfl ?_
    refine S.iconst (pc' := 39) dX6_readLine_38 rfl ?_
    refine S.callVi (pc' := 42) dX6_readLine_39 rfl cX6_118 (rk_X6_readVisit (Or.inr rfl) ht hm hk.2.2.1 e0 hE.2.1 hk.2.1 h3 hd hD hi) rfl L_2 (by decide) rfl (Nat.le_of_ble_eq_true rfl) (fun z N q => ?_)
    exact S.zret dX6_readLine_42 rfl (lnP_z q) q
  rw [if_neg n2, if_neg n2]
  refine S.if_eq (tgt := 43) (pc' := 37) dX6_readLine_34 (by decide) rfl fp_rng0 (fun _ => ?_) (fun q => absurd rfl q)
  refine S.aload_n (pc' := 44) dX6_readLine_43 rfl rfl rfl ?_
  refine S.ldcW (i := 3) (pc' := 46) dX6_readLine_44 rfl (by decide) rfl rfl (fun a ha => ?_)
  refine S.callVe (pc' := 49) dX6_readLine_46 rfl cX6_104 (rk_word (by decide) ht hm hk ha) rfl L_2 (by decide) rfl (Nat.le_of_ble_eq_true rfl) ?_
  by_cases n3 : nmW tp h 3 = true
  · rw [if_pos n3, if_pos n3]
    refine S.if_eq (tgt := 58) (pc' := 52) dX6_readLine_49 (by decide) rfl (by unfold fp_rng; omega) (fun q => absurd q (by decide)) (fun _ => ?_)
    refine S.aload_n (pc' := 53) dX6_readLine_52 rfl rfl rfl ?_
    refine S.iconst (pc' := 54) dX6_readLine_53 rfl ?_
    refine S.callVi (pc' := 57) dX6_readLine_54 rfl cX6_118 (rk_X6_readVisit (Or.inl rfl) ht hm hk.2.2.1 e0 hE.2.1 hk.2.1 h3 hd hD hi) rfl L_2 (by decide) rfl (Nat.le_of_ble_eq_true rfl) (fun z N q => ?_)
    exact S.zret dX6_readLine_57 rfl (lnP_z q) q
  rw [if_neg n3, if_neg n3]
  refine S.if_eq (tgt := 58) (pc' := 52) dX6_readLine_49 (by decide) rfl fp_rng0 (fun _ => ?_) (fun q => absurd rfl q)
  refine S.aload_n (pc' := 59) dX6_readLine_58 rfl rfl rfl ?_
  refine S.ldcW (i := 4) (pc' := 61) dX6_readLine_59 rfl (by decide) rfl rfl (fun a ha => ?_)
  refine S.callVe (pc' := 64) dX6_readLine_61 rfl cX6_104 (rk_word (by decide) ht hm hk ha) rfl L_2 (by decide) rfl (Nat.le_of_ble_eq_true rfl) ?_
  by_cases n4 : nmW tp h 4 = true
  · rw [if_pos n4, if_pos n4]
    refine S.if_eq (tgt := 72) (pc' := 67) dX6_readLine_64 (by decide) rfl (by unfold fp_rng; omega) (fun q => absurd q (by decide)) (fun _ => ?_)
    refine S.aload_n (pc' := 68) dX6_readLine_67 rfl rfl rfl ?_
    refine S.callVi (pc' := 71) dX6_readLine_68 rfl cX6_126 (rk_X6_readChance ht hm hk.2.2.1 e0 hE.2.1 hk.2.1 h3 hd hD hi) rfl L_2 (by decide) rfl (Nat.le_of_ble_eq_true rfl) (fun z N q => ?_)
    exact S.zret dX6_readLine_71 rfl (lnP_z q) q
  rw [if_neg n4, if_neg n4]
  refine S.if_eq (tgt := 72) (pc' := 67) dX6_readLine_64 (by decide) rfl fp_rng0 (fun _ => ?_) (fun q => absurd rfl q)
  refine S.aload_n (pc' := 73) dX6_readLine_72 rfl rfl rfl ?_
  refine S.iconst (pc' := 74) dX6_readLine_73 rfl ?_
  refine S.aload_n (pc' := 75) dX6_readLine_74 rfl rfl rfl ?_
  refine S.getI (pc' := 78) dX6_readLine_75 rfl fX6_76 L_2 ?_
  rw [hk.2.1]
  refine S.callVe (pc' := 81) dX6_readLine_78 rfl cX6_89 ok_X6_refuse rfl L_2 (by decide) rfl (Nat.le_of_ble_eq_true rfl) ?_
  refine S.zret dX6_readLine_81 rfl (Or.inl rfl) ?_
  exact lnP_no (fun a ha => by rw [fp_up_ne (by omega), fp_up_ne (by omega)]) ((hm.up (by decide) (by decide)).up (by decide) (by decide)) (hi.kept rfl rfl rfl rfl) rfl (flt_refuse (by omega))
end ROW
end
section
/-! A TEXT: line by line, the class -/
def pText (tp : List Int) : Nat → Int → Int → pD → Int ⊕ (Int × pD)
  | 0, _, told, D => .inr (told, D)
  | k + 1, s, told, D => if ¬ tkOk tp (tkS tp s) then .inl (tkS tp s) else if tkK tp (tkS tp s) = 0 then .inr (told, D) else
    match pRow tp (tkS tp s) D with
    | .inl h => .inl h
    | .inr q => pText tp k q.1 (told + 1) q.2
def pD0 : pD := ((0, 0, 10, fun _ => 0, fun _ _ => 0, fun _ => 0), fun _ => 0, fun _ => [], 0, 0, [])
theorem pD0_ok : dOk pD0 := by
  refine ⟨⟨by decide, by decide, by decide, fun t t0 t1 => absurd t1 (by show ¬ t < 0; omega), fun t p t0 t1 => absurd t1 (by show ¬ t < 0; omega), fun x x0 x1 => absurd x1 (by show ¬ x < 0; omega)⟩, fun t t0 t1 => absurd t1 (by show ¬ t < 0; omega), fun x x0 x1 => ⟨by show (0 : Nat) ≤ 8; omega, List.nodup_nil, fun _ => rfl, fun t ht => (List.not_mem_nil ht).elim⟩, fun x y t _ _ _ _ _ ht => (List.not_mem_nil ht).elim, by decide, Or.inl rfl, by show (0 : Nat) ≤ 12; omega, fun v hv => (List.not_mem_nil hv).elim⟩
/-- how the reading of the lines ends -/
def txP (tp : List Int) (M N : fp_Mem) (r : Int ⊕ (Int × pD)) (z : Int) : Prop := fR M N ∧ rdT N tp ∧ rdI N ∧ ((∃ h, r = .inl h ∧ flt N h) ∨ ∃ q, r = .inr q ∧ z = q.1 ∧ N 2 3 = 0 ∧ rdD N q.2 ∧ dOk q.2)
section TXT
variable {l : Launch} {G : fp_WG} {M N : fp_Mem} {tp : List Int} {D : pD} {s : Int}
theorem tx_loop {R : Int ⊕ (Int × pD)} {Q : fp_Q} (ht : tpOk tp) (K : ∀ (N : fp_Mem) (z : Int) (o : Option Value), txP tp M N R z → fp_S l G 8 kX6_readText 99 [some (rV G 2), some (rV G 1), some (iV (tp.length : Int)), some (iV z), o] [] N Q) : ∀ (k : Nat) (s i : Int) (D : pD) (N : fp_Mem), ((tp.length : Int) - s).toNat < k → 0 ≤ i → i ≤ s → s ≤ (tp.length : Int) → fR M N → rdT N tp → N 2 7 = s → N 2 3 = 0 → rdD N D → dOk D → rdI N → pText tp k s i D = R →
    fp_S l G 8 kX6_readText 57 [some (rV G 2), some (rV G 1), some (iV (tp.length : Int)), some (iV i), some (iV i)] [] N Q := by
  intro k
  have hn := ht.1
  induction k with
  | zero => intro s i D N hk; omega
  | succ k ih =>
    intro s i D N hk i0 i1 s1 hf hm h7 h3 hd hD hi hR
    have hS := tkS_le s1
    have hE := tkE_le hS.2
    have hK := tkK_in tp (tkS tp s)
    unfold pText at hR
    refine S.iload (pc' := 59) dX6_readText_57 rfl rfl ?_
    refine S.aload_n (pc' := 60) dX6_readText_59 rfl rfl rfl ?_
    refine S.getI (pc' := 63) dX6_readText_60 rfl fX6_36 L_2 ?_
    rw [hm.2.1]
    refine S.icmp_gt (pc' := 66) (tgt := 99) dX6_readText_63 (by decide) rfl (by unfold fp_rng; omega) (by unfold fp_rng; omega) (fun h63 => ?_) (fun h63 => ?_)
    · first
      | (exfalso; omega)
      | (rcases a5 with b | b; (exfalso; omega); rw [if_pos b.1] at hR; exact K _ _ _ ⟨hf.trans hfr.R, hfr.T hm, hfr.I hi, Or.inl ⟨_, hR.symm, ⟨by omega, by omega⟩, b.2.2.2⟩⟩)
      | (rcases a5 with b | b; rotate_left; (exfalso; omega); rw [if_neg (fun q => q b.1), if_pos h77] at hR; exact K _ _ _ ⟨hf.trans hfr.R, hfr.T hm, hfr.I hi, Or.inr ⟨_, hR.symm, rfl, b.2.2.2.1.trans h3, hfr.D hd, hD⟩⟩)
      | (obtain ⟨f1, f2, f3, f4⟩ := q81; rcases f4 with ⟨h, e1, e2, e3⟩ | ⟨q, e1, e2, e3, e4, e5⟩; rotate_left; (exfalso; omega); rw [e1] at hR; exact K _ _ _ ⟨(hf.trans hfr.R).trans f1, f2, f3, Or.inl ⟨_, hR.symm, e3⟩⟩)
    · refine S.aload_n (pc' := 67) dX6_readText_66 rfl rfl rfl ?_
      refine S.callVi (pc' := 70) dX6_readText_67 rfl cX6_60 (rk_X6_step ht hm h7 (by omega) s1) rfl L_2 (by decide) rfl (Nat.le_of_ble_eq_true rfl) (fun z67 M67 q67 => ?_)
      obtain ⟨a1, a2, a3, a4, a5⟩ := q67
      have hfr : fr2 N M67 := ⟨a1, a2⟩
      refine S.if_eq (pc' := 73) (tgt := 99) dX6_readText_70 (by decide) rfl (by rcases a5 with b | b <;> (unfold fp_rng; omega)) (fun h70 => ?_) (fun h70 => ?_)
      · first
        | (exfalso; omega)
        | (rcases a5 with b | b; (exfalso; omega); rw [if_pos b.1] at hR; exact K _ _ _ ⟨hf.trans hfr.R, hfr.T hm, hfr.I hi, Or.inl ⟨_, hR.symm, ⟨by omega, by omega⟩, b.2.2.2⟩⟩)
        | (rcases a5 with b | b; rotate_left; (exfalso; omega); rw [if_neg (fun q => q b.1), if_pos h77] at hR; exact K _ _ _ ⟨hf.trans hfr.R, hfr.T hm, hfr.I hi, Or.inr ⟨_, hR.symm, rfl, b.2.2.2.1.trans h3, hfr.D hd, hD⟩⟩)
        | (obtain ⟨f1, f2, f3, f4⟩ := q81; rcases f4 with ⟨h, e1, e2, e3⟩ | ⟨q, e1, e2, e3, e4, e5⟩; rotate_left; (exfalso; omega); rw [e1] at hR; exact K _ _ _ ⟨(hf.trans hfr.R).trans f1, f2, f3, Or.inl ⟨_, hR.symm, e3⟩⟩)
      · refine S.aload_n (pc' := 74) dX6_readText_73 rfl rfl rfl ?_
        refine S.getI (pc' := 77) dX6_readText_74 rfl fX6_64 L_2 ?_
        rw [a3]
        refine S.if_eq (pc' := 80) (tgt := 99) dX6_readText_77 (by decide) rfl (by unfold fp_rng; omega) (fun h77 => ?_) (fun h77 => ?_)
        · first
          | (exfalso; omega)
          | (rcases a5 with b | b; (exfalso; omega); rw [if_pos b.1] at hR; exact K _ _ _ ⟨hf.trans hfr.R, hfr.T hm, hfr.I hi, Or.inl ⟨_, hR.symm, ⟨by omega, by omega⟩, b.2.2.2⟩⟩)
          | (rcases a5 with b | b; rotate_left; (exfalso; omega); rw [if_neg (fun q => q b.1), if_pos h77] at hR; exact K _ _ _ ⟨hf.trans hfr.R, hfr.T hm, hfr.I hi, Or.inr ⟨_, hR.symm, rfl, b.2.2.2.1.trans h3, hfr.D hd, hD⟩⟩)
          | (obtain ⟨f1, f2, f3, f4⟩ := q81; rcases f4 with ⟨h, e1, e2, e3⟩ | ⟨q, e1, e2, e3, e4, e5⟩; rotate_left; (exfalso; omega); rw [e1] at hR; exact K _ _ _ ⟨(hf.trans hfr.R).trans f1, f2, f3, Or.inl ⟨_, hR.symm, e3⟩⟩)
        · rcases a5 with ⟨c1, c2, c3, c4, c5⟩ | b
          rotate_left
          · exfalso; omega
          rw [if_neg (fun q => q c1), if_neg h77] at hR
          refine S.aload_n (pc' := 81) dX6_readText_80 rfl rfl rfl ?_
          refine S.callVi (pc' := 84) dX6_readText_81 rfl cX6_67 (rk_X6_readLine (h := tkS tp s) ht (hfr.T hm) ⟨a3, a4, c3, by omega, hS.2⟩ (c4.trans h3) (hfr.D hd) hD (hfr.I hi)) rfl L_2 (by decide) rfl (Nat.le_of_ble_eq_true rfl) (fun z81 M81 q81 => ?_)
          refine S.if_ne (pc' := 87) (tgt := 90) dX6_readText_84 (by decide) rfl (by rcases lnP_z q81 with b | b <;> (unfold fp_rng; omega)) (fun h84 => ?_) (fun h84 => ?_)
          · refine S.iinc (pc' := 93) (LL' := [_, _, _, _, _]) dX6_readText_90 rfl (by decide) rfl rfl rfl ?_
            refine S.iinc (pc' := 96) (LL' := [_, _, _, _, _]) dX6_readText_93 rfl (by decide) rfl rfl rfl ?_
            refine S.goto (pc' := 57) dX6_readText_96 (by decide) ?_
            obtain ⟨f1, f2, f3, f4⟩ := q81
            rcases f4 with ⟨h, e1, e2, e3⟩ | ⟨q, e1, e2, e3, e4, e5⟩
            · exfalso; omega
            · rw [e1] at hR
              obtain ⟨r1, r2, r3⟩ := pRow_ok hS.2 hD e1
              exact ih q.1 (i + 1) q.2 _ (by omega) (by omega) (by omega) r3 ((hf.trans hfr.R).trans f1) f2 e3 e4 e5 r1 f3 hR
          · refine S.goto (pc' := 99) dX6_readText_87 (by decide) ?_
            first
            | (exfalso; omega)
            | (rcases a5 with b | b; (exfalso; omega); rw [if_pos b.1] at hR; exact K _ _ _ ⟨hf.trans hfr.R, hfr.T hm, hfr.I hi, Or.inl ⟨_, hR.symm, ⟨by omega, by omega⟩, b.2.2.2⟩⟩)
            | (rcases a5 with b | b; rotate_left; (exfalso; omega); rw [if_neg (fun q => q b.1), if_pos h77] at hR; exact K _ _ _ ⟨hf.trans hfr.R, hfr.T hm, hfr.I hi, Or.inr ⟨_, hR.symm, rfl, b.2.2.2.1.trans h3, hfr.D hd, hD⟩⟩)
            | (obtain ⟨f1, f2, f3, f4⟩ := q81; rcases f4 with ⟨h, e1, e2, e3⟩ | ⟨q, e1, e2, e3, e4, e5⟩; rotate_left; (exfalso; omega); rw [e1] at hR; exact K _ _ _ ⟨(hf.trans hfr.R).trans f1, f2, f3, Or.inl ⟨_, hR.symm, e3⟩⟩)
end TXT
end
section
/-! BEHIND ALL: are the THINGS and LINES there; the class -/
def stOk (D : pD) : Prop := (∀ x t, 0 ≤ x → x < 3 → t ∈ D.2.2.1 x → t < D.1.1) ∧ ∀ v ∈ D.2.2.2.2.2, (v.2.2.2 = -4 ∨ v.2.2.2 < D.1.1) ∧ v.2.2.1 < D.1.2.1
def seF (M N : fp_Mem) : Prop := (∀ a, a ≠ 2 → a ≠ 8 → a ≠ 9 → N a = M a) ∧ ∀ j, j ≠ 3 → j ≠ 4 → N 2 j = M 2 j
theorem seF.refl (M : fp_Mem) : seF M M := ⟨fun _ _ _ _ => rfl, fun _ _ _ => rfl⟩
section SET
variable {l : Launch} {G : fp_WG} {M N : fp_Mem} {tp : List Int} {D : pD}
theorem seF.refuse {w x : Int} (h : seF M N) : seF M (fp_up (fp_up N 2 3 w) 2 4 x) := by
  refine ⟨fun a q2 q8 q9 => by rw [fp_up_ne q2, fp_up_ne q2]; exact h.1 a q2 q8 q9, fun j q3 q4 => ?_⟩
  rw [fp_up_at, fp_upf_ne q4, fp_up_at, fp_upf_ne q3]
  exact h.2 j q3 q4
theorem seF.set {t v w : Int} (h : seF M N) : seF M (fp_up (fp_up N 9 t.toNat v) 8 t.toNat w) := ⟨fun a q2 q8 q9 => by rw [fp_up_ne q8, fp_up_ne q9]; exact h.1 a q2 q8 q9, fun j q3 q4 => by rw [fp_up_ne (by decide), fp_up_ne (by decide)]; exact h.2 j q3 q4⟩
theorem rk_X6_settleThing {t x n : Int} (ht : 0 ≤ t ∧ t < 10) (hx : 0 ≤ x ∧ x < 3) (h0 : M 3 0 = n) (hn : 0 ≤ n ∧ n ≤ 10) : fp_Ok l G 1 kX6_settleThing [rV G 2, iV t, iV x] M (qV fun N => (t < n ∧ N = fp_up (fp_up M 9 t.toNat (M 8 t.toNat)) 8 t.toNat (10 + x)) ∨ (¬ t < n ∧ N = fp_up (fp_up M 2 3 6) 2 4 (M 2 6))) := by
  refine fp_Ok.of (r := 0) rfl (Nat.le_of_ble_eq_true rfl) rfl ?_
  have hok := (ok_X1_hasThing (l := l) (G := G) (M := M) (t := t) gd3 (by unfold fp_rng; omega) (by rw [h0]; unfold fp_rng; omega))
  rw [h0] at hok
  by_cases hc : t < n
  · rw [if_pos (by omega)] at hok
    refine S.aload_n (pc' := 1) dX6_settleThing_0 rfl rfl rfl ?_
    refine S.getR (pc' := 4) dX6_settleThing_1 rfl fX6_12 L_2 rf_2_0 ?_
    refine S.iload_n (pc' := 5) dX6_settleThing_4 rfl rfl rfl ?_
    refine S.callVe (pc' := 8) dX6_settleThing_5 rfl cX6_190 hok rfl (gd_lay gd3) (by decide) rfl (Nat.le_of_ble_eq_true rfl) ?_
    refine S.if_ne (pc' := 11) (tgt := 23) dX6_settleThing_8 (by decide) rfl (by unfold fp_rng; omega) (fun h8 => ?_) (fun h8 => ?_)
    · refine S.aload_n (pc' := 24) dX6_settleThing_23 rfl rfl rfl ?_
      refine S.getR (pc' := 27) dX6_settleThing_24 rfl fX6_21 L_2 rf_2_1 ?_
      refine S.getR (pc' := 30) dX6_settleThing_27 rfl fX6_199 (pl_lay pl7) (pl_r1 pl7) ?_
      refine S.iload_n (pc' := 31) dX6_settleThing_30 rfl rfl rfl ?_
      refine S.aload_n (pc' := 32) dX6_settleThing_31 rfl rfl rfl ?_
      refine S.getR (pc' := 35) dX6_settleThing_32 rfl fX6_21 L_2 rf_2_1 ?_
      refine S.getR (pc' := 38) dX6_settleThing_35 rfl fX6_135 (pl_lay pl7) (pl_r0 pl7) ?_
      refine S.iload_n (pc' := 39) dX6_settleThing_38 rfl rfl rfl ?_
      refine S.iald (pc' := 40) dX6_settleThing_39 rfl (pl_a0 pl7) (by omega) (by omega) ?_
      refine S.iast (pc' := 41) dX6_settleThing_40 rfl (pl_a1 pl7) (by omega) (by omega) ?_
      refine S.aload_n (pc' := 42) dX6_settleThing_41 rfl rfl rfl ?_
      refine S.getR (pc' := 45) dX6_settleThing_42 rfl fX6_21 L_2 rf_2_1 ?_
      refine S.getR (pc' := 48) dX6_settleThing_45 rfl fX6_135 (pl_lay pl7) (pl_r0 pl7) ?_
      refine S.iload_n (pc' := 49) dX6_settleThing_48 rfl rfl rfl ?_
      refine S.bipush (pc' := 51) dX6_settleThing_49 rfl (by decide) ?_
      refine S.iload_n (pc' := 52) dX6_settleThing_51 rfl rfl rfl ?_
      refine S.iadd (pc' := 53) dX6_settleThing_52 rfl ?_
      refine S.iast (pc' := 54) dX6_settleThing_53 rfl (pl_a0 pl7) (by omega) (by omega) ?_
      refine S.vret dX6_settleThing_54 rfl ?_
      exact Or.inl ⟨hc, rfl⟩
    · exact absurd h8 (by decide)
  · rw [if_neg (by omega)] at hok
    refine S.aload_n (pc' := 1) dX6_settleThing_0 rfl rfl rfl ?_
    refine S.getR (pc' := 4) dX6_settleThing_1 rfl fX6_12 L_2 rf_2_0 ?_
    refine S.iload_n (pc' := 5) dX6_settleThing_4 rfl rfl rfl ?_
    refine S.callVe (pc' := 8) dX6_settleThing_5 rfl cX6_190 hok rfl (gd_lay gd3) (by decide) rfl (Nat.le_of_ble_eq_true rfl) ?_
    refine S.if_ne (pc' := 11) (tgt := 23) dX6_settleThing_8 (by decide) rfl (by unfold fp_rng; omega) (fun h8 => ?_) (fun h8 => ?_)
    · exact absurd rfl h8
    · refine S.aload_n (pc' := 12) dX6_settleThing_11 rfl rfl rfl ?_
      refine S.bipush (pc' := 14) dX6_settleThing_12 rfl (by decide) ?_
      refine S.aload_n (pc' := 15) dX6_settleThing_14 rfl rfl rfl ?_
      refine S.getI (pc' := 18) dX6_settleThing_15 rfl fX6_36 L_2 ?_
      refine S.callVe (pc' := 21) dX6_settleThing_18 rfl cX6_89 ok_X6_refuse rfl L_2 (by decide) rfl (Nat.le_of_ble_eq_true rfl) ?_
      refine S.pop (pc' := 22) dX6_settleThing_21 rfl rfl ?_
      refine S.vret dX6_settleThing_22 rfl ?_
      exact Or.inr ⟨hc, rfl⟩
/-- rows in which the first i of LINE x, and all of those before it, are settled -/
def seR (D : pD) (M N : fp_Mem) (x i : Int) : Prop := (∀ y t, 0 ≤ y → y < x → t ∈ D.2.2.1 y → t < D.1.1 ∧ N 8 t.toNat = 10 + y ∧ N 9 t.toNat = D.2.1 t) ∧ (∀ t ∈ (D.2.2.1 x).take i.toNat, t < D.1.1 ∧ N 8 t.toNat = 10 + x ∧ N 9 t.toNat = D.2.1 t) ∧ ∀ t : Int, 0 ≤ t → t < 10 → (∀ y, 0 ≤ y → y < x → t ∉ D.2.2.1 y) → t ∉ (D.2.2.1 x).take i.toNat → N 8 t.toNat = M 8 t.toNat ∧ N 9 t.toNat = -4
def seI (tp : List Int) (D : pD) (M N : fp_Mem) (x i : Int) : Prop := seF M N ∧ ((N 2 3 = 0 ∧ seR D M N x i) ∨ ((∃ y t, (0 ≤ y ∧ y < 3) ∧ t ∈ D.2.2.1 y ∧ ¬ t < D.1.1) ∧ flt N (tp.length : Int)))
theorem take_mem {L : List Int} {i : Nat} {t : Int} (h : i < L.length) : t ∈ L.take (i + 1) ↔ (t ∈ L.take i ∨ t = L.getD i 0) := by
  rw [List.take_add_one, List.mem_append, List.getElem?_eq_getElem h, List.getD_eq_getElem?_getD, List.getElem?_eq_getElem h]
  show (t ∈ L.take i ∨ t ∈ [L[i]]) ↔ (t ∈ L.take i ∨ t = L[i])
  rw [List.mem_singleton]
theorem take_not {L : List Int} {i : Nat} (hn : L.Nodup) (h : i < L.length) : L.getD i 0 ∉ L.take i := by
  intro hm
  rw [List.getD_eq_getElem?_getD, List.getElem?_eq_getElem h] at hm
  have hm : L[i] ∈ L.take i := hm
  obtain ⟨j, hj, e⟩ := List.getElem_of_mem hm
  rw [List.length_take] at hj
  have hj2 : j < L.length := by omega
  rw [List.getElem_take] at e
  exact (List.pairwise_iff_getElem.mp hn j i hj2 h (by omega)) e
theorem seI_next {x : Int} (hx : 0 ≤ x) (h : seI tp D M N x ((D.2.2.1 x).length : Int)) : seI tp D M N (x + 1) 0 := by
  obtain ⟨hf, hc⟩ := h
  refine ⟨hf, ?_⟩
  rcases hc with ⟨c1, r1, r2, r3⟩ | hc
  · rw [Int.toNat_natCast, List.take_length] at r2 r3
    refine Or.inl ⟨c1, fun y t y0 y1 hy => ?_, fun t ht => ?_, fun t t0 t1 hn1 hn2 => ?_⟩
    · by_cases e : y = x
      · subst e; exact r2 t hy
      · exact r1 y t y0 (by omega) hy
    · simp at ht
    · exact r3 t t0 t1 (fun y y0 y1 => hn1 y y0 (by omega)) (hn1 x hx (by omega))
  · exact Or.inr hc
theorem seI_step {x i : Int} {O : fp_Mem} (hd : rdD M D) (hD : dOk D) (hx : 0 ≤ x ∧ x < 3) (hi : 0 ≤ i) (hl : i < ((D.2.2.1 x).length : Int)) (h : seI tp D M N x i) (h6 : N 2 6 = (tp.length : Int))
    (q : ((D.2.2.1 x).getD i.toNat 0 < D.1.1 ∧ O = fp_up (fp_up N 9 ((D.2.2.1 x).getD i.toNat 0).toNat (N 8 ((D.2.2.1 x).getD i.toNat 0).toNat)) 8 ((D.2.2.1 x).getD i.toNat 0).toNat (10 + x)) ∨ (¬ (D.2.2.1 x).getD i.toNat 0 < D.1.1 ∧ O = fp_up (fp_up N 2 3 6) 2 4 (N 2 6))) : seI tp D M O x (i + 1) := by
  have hlt : i.toNat < (D.2.2.1 x).length := by omega
  have hmem : (D.2.2.1 x).getD i.toNat 0 ∈ D.2.2.1 x := by
    rw [List.getD_eq_getElem?_getD, List.getElem?_eq_getElem hlt]
    exact List.getElem_mem _
  have hnt := take_not (hD.2.2.1 x hx.1 hx.2).2.1 hlt
  have htk : ∀ t, t ∈ (D.2.2.1 x).take (i + 1).toNat ↔ (t ∈ (D.2.2.1 x).take i.toNat ∨ t = (D.2.2.1 x).getD i.toNat 0) := by
    intro t
    rw [show (i + 1).toNat = i.toNat + 1 by omega]
    exact take_mem hlt
  have hrg := ((hD.2.2.1 x hx.1 hx.2).2.2.2 _ hmem).1
  have hby : ∀ y, 0 ≤ y → y < x → (D.2.2.1 x).getD i.toNat 0 ∉ D.2.2.1 y := fun y y0 y1 hy => hD.2.2.2.1 y x _ y0 (by omega) hx.1 hx.2 (by omega) hy hmem
  generalize he : (D.2.2.1 x).getD i.toNat 0 = t0 at *
  obtain ⟨hf, hc⟩ := h
  rcases q with ⟨q1, rfl⟩ | ⟨q1, rfl⟩
  · refine ⟨hf.set, ?_⟩
    rcases hc with ⟨c1, r1, r2, r3⟩ | ⟨c1, c2⟩
    · refine Or.inl ⟨c1, fun y t y0 y1 hy => ?_, fun t htt => ?_, fun t t0' t1' hn1 hn2 => ?_⟩
      · have hne : t ≠ t0 := fun e => hby y y0 y1 (e ▸ hy)
        have ht := ((hD.2.2.1 y y0 (by omega)).2.2.2 t hy).1
        obtain ⟨k1, k2, k3⟩ := r1 y t y0 y1 hy
        rw [fp_up_at, fp_upf_ne (by omega), fp_up_ne (by decide), fp_up_ne (by decide), fp_up_at, fp_upf_ne (by omega)]
        exact ⟨k1, k2, k3⟩
      · rcases (htk t).mp htt with ht | ht
        · have hne : t ≠ t0 := fun e => hnt (e ▸ ht)
          have hmt := ((hD.2.2.1 x hx.1 hx.2).2.2.2 t (List.mem_of_mem_take ht)).1
          obtain ⟨k1, k2, k3⟩ := r2 t ht
          rw [fp_up_at, fp_upf_ne (by omega), fp_up_ne (by decide), fp_up_ne (by decide), fp_up_at, fp_upf_ne (by omega)]
          exact ⟨k1, k2, k3⟩
        · subst ht
          obtain ⟨k1, k2⟩ := r3 t hrg.1 hrg.2 hby hnt
          rw [fp_up_at, fp_upf_at, fp_up_ne (by decide), fp_up_at, fp_upf_at, k1]
          exact ⟨q1, rfl, hd.2.1.1 t hrg.1 q1⟩
      · have hn3 : t ∉ (D.2.2.1 x).take i.toNat := fun z => hn2 ((htk t).mpr (Or.inl z))
        have hne : t ≠ t0 := fun z => hn2 ((htk t).mpr (Or.inr z))
        rw [fp_up_at, fp_upf_ne (by omega), fp_up_ne (by decide), fp_up_ne (by decide), fp_up_at, fp_upf_ne (by omega)]
        exact r3 t t0' t1' hn1 hn3
    · exact Or.inr ⟨c1, c2⟩
  · exact ⟨hf.refuse, Or.inr ⟨⟨x, t0, hx, hmem, q1⟩, by rw [h6]; exact flt_refuse (by omega)⟩⟩
theorem se_in {Q : fp_Q} {x : Int} (hm : rdT M tp) (hd : rdD M D) (hD : dOk D) (hx : 0 ≤ x ∧ x < 3) (hxl : x < D.1.2.1) (K : ∀ N : fp_Mem, seI tp D M N x ((D.2.2.1 x).length : Int) → fp_S l G 2 kX6_settle 53 [some (rV G 2), some (iV x), some (iV ((D.2.2.1 x).length : Int))] [] N Q) : ∀ (k : Nat) (i : Int) (N : fp_Mem), (((D.2.2.1 x).length : Int) - i).toNat = k → 0 ≤ i → i ≤ ((D.2.2.1 x).length : Int) → seI tp D M N x i →
    fp_S l G 2 kX6_settle 15 [some (rV G 2), some (iV x), some (iV i)] [] N Q := by
  obtain ⟨p4, p5⟩ := hd.2.1.2.2.2 x hx.1 hx.2
  have hl8 := (hD.2.2.1 x hx.1 hx.2).1
  have hg1 := hD.1.1
  intro k
  induction k with
  | zero =>
    intro i N hk i0 i1 hI
    have : i = ((D.2.2.1 x).length : Int) := by omega
    subst this
    have e10 : N 10 x.toNat = ((D.2.2.1 x).length : Int) := by rw [hI.1.1 10 (by decide) (by decide) (by decide)]; exact p4
    refine S.iload_n (pc' := 16) dX6_settle_15 rfl rfl rfl ?_
    refine S.aload_n (pc' := 17) dX6_settle_16 rfl rfl rfl ?_
    refine S.getR (pc' := 20) dX6_settle_17 rfl fX6_21 L_2 rf_2_1 ?_
    refine S.getR (pc' := 23) dX6_settle_20 rfl fX6_166 (pl_lay pl7) (pl_r2 pl7) ?_
    refine S.iload_n (pc' := 24) dX6_settle_23 rfl rfl rfl ?_
    refine S.iald (pc' := 25) dX6_settle_24 rfl (pl_a2 pl7) (by omega) (by omega) ?_
    rw [e10]
    refine S.icmp_ge (pc' := 28) (tgt := 53) dX6_settle_25 (by decide) rfl (by unfold fp_rng; omega) (by unfold fp_rng; omega) (fun h25 => ?_) (fun h25 => ?_)
    · exact K N hI
    · exfalso; omega
  | succ k ih =>
    intro i N hk i0 i1 hI
    have e10 : N 10 x.toNat = ((D.2.2.1 x).length : Int) := by rw [hI.1.1 10 (by decide) (by decide) (by decide)]; exact p4
    have e11 : N 11 (x * 8 + i).toNat = (D.2.2.1 x).getD i.toNat 0 := by rw [hI.1.1 11 (by decide) (by decide) (by decide)]; exact p5 i i0 (by omega)
    have e30 : N 3 0 = D.1.1 := by rw [hI.1.1 3 (by decide) (by decide) (by decide)]; exact hd.1.1
    have hmem : (D.2.2.1 x).getD i.toNat 0 ∈ D.2.2.1 x := by
      rw [List.getD_eq_getElem?_getD, List.getElem?_eq_getElem (by omega)]
      exact List.getElem_mem _
    have hrg := ((hD.2.2.1 x hx.1 hx.2).2.2.2 _ hmem).1
    refine S.iload_n (pc' := 16) dX6_settle_15 rfl rfl rfl ?_
    refine S.aload_n (pc' := 17) dX6_settle_16 rfl rfl rfl ?_
    refine S.getR (pc' := 20) dX6_settle_17 rfl fX6_21 L_2 rf_2_1 ?_
    refine S.getR (pc' := 23) dX6_settle_20 rfl fX6_166 (pl_lay pl7) (pl_r2 pl7) ?_
    refine S.iload_n (pc' := 24) dX6_settle_23 rfl rfl rfl ?_
    refine S.iald (pc' := 25) dX6_settle_24 rfl (pl_a2 pl7) (by omega) (by omega) ?_
    rw [e10]
    refine S.icmp_ge (pc' := 28) (tgt := 53) dX6_settle_25 (by decide) rfl (by unfold fp_rng; omega) (by unfold fp_rng; omega) (fun h25 => ?_) (fun h25 => ?_)
    · exfalso; omega
    · refine S.aload_n (pc' := 29) dX6_settle_28 rfl rfl rfl ?_
      refine S.aload_n (pc' := 30) dX6_settle_29 rfl rfl rfl ?_
      refine S.getR (pc' := 33) dX6_settle_30 rfl fX6_21 L_2 rf_2_1 ?_
      refine S.getR (pc' := 36) dX6_settle_33 rfl fX6_168 (pl_lay pl7) (pl_r3 pl7) ?_
      refine S.iload_n (pc' := 37) dX6_settle_36 rfl rfl rfl ?_
      refine S.bipush (pc' := 39) dX6_settle_37 rfl (by decide) ?_
      refine S.imul (pc' := 40) dX6_settle_39 rfl ?_
      refine S.iload_n (pc' := 41) dX6_settle_40 rfl rfl rfl ?_
      refine S.iadd (pc' := 42) dX6_settle_41 rfl ?_
      refine S.iald (pc' := 43) dX6_settle_42 rfl (pl_a3 pl7) (by omega) (by omega) ?_
      rw [e11]
      refine S.iload_n (pc' := 44) dX6_settle_43 rfl rfl rfl ?_
      refine S.callVv (pc' := 47) dX6_settle_44 rfl cX6_180 (rk_X6_settleThing hrg hx e30 hg1) rfl L_2 (by decide) rfl (Nat.le_of_ble_eq_true rfl) (fun M44 q44 => ?_)
      refine S.iinc (pc' := 50) (LL' := [_, _, _]) dX6_settle_47 rfl (by decide) rfl rfl rfl ?_
      refine S.goto (pc' := 15) dX6_settle_50 (by decide) ?_
      exact ih (i + 1) _ (by omega) (by omega) (by omega) (seI_step hd hD hx i0 (by omega) hI (by rw [hI.1.2 6 (by decide) (by decide)]; exact hm.2.1) q44)
theorem se_53 {Q : fp_Q} {x : Int} {o : Option Value} (K : fp_S l G 2 kX6_settle 2 [some (rV G 2), some (iV (x + 1)), o] [] N Q) : fp_S l G 2 kX6_settle 53 [some (rV G 2), some (iV x), o] [] N Q := by
  refine S.iinc (pc' := 56) (LL' := [_, _, _]) dX6_settle_53 rfl (by decide) rfl rfl rfl ?_
  refine S.goto (pc' := 2) dX6_settle_56 (by decide) ?_
  exact K
theorem se_out {Q : fp_Q} (hm : rdT M tp) (hd : rdD M D) (hD : dOk D) (K : ∀ (N : fp_Mem) (o : Option Value), seI tp D M N D.1.2.1 0 → fp_S l G 2 kX6_settle 59 [some (rV G 2), some (iV D.1.2.1), o] [] N Q) : ∀ (k : Nat) (x : Int) (N : fp_Mem) (o : Option Value), (D.1.2.1 - x).toNat = k → 0 ≤ x → x ≤ D.1.2.1 → seI tp D M N x 0 →
    fp_S l G 2 kX6_settle 2 [some (rV G 2), some (iV x), o] [] N Q := by
  have hg2 := hD.1.2.1
  intro k
  induction k with
  | zero =>
    intro x N o hk x0 x1 hI
    have : x = D.1.2.1 := by omega
    subst this
    have e31 : N 3 1 = D.1.2.1 := by rw [hI.1.1 3 (by decide) (by decide) (by decide)]; exact hd.1.2.1
    refine S.iload_n (pc' := 3) dX6_settle_2 rfl rfl rfl ?_
    refine S.aload_n (pc' := 4) dX6_settle_3 rfl rfl rfl ?_
    refine S.getR (pc' := 7) dX6_settle_4 rfl fX6_12 L_2 rf_2_0 ?_
    refine S.getI (pc' := 10) dX6_settle_7 rfl fX6_154 (gd_lay gd3) ?_
    rw [e31]
    refine S.icmp_ge (pc' := 13) (tgt := 59) dX6_settle_10 (by decide) rfl (by unfold fp_rng; omega) (by unfold fp_rng; omega) (fun h10 => ?_) (fun h10 => ?_)
    · exact K N _ hI
    · exfalso; omega
  | succ k ih =>
    intro x N o hk x0 x1 hI
    have e31 : N 3 1 = D.1.2.1 := by rw [hI.1.1 3 (by decide) (by decide) (by decide)]; exact hd.1.2.1
    refine S.iload_n (pc' := 3) dX6_settle_2 rfl rfl rfl ?_
    refine S.aload_n (pc' := 4) dX6_settle_3 rfl rfl rfl ?_
    refine S.getR (pc' := 7) dX6_settle_4 rfl fX6_12 L_2 rf_2_0 ?_
    refine S.getI (pc' := 10) dX6_settle_7 rfl fX6_154 (gd_lay gd3) ?_
    rw [e31]
    refine S.icmp_ge (pc' := 13) (tgt := 59) dX6_settle_10 (by decide) rfl (by unfold fp_rng; omega) (by unfold fp_rng; omega) (fun h10 => ?_) (fun h10 => ?_)
    · exfalso; omega
    · refine S.iconst (pc' := 14) dX6_settle_13 rfl ?_
      refine S.istore_n (pc' := 15) (LL' := [_, _, _]) dX6_settle_14 rfl (by decide) rfl rfl rfl ?_
      exact se_in hm hd hD (by omega) (by omega) (fun O hO => se_53 (ih (x + 1) O _ (by omega) (by omega) (by omega) (seI_next x0 hO))) _ 0 _ rfl (by omega) (by omega) hI
end SET
end
section
/-! BEHIND ALL: the VISITS; the whole text, the class -/
def vt2 (D : pD) (v : aVt) : Prop := (v.2.2.2 = -4 ∨ v.2.2.2 < D.1.1) ∧ v.2.2.1 < D.1.2.1
section SE2
variable {l : Launch} {G : fp_WG} {M N A : fp_Mem} {tp : List Int} {D : pD}
def svI (tp : List Int) (D : pD) (P : Prop) (A N : fp_Mem) (i : Int) : Prop := (∀ a, a ≠ 2 → N a = A a) ∧ (∀ j, j ≠ 3 → j ≠ 4 → N 2 j = A 2 j) ∧ ((P ∧ N 2 3 = 0 ∧ ∀ j : Int, 0 ≤ j → j < i → vt2 D (D.2.2.2.2.2.getD j.toNat aV0)) ∨ (¬ stOk D ∧ flt N (tp.length : Int)))
theorem svI_bad {P : Prop} {i : Int} (h : svI tp D P A N i) (hi : 0 ≤ i) (hl : i < (D.2.2.2.2.2.length : Int)) (hb : ¬ vt2 D (D.2.2.2.2.2.getD i.toNat aV0)) : svI tp D P A (fp_up (fp_up N 2 3 6) 2 4 (tp.length : Int)) (i + 1) := by
  obtain ⟨h1, h2, h3⟩ := h
  refine ⟨fun a ha => by rw [fp_up_ne ha, fp_up_ne ha]; exact h1 a ha, fun j q3 q4 => by rw [fp_up_at, fp_upf_ne q4, fp_up_at, fp_upf_ne q3]; exact h2 j q3 q4, Or.inr ⟨fun s => hb (s.2 _ ?_), flt_refuse (by omega)⟩⟩
  rw [List.getD_eq_getElem?_getD, List.getElem?_eq_getElem (by omega)]
  exact List.getElem_mem _
theorem svI_good {P : Prop} {i : Int} (h : svI tp D P A N i) (hb : vt2 D (D.2.2.2.2.2.getD i.toNat aV0)) : svI tp D P A N (i + 1) := by
  obtain ⟨h1, h2, h3⟩ := h
  refine ⟨h1, h2, ?_⟩
  rcases h3 with ⟨k1, k2, k3⟩ | h3
  · refine Or.inl ⟨k1, k2, fun j j0 j1 => ?_⟩
    by_cases e : j = i
    · subst e; exact hb
    · exact k3 j j0 (by omega)
  · exact Or.inr h3
theorem sv_loop {P : Prop} (hA3 : A 3 0 = D.1.1 ∧ A 3 1 = D.1.2.1) (hA6 : A 2 6 = (tp.length : Int)) (hv : vsIs A 12 D.2.2.2.2.2) (hD : dOk D) : ∀ (k : Nat) (i : Int) (N : fp_Mem) (o : Option Value), ((D.2.2.2.2.2.length : Int) - i).toNat = k → 0 ≤ i → i ≤ (D.2.2.2.2.2.length : Int) → svI tp D P A N i →
    fp_S l G 2 kX6_settle 61 [some (rV G 2), some (iV i), o] [] N (qV fun O => svI tp D P A O (D.2.2.2.2.2.length : Int)) := by
  have hg1 := hD.1.1
  have hg2 := hD.1.2.1
  have hvl := hD.2.2.2.2.2.2.1
  obtain ⟨v1, v2, v3⟩ := hv
  intro k
  induction k with
  | zero =>
    intro i N o hk i0 i1 hI
    have : i = (D.2.2.2.2.2.length : Int) := by omega
    subst this
    have e12 : N 12 0 = (D.2.2.2.2.2.length : Int) := by rw [hI.1 12 (by decide)]; exact v1
    refine S.iload_n (pc' := 62) dX6_settle_61 rfl rfl rfl ?_
    refine S.aload_n (pc' := 63) dX6_settle_62 rfl rfl rfl ?_
    refine S.getR (pc' := 66) dX6_settle_63 rfl fX6_28 L_2 rf_2_2 ?_
    refine S.getI (pc' := 69) dX6_settle_66 rfl fX6_57 (vs_lay vs12) ?_
    rw [e12]
    refine S.icmp_ge (pc' := 72) (tgt := 148) dX6_settle_69 (by decide) rfl (by unfold fp_rng; omega) (by unfold fp_rng; omega) (fun h69 => ?_) (fun h69 => ?_)
    · refine S.vret dX6_settle_148 rfl ?_
      exact hI
    · exfalso; omega
  | succ k ih =>
    intro i N o hk i0 i1 hI
    have e12 : N 12 0 = (D.2.2.2.2.2.length : Int) := by rw [hI.1 12 (by decide)]; exact v1
    obtain ⟨u1, u2, u3, u4⟩ := v3 i i0 (by omega)
    have hmem : D.2.2.2.2.2.getD i.toNat aV0 ∈ D.2.2.2.2.2 := by
      rw [List.getD_eq_getElem?_getD, List.getElem?_eq_getElem (by omega)]
      exact List.getElem_mem _
    have hvt := hD.2.2.2.2.2.2.2 _ hmem
    generalize hw : D.2.2.2.2.2.getD i.toNat aV0 = v at *
    have e16 : N 16 i.toNat = v.2.2.2 := by rw [hI.1 16 (by decide)]; exact u4
    have e15 : N 15 i.toNat = v.2.2.1 := by rw [hI.1 15 (by decide)]; exact u3
    have e30 : N 3 0 = D.1.1 := by rw [hI.1 3 (by decide)]; exact hA3.1
    have e31 : N 3 1 = D.1.2.1 := by rw [hI.1 3 (by decide)]; exact hA3.2
    have e26 : N 2 6 = (tp.length : Int) := by rw [hI.2.1 6 (by decide) (by decide)]; exact hA6
    obtain ⟨t1, t2, t3, t4⟩ := hvt
    have hisd := ok_X10_isDraw (l := l) (G := G) (M := N) (kv := 12) (i := i) vs12 (by omega) (by rw [e16]; unfold fp_rng; omega)
    rw [show N (12 + 4) i.toNat = v.2.2.2 from e16] at hisd
    have hth := ok_X1_hasThing (l := l) (G := G) (M := N) (t := v.2.2.2) gd3 (by unfold fp_rng; omega) (by rw [e30]; unfold fp_rng; omega)
    rw [e30] at hth
    have hli := ok_X1_hasLine (l := l) (G := G) (M := N) (t := v.2.2.1) gd3 (by unfold fp_rng; omega) (by rw [e31]; unfold fp_rng; omega)
    rw [e31] at hli
    have hgood : vt2 D v → svI tp D P A N (i + 1) := fun hb => svI_good hI (by rw [hw]; exact hb)
    have hbad : ¬ vt2 D v → svI tp D P A (fp_up (fp_up N 2 3 6) 2 4 (tp.length : Int)) (i + 1) := fun hb => svI_bad hI i0 (by omega) (by rw [hw]; exact hb)
    by_cases hl2 : v.2.2.1 < D.1.2.1
    · rw [if_pos (by omega)] at hli
      by_cases ht4 : v.2.2.2 = -4
      · rw [if_pos ht4] at hisd
        refine S.iload_n (pc' := 62) dX6_settle_61 rfl rfl rfl ?_
        refine S.aload_n (pc' := 63) dX6_settle_62 rfl rfl rfl ?_
        refine S.getR (pc' := 66) dX6_settle_63 rfl fX6_28 L_2 rf_2_2 ?_
        refine S.getI (pc' := 69) dX6_settle_66 rfl fX6_57 (vs_lay vs12) ?_
        rw [e12]
        refine S.icmp_ge (pc' := 72) (tgt := 148) dX6_settle_69 (by decide) rfl (by unfold fp_rng; omega) (by unfold fp_rng; omega) (fun h69 => ?_) (fun h69 => ?_)
        · exfalso; omega
        · refine S.aload_n (pc' := 73) dX6_settle_72 rfl rfl rfl ?_
          refine S.getR (pc' := 76) dX6_settle_73 rfl fX6_28 L_2 rf_2_2 ?_
          refine S.iload_n (pc' := 77) dX6_settle_76 rfl rfl rfl ?_
          refine S.callVe (pc' := 80) dX6_settle_77 rfl cX6_184 hisd rfl (vs_lay vs12) (by decide) rfl (Nat.le_of_ble_eq_true rfl) ?_
          refine S.if_ne (pc' := 83) (tgt := 102) dX6_settle_80 (by decide) rfl (by unfold fp_rng; omega) (fun h80 => ?_) (fun h80 => ?_)
          · refine S.iconst (pc' := 103) dX6_settle_102 rfl ?_
            refine S.goto (pc' := 107) dX6_settle_103 (by decide) ?_
            refine S.istore_n (pc' := 108) (LL' := [_, _, _]) dX6_settle_107 rfl (by decide) rfl rfl rfl ?_
            refine S.iload_n (pc' := 109) dX6_settle_108 rfl rfl rfl ?_
            refine S.if_eq (pc' := 112) (tgt := 131) dX6_settle_109 (by decide) rfl (by unfold fp_rng; omega) (fun h109 => ?_) (fun h109 => ?_)
            · first | exact absurd h109 (by decide) | exact absurd h128 (by decide) | (exfalso; omega)
            · refine S.aload_n (pc' := 113) dX6_settle_112 rfl rfl rfl ?_
              refine S.getR (pc' := 116) dX6_settle_113 rfl fX6_12 L_2 rf_2_0 ?_
              refine S.aload_n (pc' := 117) dX6_settle_116 rfl rfl rfl ?_
              refine S.getR (pc' := 120) dX6_settle_117 rfl fX6_28 L_2 rf_2_2 ?_
              refine S.getR (pc' := 123) dX6_settle_120 rfl fX6_193 (vs_lay vs12) (vs_r3 vs12) ?_
              refine S.iload_n (pc' := 124) dX6_settle_123 rfl rfl rfl ?_
              refine S.iald (pc' := 125) dX6_settle_124 rfl (vs_a3 vs12) (by omega) (by omega) ?_
              rw [e15]
              refine S.callVe (pc' := 128) dX6_settle_125 rfl cX6_196 hli rfl (gd_lay gd3) (by decide) rfl (Nat.le_of_ble_eq_true rfl) ?_
              refine S.if_ne (pc' := 131) (tgt := 142) dX6_settle_128 (by decide) rfl (by unfold fp_rng; omega) (fun h128 => ?_) (fun h128 => ?_)
              · refine S.iinc (pc' := 145) (LL' := [_, _, _]) dX6_settle_142 rfl (by decide) rfl rfl rfl ?_
                refine S.goto (pc' := 61) dX6_settle_145 (by decide) ?_
                exact ih (i + 1) _ _ (by omega) (by omega) (by omega) (hgood ⟨Or.inl ht4, hl2⟩)
              · first | exact absurd h109 (by decide) | exact absurd h128 (by decide) | (exfalso; omega)
          · exact absurd h80 (by decide)
      · rw [if_neg ht4] at hisd
        by_cases htg : v.2.2.2 < D.1.1
        · rw [if_pos (by omega)] at hth
          refine S.iload_n (pc' := 62) dX6_settle_61 rfl rfl rfl ?_
          refine S.aload_n (pc' := 63) dX6_settle_62 rfl rfl rfl ?_
          refine S.getR (pc' := 66) dX6_settle_63 rfl fX6_28 L_2 rf_2_2 ?_
          refine S.getI (pc' := 69) dX6_settle_66 rfl fX6_57 (vs_lay vs12) ?_
          rw [e12]
          refine S.icmp_ge (pc' := 72) (tgt := 148) dX6_settle_69 (by decide) rfl (by unfold fp_rng; omega) (by unfold fp_rng; omega) (fun h69 => ?_) (fun h69 => ?_)
          · exfalso; omega
          · refine S.aload_n (pc' := 73) dX6_settle_72 rfl rfl rfl ?_
            refine S.getR (pc' := 76) dX6_settle_73 rfl fX6_28 L_2 rf_2_2 ?_
            refine S.iload_n (pc' := 77) dX6_settle_76 rfl rfl rfl ?_
            refine S.callVe (pc' := 80) dX6_settle_77 rfl cX6_184 hisd rfl (vs_lay vs12) (by decide) rfl (Nat.le_of_ble_eq_true rfl) ?_
            refine S.if_ne (pc' := 83) (tgt := 102) dX6_settle_80 (by decide) rfl (by unfold fp_rng; omega) (fun h80 => ?_) (fun h80 => ?_)
            · refine S.iconst (pc' := 103) dX6_settle_102 rfl ?_
              refine S.goto (pc' := 107) dX6_settle_103 (by decide) ?_
              refine S.istore_n (pc' := 108) (LL' := [_, _, _]) dX6_settle_107 rfl (by decide) rfl rfl rfl ?_
              refine S.iload_n (pc' := 109) dX6_settle_108 rfl rfl rfl ?_
              refine S.if_eq (pc' := 112) (tgt := 131) dX6_settle_109 (by decide) rfl (by unfold fp_rng; omega) (fun h109 => ?_) (fun h109 => ?_)
              · first | exact absurd h109 (by decide) | exact absurd h128 (by decide) | exact absurd h99 (by decide) | (exfalso; omega)
              · refine S.aload_n (pc' := 113) dX6_settle_112 rfl rfl rfl ?_
                refine S.getR (pc' := 116) dX6_settle_113 rfl fX6_12 L_2 rf_2_0 ?_
                refine S.aload_n (pc' := 117) dX6_settle_116 rfl rfl rfl ?_
                refine S.getR (pc' := 120) dX6_settle_117 rfl fX6_28 L_2 rf_2_2 ?_
                refine S.getR (pc' := 123) dX6_settle_120 rfl fX6_193 (vs_lay vs12) (vs_r3 vs12) ?_
                refine S.iload_n (pc' := 124) dX6_settle_123 rfl rfl rfl ?_
                refine S.iald (pc' := 125) dX6_settle_124 rfl (vs_a3 vs12) (by omega) (by omega) ?_
                rw [e15]
                refine S.callVe (pc' := 128) dX6_settle_125 rfl cX6_196 hli rfl (gd_lay gd3) (by decide) rfl (Nat.le_of_ble_eq_true rfl) ?_
                refine S.if_ne (pc' := 131) (tgt := 142) dX6_settle_128 (by decide) rfl (by unfold fp_rng; omega) (fun h128 => ?_) (fun h128 => ?_)
                · refine S.iinc (pc' := 145) (LL' := [_, _, _]) dX6_settle_142 rfl (by decide) rfl rfl rfl ?_
                  refine S.goto (pc' := 61) dX6_settle_145 (by decide) ?_
                  exact ih (i + 1) _ _ (by omega) (by omega) (by omega) (hgood ⟨Or.inr htg, hl2⟩)
                · first | exact absurd h109 (by decide) | exact absurd h128 (by decide) | exact absurd h99 (by decide) | (exfalso; omega)
            · refine S.aload_n (pc' := 84) dX6_settle_83 rfl rfl rfl ?_
              refine S.getR (pc' := 87) dX6_settle_84 rfl fX6_12 L_2 rf_2_0 ?_
              refine S.aload_n (pc' := 88) dX6_settle_87 rfl rfl rfl ?_
              refine S.getR (pc' := 91) dX6_settle_88 rfl fX6_28 L_2 rf_2_2 ?_
              refine S.getR (pc' := 94) dX6_settle_91 rfl fX6_187 (vs_lay vs12) (vs_r4 vs12) ?_
              refine S.iload_n (pc' := 95) dX6_settle_94 rfl rfl rfl ?_
              refine S.iald (pc' := 96) dX6_settle_95 rfl (vs_a4 vs12) (by omega) (by omega) ?_
              rw [e16]
              refine S.callVe (pc' := 99) dX6_settle_96 rfl cX6_190 hth rfl (gd_lay gd3) (by decide) rfl (Nat.le_of_ble_eq_true rfl) ?_
              refine S.if_eq (pc' := 102) (tgt := 106) dX6_settle_99 (by decide) rfl (by unfold fp_rng; omega) (fun h99 => ?_) (fun h99 => ?_)
              · refine S.iconst (pc' := 107) dX6_settle_106 rfl ?_
                refine S.istore_n (pc' := 108) (LL' := [_, _, _]) dX6_settle_107 rfl (by decide) rfl rfl rfl ?_
                refine S.iload_n (pc' := 109) dX6_settle_108 rfl rfl rfl ?_
                refine S.if_eq (pc' := 112) (tgt := 131) dX6_settle_109 (by decide) rfl (by unfold fp_rng; omega) (fun h109 => ?_) (fun h109 => ?_)
                · first | exact absurd h109 (by decide) | exact absurd h128 (by decide) | exact absurd h99 (by decide) | (exfalso; omega)
                · refine S.aload_n (pc' := 113) dX6_settle_112 rfl rfl rfl ?_
                  refine S.getR (pc' := 116) dX6_settle_113 rfl fX6_12 L_2 rf_2_0 ?_
                  refine S.aload_n (pc' := 117) dX6_settle_116 rfl rfl rfl ?_
                  refine S.getR (pc' := 120) dX6_settle_117 rfl fX6_28 L_2 rf_2_2 ?_
                  refine S.getR (pc' := 123) dX6_settle_120 rfl fX6_193 (vs_lay vs12) (vs_r3 vs12) ?_
                  refine S.iload_n (pc' := 124) dX6_settle_123 rfl rfl rfl ?_
                  refine S.iald (pc' := 125) dX6_settle_124 rfl (vs_a3 vs12) (by omega) (by omega) ?_
                  rw [e15]
                  refine S.callVe (pc' := 128) dX6_settle_125 rfl cX6_196 hli rfl (gd_lay gd3) (by decide) rfl (Nat.le_of_ble_eq_true rfl) ?_
                  refine S.if_ne (pc' := 131) (tgt := 142) dX6_settle_128 (by decide) rfl (by unfold fp_rng; omega) (fun h128 => ?_) (fun h128 => ?_)
                  · refine S.iinc (pc' := 145) (LL' := [_, _, _]) dX6_settle_142 rfl (by decide) rfl rfl rfl ?_
                    refine S.goto (pc' := 61) dX6_settle_145 (by decide) ?_
                    exact ih (i + 1) _ _ (by omega) (by omega) (by omega) (hgood ⟨Or.inr htg, hl2⟩)
                  · first | exact absurd h109 (by decide) | exact absurd h128 (by decide) | exact absurd h99 (by decide) | (exfalso; omega)
              · refine S.iconst (pc' := 103) dX6_settle_102 rfl ?_
                refine S.goto (pc' := 107) dX6_settle_103 (by decide) ?_
                refine S.istore_n (pc' := 108) (LL' := [_, _, _]) dX6_settle_107 rfl (by decide) rfl rfl rfl ?_
                refine S.iload_n (pc' := 109) dX6_settle_108 rfl rfl rfl ?_
                refine S.if_eq (pc' := 112) (tgt := 131) dX6_settle_109 (by decide) rfl (by unfold fp_rng; omega) (fun h109 => ?_) (fun h109 => ?_)
                · first | exact absurd h109 (by decide) | exact absurd h128 (by decide) | exact absurd h99 (by decide) | (exfalso; omega)
                · refine S.aload_n (pc' := 113) dX6_settle_112 rfl rfl rfl ?_
                  refine S.getR (pc' := 116) dX6_settle_113 rfl fX6_12 L_2 rf_2_0 ?_
                  refine S.aload_n (pc' := 117) dX6_settle_116 rfl rfl rfl ?_
                  refine S.getR (pc' := 120) dX6_settle_117 rfl fX6_28 L_2 rf_2_2 ?_
                  refine S.getR (pc' := 123) dX6_settle_120 rfl fX6_193 (vs_lay vs12) (vs_r3 vs12) ?_
                  refine S.iload_n (pc' := 124) dX6_settle_123 rfl rfl rfl ?_
                  refine S.iald (pc' := 125) dX6_settle_124 rfl (vs_a3 vs12) (by omega) (by omega) ?_
                  rw [e15]
                  refine S.callVe (pc' := 128) dX6_settle_125 rfl cX6_196 hli rfl (gd_lay gd3) (by decide) rfl (Nat.le_of_ble_eq_true rfl) ?_
                  refine S.if_ne (pc' := 131) (tgt := 142) dX6_settle_128 (by decide) rfl (by unfold fp_rng; omega) (fun h128 => ?_) (fun h128 => ?_)
                  · refine S.iinc (pc' := 145) (LL' := [_, _, _]) dX6_settle_142 rfl (by decide) rfl rfl rfl ?_
                    refine S.goto (pc' := 61) dX6_settle_145 (by decide) ?_
                    exact ih (i + 1) _ _ (by omega) (by omega) (by omega) (hgood ⟨Or.inr htg, hl2⟩)
                  · first | exact absurd h109 (by decide) | exact absurd h128 (by decide) | exact absurd h99 (by decide) | (exfalso; omega)
        · rw [if_neg (by omega)] at hth
          refine S.iload_n (pc' := 62) dX6_settle_61 rfl rfl rfl ?_
          refine S.aload_n (pc' := 63) dX6_settle_62 rfl rfl rfl ?_
          refine S.getR (pc' := 66) dX6_settle_63 rfl fX6_28 L_2 rf_2_2 ?_
          refine S.getI (pc' := 69) dX6_settle_66 rfl fX6_57 (vs_lay vs12) ?_
          rw [e12]
          refine S.icmp_ge (pc' := 72) (tgt := 148) dX6_settle_69 (by decide) rfl (by unfold fp_rng; omega) (by unfold fp_rng; omega) (fun h69 => ?_) (fun h69 => ?_)
          · exfalso; omega
          · refine S.aload_n (pc' := 73) dX6_settle_72 rfl rfl rfl ?_
            refine S.getR (pc' := 76) dX6_settle_73 rfl fX6_28 L_2 rf_2_2 ?_
            refine S.iload_n (pc' := 77) dX6_settle_76 rfl rfl rfl ?_
            refine S.callVe (pc' := 80) dX6_settle_77 rfl cX6_184 hisd rfl (vs_lay vs12) (by decide) rfl (Nat.le_of_ble_eq_true rfl) ?_
            refine S.if_ne (pc' := 83) (tgt := 102) dX6_settle_80 (by decide) rfl (by unfold fp_rng; omega) (fun h80 => ?_) (fun h80 => ?_)
            · first | exact absurd rfl h99 | exact absurd rfl h80 | (exfalso; omega)
            · refine S.aload_n (pc' := 84) dX6_settle_83 rfl rfl rfl ?_
              refine S.getR (pc' := 87) dX6_settle_84 rfl fX6_12 L_2 rf_2_0 ?_
              refine S.aload_n (pc' := 88) dX6_settle_87 rfl rfl rfl ?_
              refine S.getR (pc' := 91) dX6_settle_88 rfl fX6_28 L_2 rf_2_2 ?_
              refine S.getR (pc' := 94) dX6_settle_91 rfl fX6_187 (vs_lay vs12) (vs_r4 vs12) ?_
              refine S.iload_n (pc' := 95) dX6_settle_94 rfl rfl rfl ?_
              refine S.iald (pc' := 96) dX6_settle_95 rfl (vs_a4 vs12) (by omega) (by omega) ?_
              rw [e16]
              refine S.callVe (pc' := 99) dX6_settle_96 rfl cX6_190 hth rfl (gd_lay gd3) (by decide) rfl (Nat.le_of_ble_eq_true rfl) ?_
              refine S.if_eq (pc' := 102) (tgt := 106) dX6_settle_99 (by decide) rfl (by unfold fp_rng; omega) (fun h99 => ?_) (fun h99 => ?_)
              · refine S.iconst (pc' := 107) dX6_settle_106 rfl ?_
                refine S.istore_n (pc' := 108) (LL' := [_, _, _]) dX6_settle_107 rfl (by decide) rfl rfl rfl ?_
                refine S.iload_n (pc' := 109) dX6_settle_108 rfl rfl rfl ?_
                refine S.if_eq (pc' := 112) (tgt := 131) dX6_settle_109 (by decide) rfl (by unfold fp_rng; omega) (fun h109 => ?_) (fun h109 => ?_)
                · refine S.aload_n (pc' := 132) dX6_settle_131 rfl rfl rfl ?_
                  refine S.bipush (pc' := 134) dX6_settle_132 rfl (by decide) ?_
                  refine S.aload_n (pc' := 135) dX6_settle_134 rfl rfl rfl ?_
                  refine S.getI (pc' := 138) dX6_settle_135 rfl fX6_36 L_2 ?_
                  rw [e26]
                  refine S.callVe (pc' := 141) dX6_settle_138 rfl cX6_89 ok_X6_refuse rfl L_2 (by decide) rfl (Nat.le_of_ble_eq_true rfl) ?_
                  refine S.pop (pc' := 142) dX6_settle_141 rfl rfl ?_
                  refine S.iinc (pc' := 145) (LL' := [_, _, _]) dX6_settle_142 rfl (by decide) rfl rfl rfl ?_
                  refine S.goto (pc' := 61) dX6_settle_145 (by decide) ?_
                  first | exact ih (i + 1) _ _ (by omega) (by omega) (by omega) (hbad (fun q => by rcases q.1 with z | z <;> omega)) | (exfalso; omega)
                · first | exact absurd rfl h109 | (exfalso; omega)
              · first | exact absurd rfl h99 | exact absurd rfl h80 | (exfalso; omega)
    · rw [if_neg (by omega)] at hli
      by_cases ht4 : v.2.2.2 = -4
      · rw [if_pos ht4] at hisd
        refine S.iload_n (pc' := 62) dX6_settle_61 rfl rfl rfl ?_
        refine S.aload_n (pc' := 63) dX6_settle_62 rfl rfl rfl ?_
        refine S.getR (pc' := 66) dX6_settle_63 rfl fX6_28 L_2 rf_2_2 ?_
        refine S.getI (pc' := 69) dX6_settle_66 rfl fX6_57 (vs_lay vs12) ?_
        rw [e12]
        refine S.icmp_ge (pc' := 72) (tgt := 148) dX6_settle_69 (by decide) rfl (by unfold fp_rng; omega) (by unfold fp_rng; omega) (fun h69 => ?_) (fun h69 => ?_)
        · exfalso; omega
        · refine S.aload_n (pc' := 73) dX6_settle_72 rfl rfl rfl ?_
          refine S.getR (pc' := 76) dX6_settle_73 rfl fX6_28 L_2 rf_2_2 ?_
          refine S.iload_n (pc' := 77) dX6_settle_76 rfl rfl rfl ?_
          refine S.callVe (pc' := 80) dX6_settle_77 rfl cX6_184 hisd rfl (vs_lay vs12) (by decide) rfl (Nat.le_of_ble_eq_true rfl) ?_
          refine S.if_ne (pc' := 83) (tgt := 102) dX6_settle_80 (by decide) rfl (by unfold fp_rng; omega) (fun h80 => ?_) (fun h80 => ?_)
          · refine S.iconst (pc' := 103) dX6_settle_102 rfl ?_
            refine S.goto (pc' := 107) dX6_settle_103 (by decide) ?_
            refine S.istore_n (pc' := 108) (LL' := [_, _, _]) dX6_settle_107 rfl (by decide) rfl rfl rfl ?_
            refine S.iload_n (pc' := 109) dX6_settle_108 rfl rfl rfl ?_
            refine S.if_eq (pc' := 112) (tgt := 131) dX6_settle_109 (by decide) rfl (by unfold fp_rng; omega) (fun h109 => ?_) (fun h109 => ?_)
            · refine S.aload_n (pc' := 132) dX6_settle_131 rfl rfl rfl ?_
              refine S.bipush (pc' := 134) dX6_settle_132 rfl (by decide) ?_
              refine S.aload_n (pc' := 135) dX6_settle_134 rfl rfl rfl ?_
              refine S.getI (pc' := 138) dX6_settle_135 rfl fX6_36 L_2 ?_
              rw [e26]
              refine S.callVe (pc' := 141) dX6_settle_138 rfl cX6_89 ok_X6_refuse rfl L_2 (by decide) rfl (Nat.le_of_ble_eq_true rfl) ?_
              refine S.pop (pc' := 142) dX6_settle_141 rfl rfl ?_
              refine S.iinc (pc' := 145) (LL' := [_, _, _]) dX6_settle_142 rfl (by decide) rfl rfl rfl ?_
              refine S.goto (pc' := 61) dX6_settle_145 (by decide) ?_
              first | exact ih (i + 1) _ _ (by omega) (by omega) (by omega) (hbad (fun q => hl2 q.2)) | exact absurd rfl h128 | (exfalso; omega)
            · refine S.aload_n (pc' := 113) dX6_settle_112 rfl rfl rfl ?_
              refine S.getR (pc' := 116) dX6_settle_113 rfl fX6_12 L_2 rf_2_0 ?_
              refine S.aload_n (pc' := 117) dX6_settle_116 rfl rfl rfl ?_
              refine S.getR (pc' := 120) dX6_settle_117 rfl fX6_28 L_2 rf_2_2 ?_
              refine S.getR (pc' := 123) dX6_settle_120 rfl fX6_193 (vs_lay vs12) (vs_r3 vs12) ?_
              refine S.iload_n (pc' := 124) dX6_settle_123 rfl rfl rfl ?_
              refine S.iald (pc' := 125) dX6_settle_124 rfl (vs_a3 vs12) (by omega) (by omega) ?_
              rw [e15]
              refine S.callVe (pc' := 128) dX6_settle_125 rfl cX6_196 hli rfl (gd_lay gd3) (by decide) rfl (Nat.le_of_ble_eq_true rfl) ?_
              refine S.if_ne (pc' := 131) (tgt := 142) dX6_settle_128 (by decide) rfl (by unfold fp_rng; omega) (fun h128 => ?_) (fun h128 => ?_)
              · refine S.iinc (pc' := 145) (LL' := [_, _, _]) dX6_settle_142 rfl (by decide) rfl rfl rfl ?_
                refine S.goto (pc' := 61) dX6_settle_145 (by decide) ?_
                first | exact ih (i + 1) _ _ (by omega) (by omega) (by omega) (hbad (fun q => hl2 q.2)) | exact absurd rfl h128 | (exfalso; omega)
              · refine S.aload_n (pc' := 132) dX6_settle_131 rfl rfl rfl ?_
                refine S.bipush (pc' := 134) dX6_settle_132 rfl (by decide) ?_
                refine S.aload_n (pc' := 135) dX6_settle_134 rfl rfl rfl ?_
                refine S.getI (pc' := 138) dX6_settle_135 rfl fX6_36 L_2 ?_
                rw [e26]
                refine S.callVe (pc' := 141) dX6_settle_138 rfl cX6_89 ok_X6_refuse rfl L_2 (by decide) rfl (Nat.le_of_ble_eq_true rfl) ?_
                refine S.pop (pc' := 142) dX6_settle_141 rfl rfl ?_
                refine S.iinc (pc' := 145) (LL' := [_, _, _]) dX6_settle_142 rfl (by decide) rfl rfl rfl ?_
                refine S.goto (pc' := 61) dX6_settle_145 (by decide) ?_
                first | exact ih (i + 1) _ _ (by omega) (by omega) (by omega) (hbad (fun q => hl2 q.2)) | exact absurd rfl h128 | (exfalso; omega)
          · exact absurd h80 (by decide)
      · rw [if_neg ht4] at hisd
        by_cases htg : v.2.2.2 < D.1.1
        · rw [if_pos (by omega)] at hth
          refine S.iload_n (pc' := 62) dX6_settle_61 rfl rfl rfl ?_
          refine S.aload_n (pc' := 63) dX6_settle_62 rfl rfl rfl ?_
          refine S.getR (pc' := 66) dX6_settle_63 rfl fX6_28 L_2 rf_2_2 ?_
          refine S.getI (pc' := 69) dX6_settle_66 rfl fX6_57 (vs_lay vs12) ?_
          rw [e12]
          refine S.icmp_ge (pc' := 72) (tgt := 148) dX6_settle_69 (by decide) rfl (by unfold fp_rng; omega) (by unfold fp_rng; omega) (fun h69 => ?_) (fun h69 => ?_)
          · exfalso; omega
          · refine S.aload_n (pc' := 73) dX6_settle_72 rfl rfl rfl ?_
            refine S.getR (pc' := 76) dX6_settle_73 rfl fX6_28 L_2 rf_2_2 ?_
            refine S.iload_n (pc' := 77) dX6_settle_76 rfl rfl rfl ?_
            refine S.callVe (pc' := 80) dX6_settle_77 rfl cX6_184 hisd rfl (vs_lay vs12) (by decide) rfl (Nat.le_of_ble_eq_true rfl) ?_
            refine S.if_ne (pc' := 83) (tgt := 102) dX6_settle_80 (by decide) rfl (by unfold fp_rng; omega) (fun h80 => ?_) (fun h80 => ?_)
            · refine S.iconst (pc' := 103) dX6_settle_102 rfl ?_
              refine S.goto (pc' := 107) dX6_settle_103 (by decide) ?_
              refine S.istore_n (pc' := 108) (LL' := [_, _, _]) dX6_settle_107 rfl (by decide) rfl rfl rfl ?_
              refine S.iload_n (pc' := 109) dX6_settle_108 rfl rfl rfl ?_
              refine S.if_eq (pc' := 112) (tgt := 131) dX6_settle_109 (by decide) rfl (by unfold fp_rng; omega) (fun h109 => ?_) (fun h109 => ?_)
              · refine S.aload_n (pc' := 132) dX6_settle_131 rfl rfl rfl ?_
                refine S.bipush (pc' := 134) dX6_settle_132 rfl (by decide) ?_
                refine S.aload_n (pc' := 135) dX6_settle_134 rfl rfl rfl ?_
                refine S.getI (pc' := 138) dX6_settle_135 rfl fX6_36 L_2 ?_
                rw [e26]
                refine S.callVe (pc' := 141) dX6_settle_138 rfl cX6_89 ok_X6_refuse rfl L_2 (by decide) rfl (Nat.le_of_ble_eq_true rfl) ?_
                refine S.pop (pc' := 142) dX6_settle_141 rfl rfl ?_
                refine S.iinc (pc' := 145) (LL' := [_, _, _]) dX6_settle_142 rfl (by decide) rfl rfl rfl ?_
                refine S.goto (pc' := 61) dX6_settle_145 (by decide) ?_
                first | exact ih (i + 1) _ _ (by omega) (by omega) (by omega) (hbad (fun q => hl2 q.2)) | exact absurd rfl h128 | (exfalso; omega)
              · refine S.aload_n (pc' := 113) dX6_settle_112 rfl rfl rfl ?_
                refine S.getR (pc' := 116) dX6_settle_113 rfl fX6_12 L_2 rf_2_0 ?_
                refine S.aload_n (pc' := 117) dX6_settle_116 rfl rfl rfl ?_
                refine S.getR (pc' := 120) dX6_settle_117 rfl fX6_28 L_2 rf_2_2 ?_
                refine S.getR (pc' := 123) dX6_settle_120 rfl fX6_193 (vs_lay vs12) (vs_r3 vs12) ?_
                refine S.iload_n (pc' := 124) dX6_settle_123 rfl rfl rfl ?_
                refine S.iald (pc' := 125) dX6_settle_124 rfl (vs_a3 vs12) (by omega) (by omega) ?_
                rw [e15]
                refine S.callVe (pc' := 128) dX6_settle_125 rfl cX6_196 hli rfl (gd_lay gd3) (by decide) rfl (Nat.le_of_ble_eq_true rfl) ?_
                refine S.if_ne (pc' := 131) (tgt := 142) dX6_settle_128 (by decide) rfl (by unfold fp_rng; omega) (fun h128 => ?_) (fun h128 => ?_)
                · refine S.iinc (pc' := 145) (LL' := [_, _, _]) dX6_settle_142 rfl (by decide) rfl rfl rfl ?_
                  refine S.goto (pc' := 61) dX6_settle_145 (by decide) ?_
                  first | exact ih (i + 1) _ _ (by omega) (by omega) (by omega) (hbad (fun q => hl2 q.2)) | exact absurd rfl h128 | (exfalso; omega)
                · refine S.aload_n (pc' := 132) dX6_settle_131 rfl rfl rfl ?_
                  refine S.bipush (pc' := 134) dX6_settle_132 rfl (by decide) ?_
                  refine S.aload_n (pc' := 135) dX6_settle_134 rfl rfl rfl ?_
                  refine S.getI (pc' := 138) dX6_settle_135 rfl fX6_36 L_2 ?_
                  rw [e26]
                  refine S.callVe (pc' := 141) dX6_settle_138 rfl cX6_89 ok_X6_refuse rfl L_2 (by decide) rfl (Nat.le_of_ble_eq_true rfl) ?_
                  refine S.pop (pc' := 142) dX6_settle_141 rfl rfl ?_
                  refine S.iinc (pc' := 145) (LL' := [_, _, _]) dX6_settle_142 rfl (by decide) rfl rfl rfl ?_
                  refine S.goto (pc' := 61) dX6_settle_145 (by decide) ?_
                  first | exact ih (i + 1) _ _ (by omega) (by omega) (by omega) (hbad (fun q => hl2 q.2)) | exact absurd rfl h128 | (exfalso; omega)
            · refine S.aload_n (pc' := 84) dX6_settle_83 rfl rfl rfl ?_
              refine S.getR (pc' := 87) dX6_settle_84 rfl fX6_12 L_2 rf_2_0 ?_
              refine S.aload_n (pc' := 88) dX6_settle_87 rfl rfl rfl ?_
              refine S.getR (pc' := 91) dX6_settle_88 rfl fX6_28 L_2 rf_2_2 ?_
              refine S.getR (pc' := 94) dX6_settle_91 rfl fX6_187 (vs_lay vs12) (vs_r4 vs12) ?_
              refine S.iload_n (pc' := 95) dX6_settle_94 rfl rfl rfl ?_
              refine S.iald (pc' := 96) dX6_settle_95 rfl (vs_a4 vs12) (by omega) (by omega) ?_
              rw [e16]
              refine S.callVe (pc' := 99) dX6_settle_96 rfl cX6_190 hth rfl (gd_lay gd3) (by decide) rfl (Nat.le_of_ble_eq_true rfl) ?_
              refine S.if_eq (pc' := 102) (tgt := 106) dX6_settle_99 (by decide) rfl (by unfold fp_rng; omega) (fun h99 => ?_) (fun h99 => ?_)
              · refine S.iconst (pc' := 107) dX6_settle_106 rfl ?_
                refine S.istore_n (pc' := 108) (LL' := [_, _, _]) dX6_settle_107 rfl (by decide) rfl rfl rfl ?_
                refine S.iload_n (pc' := 109) dX6_settle_108 rfl rfl rfl ?_
                refine S.if_eq (pc' := 112) (tgt := 131) dX6_settle_109 (by decide) rfl (by unfold fp_rng; omega) (fun h109 => ?_) (fun h109 => ?_)
                · refine S.aload_n (pc' := 132) dX6_settle_131 rfl rfl rfl ?_
                  refine S.bipush (pc' := 134) dX6_settle_132 rfl (by decide) ?_
                  refine S.aload_n (pc' := 135) dX6_settle_134 rfl rfl rfl ?_
                  refine S.getI (pc' := 138) dX6_settle_135 rfl fX6_36 L_2 ?_
                  rw [e26]
                  refine S.callVe (pc' := 141) dX6_settle_138 rfl cX6_89 ok_X6_refuse rfl L_2 (by decide) rfl (Nat.le_of_ble_eq_true rfl) ?_
                  refine S.pop (pc' := 142) dX6_settle_141 rfl rfl ?_
                  refine S.iinc (pc' := 145) (LL' := [_, _, _]) dX6_settle_142 rfl (by decide) rfl rfl rfl ?_
                  refine S.goto (pc' := 61) dX6_settle_145 (by decide) ?_
                  first | exact ih (i + 1) _ _ (by omega) (by omega) (by omega) (hbad (fun q => hl2 q.2)) | exact absurd rfl h128 | (exfalso; omega)
                · refine S.aload_n (pc' := 113) dX6_settle_112 rfl rfl rfl ?_
                  refine S.getR (pc' := 116) dX6_settle_113 rfl fX6_12 L_2 rf_2_0 ?_
                  refine S.aload_n (pc' := 117) dX6_settle_116 rfl rfl rfl ?_
                  refine S.getR (pc' := 120) dX6_settle_117 rfl fX6_28 L_2 rf_2_2 ?_
                  refine S.getR (pc' := 123) dX6_settle_120 rfl fX6_193 (vs_lay vs12) (vs_r3 vs12) ?_
                  refine S.iload_n (pc' := 124) dX6_settle_123 rfl rfl rfl ?_
                  refine S.iald (pc' := 125) dX6_settle_124 rfl (vs_a3 vs12) (by omega) (by omega) ?_
                  rw [e15]
                  refine S.callVe (pc' := 128) dX6_settle_125 rfl cX6_196 hli rfl (gd_lay gd3) (by decide) rfl (Nat.le_of_ble_eq_true rfl) ?_
                  refine S.if_ne (pc' := 131) (tgt := 142) dX6_settle_128 (by decide) rfl (by unfold fp_rng; omega) (fun h128 => ?_) (fun h128 => ?_)
                  · refine S.iinc (pc' := 145) (LL' := [_, _, _]) dX6_settle_142 rfl (by decide) rfl rfl rfl ?_
                    refine S.goto (pc' := 61) dX6_settle_145 (by decide) ?_
                    first | exact ih (i + 1) _ _ (by omega) (by omega) (by omega) (hbad (fun q => hl2 q.2)) | exact absurd rfl h128 | (exfalso; omega)
                  · refine S.aload_n (pc' := 132) dX6_settle_131 rfl rfl rfl ?_
                    refine S.bipush (pc' := 134) dX6_settle_132 rfl (by decide) ?_
                    refine S.aload_n (pc' := 135) dX6_settle_134 rfl rfl rfl ?_
                    refine S.getI (pc' := 138) dX6_settle_135 rfl fX6_36 L_2 ?_
                    rw [e26]
                    refine S.callVe (pc' := 141) dX6_settle_138 rfl cX6_89 ok_X6_refuse rfl L_2 (by decide) rfl (Nat.le_of_ble_eq_true rfl) ?_
                    refine S.pop (pc' := 142) dX6_settle_141 rfl rfl ?_
                    refine S.iinc (pc' := 145) (LL' := [_, _, _]) dX6_settle_142 rfl (by decide) rfl rfl rfl ?_
                    refine S.goto (pc' := 61) dX6_settle_145 (by decide) ?_
                    first | exact ih (i + 1) _ _ (by omega) (by omega) (by omega) (hbad (fun q => hl2 q.2)) | exact absurd rfl h128 | (exfalso; omega)
              · refine S.iconst (pc' := 103) dX6_settle_102 rfl ?_
                refine S.goto (pc' := 107) dX6_settle_103 (by decide) ?_
                refine S.istore_n (pc' := 108) (LL' := [_, _, _]) dX6_settle_107 rfl (by decide) rfl rfl rfl ?_
                refine S.iload_n (pc' := 109) dX6_settle_108 rfl rfl rfl ?_
                refine S.if_eq (pc' := 112) (tgt := 131) dX6_settle_109 (by decide) rfl (by unfold fp_rng; omega) (fun h109 => ?_) (fun h109 => ?_)
                · refine S.aload_n (pc' := 132) dX6_settle_131 rfl rfl rfl ?_
                  refine S.bipush (pc' := 134) dX6_settle_132 rfl (by decide) ?_
                  refine S.aload_n (pc' := 135) dX6_settle_134 rfl rfl rfl ?_
                  refine S.getI (pc' := 138) dX6_settle_135 rfl fX6_36 L_2 ?_
                  rw [e26]
                  refine S.callVe (pc' := 141) dX6_settle_138 rfl cX6_89 ok_X6_refuse rfl L_2 (by decide) rfl (Nat.le_of_ble_eq_true rfl) ?_
                  refine S.pop (pc' := 142) dX6_settle_141 rfl rfl ?_
                  refine S.iinc (pc' := 145) (LL' := [_, _, _]) dX6_settle_142 rfl (by decide) rfl rfl rfl ?_
                  refine S.goto (pc' := 61) dX6_settle_145 (by decide) ?_
                  first | exact ih (i + 1) _ _ (by omega) (by omega) (by omega) (hbad (fun q => hl2 q.2)) | exact absurd rfl h128 | (exfalso; omega)
                · refine S.aload_n (pc' := 113) dX6_settle_112 rfl rfl rfl ?_
                  refine S.getR (pc' := 116) dX6_settle_113 rfl fX6_12 L_2 rf_2_0 ?_
                  refine S.aload_n (pc' := 117) dX6_settle_116 rfl rfl rfl ?_
                  refine S.getR (pc' := 120) dX6_settle_117 rfl fX6_28 L_2 rf_2_2 ?_
                  refine S.getR (pc' := 123) dX6_settle_120 rfl fX6_193 (vs_lay vs12) (vs_r3 vs12) ?_
                  refine S.iload_n (pc' := 124) dX6_settle_123 rfl rfl rfl ?_
                  refine S.iald (pc' := 125) dX6_settle_124 rfl (vs_a3 vs12) (by omega) (by omega) ?_
                  rw [e15]
                  refine S.callVe (pc' := 128) dX6_settle_125 rfl cX6_196 hli rfl (gd_lay gd3) (by decide) rfl (Nat.le_of_ble_eq_true rfl) ?_
                  refine S.if_ne (pc' := 131) (tgt := 142) dX6_settle_128 (by decide) rfl (by unfold fp_rng; omega) (fun h128 => ?_) (fun h128 => ?_)
                  · refine S.iinc (pc' := 145) (LL' := [_, _, _]) dX6_settle_142 rfl (by decide) rfl rfl rfl ?_
                    refine S.goto (pc' := 61) dX6_settle_145 (by decide) ?_
                    first | exact ih (i + 1) _ _ (by omega) (by omega) (by omega) (hbad (fun q => hl2 q.2)) | exact absurd rfl h128 | (exfalso; omega)
                  · refine S.aload_n (pc' := 132) dX6_settle_131 rfl rfl rfl ?_
                    refine S.bipush (pc' := 134) dX6_settle_132 rfl (by decide) ?_
                    refine S.aload_n (pc' := 135) dX6_settle_134 rfl rfl rfl ?_
                    refine S.getI (pc' := 138) dX6_settle_135 rfl fX6_36 L_2 ?_
                    rw [e26]
                    refine S.callVe (pc' := 141) dX6_settle_138 rfl cX6_89 ok_X6_refuse rfl L_2 (by decide) rfl (Nat.le_of_ble_eq_true rfl) ?_
                    refine S.pop (pc' := 142) dX6_settle_141 rfl rfl ?_
                    refine S.iinc (pc' := 145) (LL' := [_, _, _]) dX6_settle_142 rfl (by decide) rfl rfl rfl ?_
                    refine S.goto (pc' := 61) dX6_settle_145 (by decide) ?_
                    first | exact ih (i + 1) _ _ (by omega) (by omega) (by omega) (hbad (fun q => hl2 q.2)) | exact absurd rfl h128 | (exfalso; omega)
        · rw [if_neg (by omega)] at hth
          refine S.iload_n (pc' := 62) dX6_settle_61 rfl rfl rfl ?_
          refine S.aload_n (pc' := 63) dX6_settle_62 rfl rfl rfl ?_
          refine S.getR (pc' := 66) dX6_settle_63 rfl fX6_28 L_2 rf_2_2 ?_
          refine S.getI (pc' := 69) dX6_settle_66 rfl fX6_57 (vs_lay vs12) ?_
          rw [e12]
          refine S.icmp_ge (pc' := 72) (tgt := 148) dX6_settle_69 (by decide) rfl (by unfold fp_rng; omega) (by unfold fp_rng; omega) (fun h69 => ?_) (fun h69 => ?_)
          · exfalso; omega
          · refine S.aload_n (pc' := 73) dX6_settle_72 rfl rfl rfl ?_
            refine S.getR (pc' := 76) dX6_settle_73 rfl fX6_28 L_2 rf_2_2 ?_
            refine S.iload_n (pc' := 77) dX6_settle_76 rfl rfl rfl ?_
            refine S.callVe (pc' := 80) dX6_settle_77 rfl cX6_184 hisd rfl (vs_lay vs12) (by decide) rfl (Nat.le_of_ble_eq_true rfl) ?_
            refine S.if_ne (pc' := 83) (tgt := 102) dX6_settle_80 (by decide) rfl (by unfold fp_rng; omega) (fun h80 => ?_) (fun h80 => ?_)
            · refine S.iconst (pc' := 103) dX6_settle_102 rfl ?_
              refine S.goto (pc' := 107) dX6_settle_103 (by decide) ?_
              refine S.istore_n (pc' := 108) (LL' := [_, _, _]) dX6_settle_107 rfl (by decide) rfl rfl rfl ?_
              refine S.iload_n (pc' := 109) dX6_settle_108 rfl rfl rfl ?_
              refine S.if_eq (pc' := 112) (tgt := 131) dX6_settle_109 (by decide) rfl (by unfold fp_rng; omega) (fun h109 => ?_) (fun h109 => ?_)
              · refine S.aload_n (pc' := 132) dX6_settle_131 rfl rfl rfl ?_
                refine S.bipush (pc' := 134) dX6_settle_132 rfl (by decide) ?_
                refine S.aload_n (pc' := 135) dX6_settle_134 rfl rfl rfl ?_
                refine S.getI (pc' := 138) dX6_settle_135 rfl fX6_36 L_2 ?_
                rw [e26]
                refine S.callVe (pc' := 141) dX6_settle_138 rfl cX6_89 ok_X6_refuse rfl L_2 (by decide) rfl (Nat.le_of_ble_eq_true rfl) ?_
                refine S.pop (pc' := 142) dX6_settle_141 rfl rfl ?_
                refine S.iinc (pc' := 145) (LL' := [_, _, _]) dX6_settle_142 rfl (by decide) rfl rfl rfl ?_
                refine S.goto (pc' := 61) dX6_settle_145 (by decide) ?_
                first | exact ih (i + 1) _ _ (by omega) (by omega) (by omega) (hbad (fun q => hl2 q.2)) | exact absurd rfl h128 | (exfalso; omega)
              · refine S.aload_n (pc' := 113) dX6_settle_112 rfl rfl rfl ?_
                refine S.getR (pc' := 116) dX6_settle_113 rfl fX6_12 L_2 rf_2_0 ?_
                refine S.aload_n (pc' := 117) dX6_settle_116 rfl rfl rfl ?_
                refine S.getR (pc' := 120) dX6_settle_117 rfl fX6_28 L_2 rf_2_2 ?_
                refine S.getR (pc' := 123) dX6_settle_120 rfl fX6_193 (vs_lay vs12) (vs_r3 vs12) ?_
                refine S.iload_n (pc' := 124) dX6_settle_123 rfl rfl rfl ?_
                refine S.iald (pc' := 125) dX6_settle_124 rfl (vs_a3 vs12) (by omega) (by omega) ?_
                rw [e15]
                refine S.callVe (pc' := 128) dX6_settle_125 rfl cX6_196 hli rfl (gd_lay gd3) (by decide) rfl (Nat.le_of_ble_eq_true rfl) ?_
                refine S.if_ne (pc' := 131) (tgt := 142) dX6_settle_128 (by decide) rfl (by unfold fp_rng; omega) (fun h128 => ?_) (fun h128 => ?_)
                · refine S.iinc (pc' := 145) (LL' := [_, _, _]) dX6_settle_142 rfl (by decide) rfl rfl rfl ?_
                  refine S.goto (pc' := 61) dX6_settle_145 (by decide) ?_
                  first | exact ih (i + 1) _ _ (by omega) (by omega) (by omega) (hbad (fun q => hl2 q.2)) | exact absurd rfl h128 | (exfalso; omega)
                · refine S.aload_n (pc' := 132) dX6_settle_131 rfl rfl rfl ?_
                  refine S.bipush (pc' := 134) dX6_settle_132 rfl (by decide) ?_
                  refine S.aload_n (pc' := 135) dX6_settle_134 rfl rfl rfl ?_
                  refine S.getI (pc' := 138) dX6_settle_135 rfl fX6_36 L_2 ?_
                  rw [e26]
                  refine S.callVe (pc' := 141) dX6_settle_138 rfl cX6_89 ok_X6_refuse rfl L_2 (by decide) rfl (Nat.le_of_ble_eq_true rfl) ?_
                  refine S.pop (pc' := 142) dX6_settle_141 rfl rfl ?_
                  refine S.iinc (pc' := 145) (LL' := [_, _, _]) dX6_settle_142 rfl (by decide) rfl rfl rfl ?_
                  refine S.goto (pc' := 61) dX6_settle_145 (by decide) ?_
                  first | exact ih (i + 1) _ _ (by omega) (by omega) (by omega) (hbad (fun q => hl2 q.2)) | exact absurd rfl h128 | (exfalso; omega)
            · refine S.aload_n (pc' := 84) dX6_settle_83 rfl rfl rfl ?_
              refine S.getR (pc' := 87) dX6_settle_84 rfl fX6_12 L_2 rf_2_0 ?_
              refine S.aload_n (pc' := 88) dX6_settle_87 rfl rfl rfl ?_
              refine S.getR (pc' := 91) dX6_settle_88 rfl fX6_28 L_2 rf_2_2 ?_
              refine S.getR (pc' := 94) dX6_settle_91 rfl fX6_187 (vs_lay vs12) (vs_r4 vs12) ?_
              refine S.iload_n (pc' := 95) dX6_settle_94 rfl rfl rfl ?_
              refine S.iald (pc' := 96) dX6_settle_95 rfl (vs_a4 vs12) (by omega) (by omega) ?_
              rw [e16]
              refine S.callVe (pc' := 99) dX6_settle_96 rfl cX6_190 hth rfl (gd_lay gd3) (by decide) rfl (Nat.le_of_ble_eq_true rfl) ?_
              refine S.if_eq (pc' := 102) (tgt := 106) dX6_settle_99 (by decide) rfl (by unfold fp_rng; omega) (fun h99 => ?_) (fun h99 => ?_)
              · refine S.iconst (pc' := 107) dX6_settle_106 rfl ?_
                refine S.istore_n (pc' := 108) (LL' := [_, _, _]) dX6_settle_107 rfl (by decide) rfl rfl rfl ?_
                refine S.iload_n (pc' := 109) dX6_settle_108 rfl rfl rfl ?_
                refine S.if_eq (pc' := 112) (tgt := 131) dX6_settle_109 (by decide) rfl (by unfold fp_rng; omega) (fun h109 => ?_) (fun h109 => ?_)
                · refine S.aload_n (pc' := 132) dX6_settle_131 rfl rfl rfl ?_
                  refine S.bipush (pc' := 134) dX6_settle_132 rfl (by decide) ?_
                  refine S.aload_n (pc' := 135) dX6_settle_134 rfl rfl rfl ?_
                  refine S.getI (pc' := 138) dX6_settle_135 rfl fX6_36 L_2 ?_
                  rw [e26]
                  refine S.callVe (pc' := 141) dX6_settle_138 rfl cX6_89 ok_X6_refuse rfl L_2 (by decide) rfl (Nat.le_of_ble_eq_true rfl) ?_
                  refine S.pop (pc' := 142) dX6_settle_141 rfl rfl ?_
                  refine S.iinc (pc' := 145) (LL' := [_, _, _]) dX6_settle_142 rfl (by decide) rfl rfl rfl ?_
                  refine S.goto (pc' := 61) dX6_settle_145 (by decide) ?_
                  first | exact ih (i + 1) _ _ (by omega) (by omega) (by omega) (hbad (fun q => hl2 q.2)) | exact absurd rfl h128 | (exfalso; omega)
                · refine S.aload_n (pc' := 113) dX6_settle_112 rfl rfl rfl ?_
                  refine S.getR (pc' := 116) dX6_settle_113 rfl fX6_12 L_2 rf_2_0 ?_
                  refine S.aload_n (pc' := 117) dX6_settle_116 rfl rfl rfl ?_
                  refine S.getR (pc' := 120) dX6_settle_117 rfl fX6_28 L_2 rf_2_2 ?_
                  refine S.getR (pc' := 123) dX6_settle_120 rfl fX6_193 (vs_lay vs12) (vs_r3 vs12) ?_
                  refine S.iload_n (pc' := 124) dX6_settle_123 rfl rfl rfl ?_
                  refine S.iald (pc' := 125) dX6_settle_124 rfl (vs_a3 vs12) (by omega) (by omega) ?_
                  rw [e15]
                  refine S.callVe (pc' := 128) dX6_settle_125 rfl cX6_196 hli rfl (gd_lay gd3) (by decide) rfl (Nat.le_of_ble_eq_true rfl) ?_
                  refine S.if_ne (pc' := 131) (tgt := 142) dX6_settle_128 (by decide) rfl (by unfold fp_rng; omega) (fun h128 => ?_) (fun h128 => ?_)
                  · refine S.iinc (pc' := 145) (LL' := [_, _, _]) dX6_settle_142 rfl (by decide) rfl rfl rfl ?_
                    refine S.goto (pc' := 61) dX6_settle_145 (by decide) ?_
                    first | exact ih (i + 1) _ _ (by omega) (by omega) (by omega) (hbad (fun q => hl2 q.2)) | exact absurd rfl h128 | (exfalso; omega)
                  · refine S.aload_n (pc' := 132) dX6_settle_131 rfl rfl rfl ?_
                    refine S.bipush (pc' := 134) dX6_settle_132 rfl (by decide) ?_
                    refine S.aload_n (pc' := 135) dX6_settle_134 rfl rfl rfl ?_
                    refine S.getI (pc' := 138) dX6_settle_135 rfl fX6_36 L_2 ?_
                    rw [e26]
                    refine S.callVe (pc' := 141) dX6_settle_138 rfl cX6_89 ok_X6_refuse rfl L_2 (by decide) rfl (Nat.le_of_ble_eq_true rfl) ?_
                    refine S.pop (pc' := 142) dX6_settle_141 rfl rfl ?_
                    refine S.iinc (pc' := 145) (LL' := [_, _, _]) dX6_settle_142 rfl (by decide) rfl rfl rfl ?_
                    refine S.goto (pc' := 61) dX6_settle_145 (by decide) ?_
                    first | exact ih (i + 1) _ _ (by omega) (by omega) (by omega) (hbad (fun q => hl2 q.2)) | exact absurd rfl h128 | (exfalso; omega)
              · refine S.iconst (pc' := 103) dX6_settle_102 rfl ?_
                refine S.goto (pc' := 107) dX6_settle_103 (by decide) ?_
                refine S.istore_n (pc' := 108) (LL' := [_, _, _]) dX6_settle_107 rfl (by decide) rfl rfl rfl ?_
                refine S.iload_n (pc' := 109) dX6_settle_108 rfl rfl rfl ?_
                refine S.if_eq (pc' := 112) (tgt := 131) dX6_settle_109 (by decide) rfl (by unfold fp_rng; omega) (fun h109 => ?_) (fun h109 => ?_)
                · refine S.aload_n (pc' := 132) dX6_settle_131 rfl rfl rfl ?_
                  refine S.bipush (pc' := 134) dX6_settle_132 rfl (by decide) ?_
                  refine S.aload_n (pc' := 135) dX6_settle_134 rfl rfl rfl ?_
                  refine S.getI (pc' := 138) dX6_settle_135 rfl fX6_36 L_2 ?_
                  rw [e26]
                  refine S.callVe (pc' := 141) dX6_settle_138 rfl cX6_89 ok_X6_refuse rfl L_2 (by decide) rfl (Nat.le_of_ble_eq_true rfl) ?_
                  refine S.pop (pc' := 142) dX6_settle_141 rfl rfl ?_
                  refine S.iinc (pc' := 145) (LL' := [_, _, _]) dX6_settle_142 rfl (by decide) rfl rfl rfl ?_
                  refine S.goto (pc' := 61) dX6_settle_145 (by decide) ?_
                  first | exact ih (i + 1) _ _ (by omega) (by omega) (by omega) (hbad (fun q => hl2 q.2)) | exact absurd rfl h128 | (exfalso; omega)
                · refine S.aload_n (pc' := 113) dX6_settle_112 rfl rfl rfl ?_
                  refine S.getR (pc' := 116) dX6_settle_113 rfl fX6_12 L_2 rf_2_0 ?_
                  refine S.aload_n (pc' := 117) dX6_settle_116 rfl rfl rfl ?_
                  refine S.getR (pc' := 120) dX6_settle_117 rfl fX6_28 L_2 rf_2_2 ?_
                  refine S.getR (pc' := 123) dX6_settle_120 rfl fX6_193 (vs_lay vs12) (vs_r3 vs12) ?_
                  refine S.iload_n (pc' := 124) dX6_settle_123 rfl rfl rfl ?_
                  refine S.iald (pc' := 125) dX6_settle_124 rfl (vs_a3 vs12) (by omega) (by omega) ?_
                  rw [e15]
                  refine S.callVe (pc' := 128) dX6_settle_125 rfl cX6_196 hli rfl (gd_lay gd3) (by decide) rfl (Nat.le_of_ble_eq_true rfl) ?_
                  refine S.if_ne (pc' := 131) (tgt := 142) dX6_settle_128 (by decide) rfl (by unfold fp_rng; omega) (fun h128 => ?_) (fun h128 => ?_)
                  · refine S.iinc (pc' := 145) (LL' := [_, _, _]) dX6_settle_142 rfl (by decide) rfl rfl rfl ?_
                    refine S.goto (pc' := 61) dX6_settle_145 (by decide) ?_
                    first | exact ih (i + 1) _ _ (by omega) (by omega) (by omega) (hbad (fun q => hl2 q.2)) | exact absurd rfl h128 | (exfalso; omega)
                  · refine S.aload_n (pc' := 132) dX6_settle_131 rfl rfl rfl ?_
                    refine S.bipush (pc' := 134) dX6_settle_132 rfl (by decide) ?_
                    refine S.aload_n (pc' := 135) dX6_settle_134 rfl rfl rfl ?_
                    refine S.getI (pc' := 138) dX6_settle_135 rfl fX6_36 L_2 ?_
                    rw [e26]
                    refine S.callVe (pc' := 141) dX6_settle_138 rfl cX6_89 ok_X6_refuse rfl L_2 (by decide) rfl (Nat.le_of_ble_eq_true rfl) ?_
                    refine S.pop (pc' := 142) dX6_settle_141 rfl rfl ?_
                    refine S.iinc (pc' := 145) (LL' := [_, _, _]) dX6_settle_142 rfl (by decide) rfl rfl rfl ?_
                    refine S.goto (pc' := 61) dX6_settle_145 (by decide) ?_
                    first | exact ih (i + 1) _ _ (by omega) (by omega) (by omega) (hbad (fun q => hl2 q.2)) | exact absurd rfl h128 | (exfalso; omega)
end SE2
end
section
/-! A TEXT, whole: the class -/
section TX2
variable {l : Launch} {G : fp_WG} {M N : fp_Mem} {tp : List Int} {D : pD} {g0 : aGd}
/-- how settling ends -/
def seP (tp : List Int) (D : pD) (M N : fp_Mem) : Prop := seF M N ∧ ((stOk D ∧ N 2 3 = 0 ∧ seR D M N D.1.2.1 0) ∨ (¬ stOk D ∧ flt N (tp.length : Int)))
theorem se_vis {A : fp_Mem} {o : Option Value} {x : Int} (hm : rdT M tp) (hd : rdD M D) (hD : dOk D) (hA : seI tp D M A D.1.2.1 0) : fp_S l G 2 kX6_settle 59 [some (rV G 2), some (iV x), o] [] A (qV fun N => seP tp D M N) := by
  obtain ⟨hf, hc⟩ := hA
  have hg2 := hD.1.2.1
  have hvA : vsIs A 12 D.2.2.2.2.2 := hd.2.2.1.kept (fun a q1 q2 => hf.1 a (by omega) (by omega) (by omega))
  have h30 : A 3 0 = D.1.1 ∧ A 3 1 = D.1.2.1 := by rw [hf.1 3 (by decide) (by decide) (by decide)]; exact ⟨hd.1.1, hd.1.2.1⟩
  have h26 : A 2 6 = (tp.length : Int) := by rw [hf.2 6 (by decide) (by decide)]; exact hm.2.1
  have hst : svI tp D (A 2 3 = 0 ∧ seR D M A D.1.2.1 0) A A 0 := by
    refine ⟨fun _ _ => rfl, fun _ _ _ => rfl, ?_⟩
    rcases hc with hc | ⟨⟨y, t, hy, ht, hn⟩, hc⟩
    · exact Or.inl ⟨hc, hc.1, fun j j0 j1 => absurd j1 (by omega)⟩
    · exact Or.inr ⟨fun s => hn (s.1 y t hy.1 hy.2 ht), hc⟩
  refine S.iconst (pc' := 60) dX6_settle_59 rfl ?_
  refine S.istore_n (pc' := 61) (LL' := [_, _, _]) dX6_settle_60 rfl (by decide) rfl rfl rfl ?_
  refine (sv_loop (P := (A 2 3 = 0 ∧ seR D M A D.1.2.1 0)) h30 h26 hvA hD _ 0 A _ rfl (by omega) (by omega) hst).wV (fun O hO => ?_)
  obtain ⟨b1, b2, b3⟩ := hO
  have hfO : seF M O := ⟨fun a q2 q8 q9 => by rw [b1 a q2]; exact hf.1 a q2 q8 q9, fun j q3 q4 => by rw [b2 j q3 q4]; exact hf.2 j q3 q4⟩
  refine ⟨hfO, ?_⟩
  rcases b3 with ⟨⟨k0, k1⟩, k2, k3⟩ | b3
  · refine Or.inl ⟨⟨fun x t x0 x1 ht => ?_, fun v hv => ?_⟩, k2, ?_⟩
    · by_cases e : x < D.1.2.1
      · exact (k1.1 x t x0 e ht).1
      · rw [(hD.2.2.1 x x0 x1).2.2.1 (by omega)] at ht
        exact (List.not_mem_nil ht).elim
    · obtain ⟨j, hj, rfl⟩ := List.getElem_of_mem hv
      have := k3 (j : Int) (by omega) (by omega)
      rw [Int.toNat_natCast, List.getD_eq_getElem?_getD, List.getElem?_eq_getElem hj] at this
      exact this
    · unfold seR at *
      rw [b1 8 (by decide), b1 9 (by decide)]
      exact k1
  · exact Or.inr b3
theorem rk_X6_settle (hm : rdT M tp) (h3 : M 2 3 = 0) (hd : rdD M D) (hD : dOk D) : fp_Ok l G 2 kX6_settle [rV G 2] M (qV fun N => seP tp D M N) := by
  refine fp_Ok.of (r := 2) rfl (Nat.le_of_ble_eq_true rfl) rfl ?_
  have hg2 := hD.1.2.1
  refine S.iconst (pc' := 1) dX6_settle_0 rfl ?_
  refine S.istore_n (pc' := 2) (LL' := [_, _, _]) dX6_settle_1 rfl (by decide) rfl rfl rfl ?_
  refine se_out hm hd hD (fun A o hA => ?_) _ 0 _ _ rfl (by omega) (by omega) ⟨seF.refl M, Or.inl ⟨h3, fun y t y0 y1 => absurd y1 (by omega), fun t ht => by simp at ht, fun t t0 t1 _ _ => ⟨rfl, hd.2.1.2.2.1 t t0 t1⟩⟩⟩
  exact se_vis hm hd hD hA
/-- the rows of a text that was taken -/
def pPg (D : pD) : aPg := (fun t => if t ∈ D.2.2.1 0 then 10 else if t ∈ D.2.2.1 1 then 11 else if t ∈ D.2.2.1 2 then 12 else D.2.1 t, D.2.1, D.2.2.1)
def rtP (tp : List Int) (M N : fp_Mem) (z : Int) : Prop := fR M N ∧ rdI N ∧ ((∃ h, pText tp (tp.length + 1) 0 0 pD0 = .inl h ∧ flt N h) ∨ ∃ q, pText tp (tp.length + 1) 0 0 pD0 = .inr q ∧ z = q.1 ∧ dOk q.2 ∧ ((stOk q.2 ∧ N 2 3 = 0 ∧ gdIs N 3 q.2.1 ∧ clIs N 7 q.2.1 (pPg q.2) ∧ vsIs N 12 q.2.2.2.2.2.2) ∨ (¬ stOk q.2 ∧ flt N (tp.length : Int))))
theorem se_gd (hd : rdG M g0) (hi : rdI M) (hg : gOk g0) : gdIs M 3 g0 := by
  obtain ⟨d1, d2, d3, d4, d5, d6⟩ := hd
  obtain ⟨i1, i2, i3, i4, i5, i6⟩ := hi
  refine ⟨d1, d2, d3, d4, i2, d5, i4, d6, ⟨by rw [d1]; exact hg.1, by rw [d2]; exact hg.2.1, by rw [d3]; exact hg.2.2.1, fun i a b => ?_, fun i a b => i3 i a b, fun i a b => i5 i a b⟩⟩
  have := i1 i a b
  exact ⟨this.1, by show M 4 i.toNat ≤ 100; omega⟩
end TX2
end
