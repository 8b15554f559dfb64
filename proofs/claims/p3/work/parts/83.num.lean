/-! THE CLASS READS A NUMBER, A STOP -/
/-- a NUMBER within bounds stands next; a STOP -/
abbrev nmOk (tp : List Int) (s lo hi : Int) : Prop := tkOk tp (tkS tp s) ∧ tkK tp (tkS tp s) = 2 ∧ lo ≤ tkV tp (tkS tp s) ∧ tkV tp (tkS tp s) ≤ hi
abbrev spOk (tp : List Int) (s : Int) : Prop := tkOk tp (tkS tp s) ∧ tkK tp (tkS tp s) = 3
def nxt (tp : List Int) (s : Int) : Int := tkE tp (tkS tp s)
def num (tp : List Int) (s : Int) : Int := tkV tp (tkS tp s)
theorem nxt_le {tp : List Int} {s : Int} (h : s ≤ (tp.length : Int)) : s ≤ nxt tp s ∧ nxt tp s ≤ (tp.length : Int) := by
  have h1 := tkS_le h
  have h2 := tkE_le h1.2
  unfold nxt
  omega
theorem aDec_in {tp : List Int} {h : Int} {k : Nat} (hk : k ≤ 2) (hf : ∀ i : Int, 0 ≤ i → i < (k : Int) → 48 ≤ aBy tp (h + i) ∧ aBy tp (h + i) ≤ 57) : 0 ≤ aDec tp h k ∧ aDec tp h k ≤ 99 := by
  rcases (show k = 0 ∨ k = 1 ∨ k = 2 by omega) with rfl | rfl | rfl
  · simp [aDec]
  · have := hf 0 (by omega) (by omega)
    simp only [aDec]
    have e : h + ((0 : Nat) : Int) = h + 0 := rfl
    rw [e]
    omega
  · have h0 := hf 0 (by omega) (by omega)
    have h1 := hf 1 (by omega) (by omega)
    simp only [aDec]
    have e : h + ((0 : Nat) : Int) = h + 0 := rfl
    have e1 : h + ((1 : Nat) : Int) = h + 1 := rfl
    rw [e, e1]
    omega
theorem aTo_in {P : Int → Bool} {tp : List Int} : ∀ (r : Nat) (i j : Int), i ≤ j → j < aTo P tp r i → P (aBy tp j) = true
  | 0, i, j, h0, h1 => by unfold aTo at h1; omega
  | r + 1, i, j, h0, h1 => by
    unfold aTo at h1
    by_cases hp : P (aBy tp i) = true
    · rw [if_pos hp] at h1
      by_cases e : j = i
      · subst e; exact hp
      · exact aTo_in r (i + 1) j (by omega) h1
    · rw [if_neg hp] at h1; omega
theorem tkV_in {tp : List Int} {h : Int} (hh : h ≤ (tp.length : Int)) (hk : tkK tp h = 2) (ho : tkOk tp h) : 0 ≤ tkV tp h ∧ tkV tp h ≤ 99 := by
  unfold tkK at hk
  by_cases h1 : (tp.length : Int) ≤ h
  · rw [if_pos h1] at hk; omega
  · rw [if_neg h1] at hk
    by_cases h2 : isLe (aBy tp h) = true
    · rw [if_pos h2] at hk; omega
    · rw [if_neg h2] at hk
      by_cases h3 : isFi (aBy tp h) = true
      · have e : tkE tp h = aEnd isFi tp h := by unfold tkE; rw [if_neg h1, if_neg h2, if_pos h3]
        have hle : aEnd isFi tp h - h ≤ 2 := by
          rcases ho with q | q | q | q
          · omega
          · exact absurd q h2
          · exact q.2
          · rw [h3] at q; exact absurd q.1 (by decide)
        have hge := (aEnd_le (P := isFi) (tp := tp) hh).1
        unfold tkV
        rw [e]
        refine aDec_in (by omega) (fun i i0 i1 => ?_)
        have := aTo_in (P := isFi) (tp := tp) _ h (h + i) (by omega) (show h + i < aEnd isFi tp h by omega)
        unfold isFi at this
        simpa only [decide_eq_true_eq] using this
      · rw [if_neg h3] at hk; omega
/-- only the reader's own cell differs, in what it reads -/
def fr2 (M N : fp_Mem) : Prop := (∀ a, a ≠ 2 → N a = M a) ∧ ∀ j, j ≠ 7 → j ≠ 8 → j ≠ 9 → j ≠ 10 → j ≠ 3 → j ≠ 4 → N 2 j = M 2 j
def flt (N : fp_Mem) (h : Int) : Prop := (1 ≤ N 2 3 ∧ N 2 3 ≤ 6) ∧ N 2 4 = h
theorem fr2.rd {tp : List Int} {M N : fp_Mem} (h : fr2 M N) (hm : rdT M tp) : rdT N tp := by
  obtain ⟨h1, h2⟩ := h
  obtain ⟨m1, m2, m3⟩ := hm
  exact ⟨by rw [h2 5 (by decide) (by decide) (by decide) (by decide) (by decide) (by decide)]; exact m1, by rw [h2 6 (by decide) (by decide) (by decide) (by decide) (by decide) (by decide)]; exact m2, fun i i0 i1 => by rw [h1 1 (by decide)]; exact m3 i i0 i1⟩
theorem fr2.refuse {M N : fp_Mem} {w x : Int} (h : fr2 M N) : fr2 M (fp_up (fp_up N 2 3 w) 2 4 x) := by
  refine ⟨fun a ha => by rw [fp_up_ne ha, fp_up_ne ha]; exact h.1 a ha, fun j q7 q8 q9 q10 q3 q4 => ?_⟩
  rw [fp_up_at, fp_upf_ne q4, fp_up_at, fp_upf_ne q3]
  exact h.2 j q7 q8 q9 q10 q3 q4
theorem flt_refuse {N : fp_Mem} {w x : Int} (h : 1 ≤ w ∧ w ≤ 6) : flt (fp_up (fp_up N 2 3 w) 2 4 x) x := ⟨h, rfl⟩
theorem fr2.trans {M N O : fp_Mem} (h : fr2 M N) (h2 : fr2 N O) : fr2 M O := ⟨fun a ha => (h2.1 a ha).trans (h.1 a ha), fun j q7 q8 q9 q10 q3 q4 => (h2.2 j q7 q8 q9 q10 q3 q4).trans (h.2 j q7 q8 q9 q10 q3 q4)⟩
def rnP (tp : List Int) (M N : fp_Mem) (s lo hi z : Int) : Prop := fr2 M N ∧ ((nmOk tp s lo hi ∧ z = 1 ∧ N 2 10 = num tp s ∧ N 2 7 = nxt tp s ∧ N 2 3 = M 2 3) ∨ (¬ nmOk tp s lo hi ∧ z = 0 ∧ flt N (tkS tp s)))
def spP (tp : List Int) (M N : fp_Mem) (s z : Int) : Prop := fr2 M N ∧ ((spOk tp s ∧ z = 1 ∧ N 2 7 = nxt tp s ∧ N 2 3 = M 2 3) ∨ (¬ spOk tp s ∧ z = 0 ∧ flt N (tkS tp s)))
theorem tkK_in (tp : List Int) (h : Int) : 0 ≤ tkK tp h ∧ tkK tp h ≤ 3 := by
  unfold tkK
  repeat' split
  all_goals omega
section NUM
variable {l : Launch} {G : fp_WG} {M : fp_Mem} {tp : List Int}
theorem rk_X6_readNumber {s lo hi : Int} (ht : tpOk tp) (hm : rdT M tp) (hs : M 2 7 = s) (h0 : 0 ≤ s) (h1 : s ≤ (tp.length : Int)) (hlo : fp_rng lo) (hhi : fp_rng hi) : fp_Ok l G 2 kX6_readNumber [rV G 2, iV lo, iV hi] M (qI fun z N => rnP tp M N s lo hi z) := by
  refine fp_Ok.of (r := 0) rfl (Nat.le_of_ble_eq_true rfl) rfl ?_
  have hl := tkS_le h1
  have hK := tkK_in tp (tkS tp s)
  refine S.aload_n (pc' := 1) dX6_readNumber_0 rfl rfl rfl ?_
  refine S.callVi (pc' := 4) dX6_readNumber_1 rfl cX6_60 (rk_X6_step ht hm hs h0 h1) rfl L_2 (by decide) rfl (Nat.le_of_ble_eq_true rfl) (fun z1 M1 q1 => ?_)
  obtain ⟨a1, a2, a3, a4, a5⟩ := q1
  have hfr : fr2 M M1 := ⟨a1, a2⟩
  refine S.if_ne (pc' := 7) (tgt := 9) dX6_readNumber_4 (by decide) rfl (by unfold fp_rng; omega) (fun h4 => ?_) (fun h4 => ?_)
  · refine S.aload_n (pc' := 10) dX6_readNumber_9 rfl rfl rfl ?_
    refine S.getI (pc' := 13) dX6_readNumber_10 rfl fX6_64 L_2 ?_
    refine S.iconst (pc' := 14) dX6_readNumber_13 rfl ?_
    rw [a3]
    refine S.icmp_eq (pc' := 17) (tgt := 27) dX6_readNumber_14 (by decide) rfl (by unfold fp_rng; omega) (by unfold fp_rng; omega) (fun h14 => ?_) (fun h14 => ?_)
    · have hok : tkOk tp (tkS tp s) := by
        rcases a5 with q | q
        · exact q.1
        · exfalso; omega
      have h10 : M1 2 10 = tkV tp (tkS tp s) ∧ M1 2 7 = tkE tp (tkS tp s) ∧ M1 2 3 = M 2 3 := by
        rcases a5 with q | q
        · exact ⟨q.2.2.2.2 h14, q.2.2.1, q.2.2.2.1⟩
        · exfalso; omega
      have hv := tkV_in hl.2 h14 hok
      refine S.aload_n (pc' := 28) dX6_readNumber_27 rfl rfl rfl ?_
      refine S.getI (pc' := 31) dX6_readNumber_28 rfl fX6_86 L_2 ?_
      refine S.iload_n (pc' := 32) dX6_readNumber_31 rfl rfl rfl ?_
      rw [h10.1]
      refine S.icmp_lt (pc' := 35) (tgt := 43) dX6_readNumber_32 (by decide) rfl (by unfold fp_rng; omega) hlo (fun h32 => ?_) (fun h32 => ?_)
      · refine S.aload_n (pc' := 44) dX6_readNumber_43 rfl rfl rfl ?_
        refine S.iconst (pc' := 45) dX6_readNumber_44 rfl ?_
        refine S.aload_n (pc' := 46) dX6_readNumber_45 rfl rfl rfl ?_
        refine S.getI (pc' := 49) dX6_readNumber_46 rfl fX6_76 L_2 ?_
        rw [a4]
        refine S.callVe (pc' := 52) dX6_readNumber_49 rfl cX6_89 ok_X6_refuse rfl L_2 (by decide) rfl (Nat.le_of_ble_eq_true rfl) ?_
        refine S.if_eq (pc' := 55) (tgt := 59) dX6_readNumber_52 (by decide) rfl (by unfold fp_rng; omega) (fun h52 => ?_) (fun h52 => ?_)
        · refine S.iconst (pc' := 60) dX6_readNumber_59 rfl ?_
          refine S.zret dX6_readNumber_60 rfl (by first | exact Or.inl rfl | exact Or.inr rfl | omega) ?_
          first
          | exact ⟨hfr.refuse, Or.inr ⟨fun x => by have := x.2.2; omega, rfl, flt_refuse (by omega)⟩⟩
          | exact ⟨hfr, Or.inl ⟨⟨hok, h14, by omega, by omega⟩, rfl, h10.1, h10.2.1, h10.2.2⟩⟩
          | exact absurd rfl h52
        · refine S.iconst (pc' := 56) dX6_readNumber_55 rfl ?_
          refine S.goto (pc' := 60) dX6_readNumber_56 (by decide) ?_
          refine S.zret dX6_readNumber_60 rfl (by first | exact Or.inl rfl | exact Or.inr rfl | omega) ?_
          first
          | exact ⟨hfr.refuse, Or.inr ⟨fun x => by have := x.2.2; omega, rfl, flt_refuse (by omega)⟩⟩
          | exact ⟨hfr, Or.inl ⟨⟨hok, h14, by omega, by omega⟩, rfl, h10.1, h10.2.1, h10.2.2⟩⟩
          | exact absurd rfl h52
      · refine S.aload_n (pc' := 36) dX6_readNumber_35 rfl rfl rfl ?_
        refine S.getI (pc' := 39) dX6_readNumber_36 rfl fX6_86 L_2 ?_
        refine S.iload_n (pc' := 40) dX6_readNumber_39 rfl rfl rfl ?_
        rw [h10.1]
        refine S.icmp_le (pc' := 43) (tgt := 55) dX6_readNumber_40 (by decide) rfl (by unfold fp_rng; omega) hhi (fun h40 => ?_) (fun h40 => ?_)
        · refine S.iconst (pc' := 56) dX6_readNumber_55 rfl ?_
          refine S.goto (pc' := 60) dX6_readNumber_56 (by decide) ?_
          refine S.zret dX6_readNumber_60 rfl (by first | exact Or.inl rfl | exact Or.inr rfl | omega) ?_
          first
          | exact ⟨hfr.refuse, Or.inr ⟨fun x => by have := x.2.2; omega, rfl, flt_refuse (by omega)⟩⟩
          | exact ⟨hfr, Or.inl ⟨⟨hok, h14, by omega, by omega⟩, rfl, h10.1, h10.2.1, h10.2.2⟩⟩
          | exact absurd rfl h52
        · refine S.aload_n (pc' := 44) dX6_readNumber_43 rfl rfl rfl ?_
          refine S.iconst (pc' := 45) dX6_readNumber_44 rfl ?_
          refine S.aload_n (pc' := 46) dX6_readNumber_45 rfl rfl rfl ?_
          refine S.getI (pc' := 49) dX6_readNumber_46 rfl fX6_76 L_2 ?_
          rw [a4]
          refine S.callVe (pc' := 52) dX6_readNumber_49 rfl cX6_89 ok_X6_refuse rfl L_2 (by decide) rfl (Nat.le_of_ble_eq_true rfl) ?_
          refine S.if_eq (pc' := 55) (tgt := 59) dX6_readNumber_52 (by decide) rfl (by unfold fp_rng; omega) (fun h52 => ?_) (fun h52 => ?_)
          · refine S.iconst (pc' := 60) dX6_readNumber_59 rfl ?_
            refine S.zret dX6_readNumber_60 rfl (by first | exact Or.inl rfl | exact Or.inr rfl | omega) ?_
            first
            | exact ⟨hfr.refuse, Or.inr ⟨fun x => by have := x.2.2; omega, rfl, flt_refuse (by omega)⟩⟩
            | exact ⟨hfr, Or.inl ⟨⟨hok, h14, by omega, by omega⟩, rfl, h10.1, h10.2.1, h10.2.2⟩⟩
            | exact absurd rfl h52
          · refine S.iconst (pc' := 56) dX6_readNumber_55 rfl ?_
            refine S.goto (pc' := 60) dX6_readNumber_56 (by decide) ?_
            refine S.zret dX6_readNumber_60 rfl (by first | exact Or.inl rfl | exact Or.inr rfl | omega) ?_
            first
            | exact ⟨hfr.refuse, Or.inr ⟨fun x => by have := x.2.2; omega, rfl, flt_refuse (by omega)⟩⟩
            | exact ⟨hfr, Or.inl ⟨⟨hok, h14, by omega, by omega⟩, rfl, h10.1, h10.2.1, h10.2.2⟩⟩
            | exact absurd rfl h52
    · refine S.aload_n (pc' := 18) dX6_readNumber_17 rfl rfl rfl ?_
      refine S.iconst (pc' := 19) dX6_readNumber_18 rfl ?_
      refine S.aload_n (pc' := 20) dX6_readNumber_19 rfl rfl rfl ?_
      refine S.getI (pc' := 23) dX6_readNumber_20 rfl fX6_76 L_2 ?_
      rw [a4]
      refine S.callVe (pc' := 26) dX6_readNumber_23 rfl cX6_89 ok_X6_refuse rfl L_2 (by decide) rfl (Nat.le_of_ble_eq_true rfl) ?_
      refine S.zret dX6_readNumber_26 rfl (Or.inl rfl) ?_
      exact ⟨hfr.refuse, Or.inr ⟨fun x => h14 x.2.1, rfl, flt_refuse (by omega)⟩⟩
  · refine S.iconst (pc' := 8) dX6_readNumber_7 rfl ?_
    refine S.zret dX6_readNumber_8 rfl (by first | exact Or.inl rfl | exact Or.inr rfl | omega) ?_
    refine ⟨hfr, Or.inr ?_⟩
    rcases a5 with q | q
    · exfalso; omega
    · exact ⟨fun x => q.1 x.1, rfl, ⟨by omega, by omega⟩, q.2.2.2⟩
theorem rk_X6_readStop {s : Int} (ht : tpOk tp) (hm : rdT M tp) (hs : M 2 7 = s) (h0 : 0 ≤ s) (h1 : s ≤ (tp.length : Int)) : fp_Ok l G 2 kX6_readStop [rV G 2] M (qI fun z N => spP tp M N s z) := by
  refine fp_Ok.of (r := 0) rfl (Nat.le_of_ble_eq_true rfl) rfl ?_
  have hK := tkK_in tp (tkS tp s)
  refine S.aload_n (pc' := 1) dX6_readStop_0 rfl rfl rfl ?_
  refine S.callVi (pc' := 4) dX6_readStop_1 rfl cX6_60 (rk_X6_step ht hm hs h0 h1) rfl L_2 (by decide) rfl (Nat.le_of_ble_eq_true rfl) (fun z1 M1 q1 => ?_)
  obtain ⟨a1, a2, a3, a4, a5⟩ := q1
  have hfr : fr2 M M1 := ⟨a1, a2⟩
  refine S.if_eq (pc' := 7) (tgt := 31) dX6_readStop_4 (by decide) rfl (by unfold fp_rng; omega) (fun h4 => ?_) (fun h4 => ?_)
  · refine S.iconst (pc' := 32) dX6_readStop_31 rfl ?_
    refine S.zret dX6_readStop_32 rfl (by first | exact Or.inl rfl | exact Or.inr rfl | omega) ?_
    rcases a5 with q | q
    · first
      | (exfalso; omega)
      | exact ⟨hfr, Or.inl ⟨⟨q.1, h12⟩, rfl, q.2.2.1, q.2.2.2.1⟩⟩
      | exact ⟨hfr.refuse, Or.inr ⟨fun x => h12 x.2, rfl, flt_refuse (by omega)⟩⟩
      | exact absurd rfl h24
    · first
      | (exfalso; omega)
      | exact ⟨hfr, Or.inr ⟨fun x => q.1 x.1, rfl, ⟨by omega, by omega⟩, q.2.2.2⟩⟩
  · refine S.aload_n (pc' := 8) dX6_readStop_7 rfl rfl rfl ?_
    refine S.getI (pc' := 11) dX6_readStop_8 rfl fX6_64 L_2 ?_
    refine S.iconst (pc' := 12) dX6_readStop_11 rfl ?_
    rw [a3]
    refine S.icmp_eq (pc' := 15) (tgt := 27) dX6_readStop_12 (by decide) rfl (by unfold fp_rng; omega) (by unfold fp_rng; omega) (fun h12 => ?_) (fun h12 => ?_)
    · refine S.iconst (pc' := 28) dX6_readStop_27 rfl ?_
      refine S.goto (pc' := 32) dX6_readStop_28 (by decide) ?_
      refine S.zret dX6_readStop_32 rfl (by first | exact Or.inl rfl | exact Or.inr rfl | omega) ?_
      rcases a5 with q | q
      · first
        | (exfalso; omega)
        | exact ⟨hfr, Or.inl ⟨⟨q.1, h12⟩, rfl, q.2.2.1, q.2.2.2.1⟩⟩
        | exact ⟨hfr.refuse, Or.inr ⟨fun x => h12 x.2, rfl, flt_refuse (by omega)⟩⟩
        | exact absurd rfl h24
      · first
        | (exfalso; omega)
        | exact ⟨hfr, Or.inr ⟨fun x => q.1 x.1, rfl, ⟨by omega, by omega⟩, q.2.2.2⟩⟩
    · refine S.aload_n (pc' := 16) dX6_readStop_15 rfl rfl rfl ?_
      refine S.iconst (pc' := 17) dX6_readStop_16 rfl ?_
      refine S.aload_n (pc' := 18) dX6_readStop_17 rfl rfl rfl ?_
      refine S.getI (pc' := 21) dX6_readStop_18 rfl fX6_76 L_2 ?_
      rw [a4]
      refine S.callVe (pc' := 24) dX6_readStop_21 rfl cX6_89 ok_X6_refuse rfl L_2 (by decide) rfl (Nat.le_of_ble_eq_true rfl) ?_
      refine S.if_eq (pc' := 27) (tgt := 31) dX6_readStop_24 (by decide) rfl (by unfold fp_rng; omega) (fun h24 => ?_) (fun h24 => ?_)
      · refine S.iconst (pc' := 32) dX6_readStop_31 rfl ?_
        refine S.zret dX6_readStop_32 rfl (by first | exact Or.inl rfl | exact Or.inr rfl | omega) ?_
        rcases a5 with q | q
        · first
          | (exfalso; omega)
          | exact ⟨hfr, Or.inl ⟨⟨q.1, h12⟩, rfl, q.2.2.1, q.2.2.2.1⟩⟩
          | exact ⟨hfr.refuse, Or.inr ⟨fun x => h12 x.2, rfl, flt_refuse (by omega)⟩⟩
          | exact absurd rfl h24
        · first
          | (exfalso; omega)
          | exact ⟨hfr, Or.inr ⟨fun x => q.1 x.1, rfl, ⟨by omega, by omega⟩, q.2.2.2⟩⟩
      · refine S.iconst (pc' := 28) dX6_readStop_27 rfl ?_
        refine S.goto (pc' := 32) dX6_readStop_28 (by decide) ?_
        refine S.zret dX6_readStop_32 rfl (by first | exact Or.inl rfl | exact Or.inr rfl | omega) ?_
        rcases a5 with q | q
        · first
          | (exfalso; omega)
          | exact ⟨hfr, Or.inl ⟨⟨q.1, h12⟩, rfl, q.2.2.1, q.2.2.2.1⟩⟩
          | exact ⟨hfr.refuse, Or.inr ⟨fun x => h12 x.2, rfl, flt_refuse (by omega)⟩⟩
          | exact absurd rfl h24
        · first
          | (exfalso; omega)
          | exact ⟨hfr, Or.inr ⟨fun x => q.1 x.1, rfl, ⟨by omega, by omega⟩, q.2.2.2⟩⟩
end NUM
