/-! A LINE TOLD IN A TEXT: the class, THING by THING -/
section LI2
variable {l : Launch} {G : fp_WG} {M N : fp_Mem} {tp : List Int} {D : pD} {s st : Int}
def liI (M N : fp_Mem) (x : Int) (L : List Int) (mk s : Int) : Prop := (∀ a, a ≠ 2 → a ≠ 10 → a ≠ 11 → N a = M a) ∧ (∀ j, j ≠ 7 → j ≠ 8 → j ≠ 9 → j ≠ 10 → j ≠ 3 → j ≠ 4 → j ≠ 11 → N 2 j = M 2 j) ∧ N 2 11 = mk ∧ (0 ≤ mk ∧ mk < 1024) ∧ N 2 7 = s ∧ N 2 3 = 0 ∧ (∀ y : Nat, y ≠ x.toNat → N 10 y = M 10 y) ∧ N 10 x.toNat = (L.length : Int) ∧ (∀ j : Nat, ¬ (x * 8 ≤ (j : Int) ∧ (j : Int) < x * 8 + (L.length : Int)) → N 11 j = M 11 j) ∧ (∀ i : Int, 0 ≤ i → i < (L.length : Int) → N 11 (x * 8 + i).toNat = L.getD i.toNat 0) ∧ L.length ≤ 8 ∧ ∀ v ∈ L, 0 ≤ v ∧ v < 10
theorem liI.T {x mk : Int} {L : List Int} (h : liI M N x L mk s) (hm : rdT M tp) : rdT N tp := ⟨by rw [h.2.1 5 (by decide) (by decide) (by decide) (by decide) (by decide) (by decide) (by decide)]; exact hm.1, by rw [h.2.1 6 (by decide) (by decide) (by decide) (by decide) (by decide) (by decide) (by decide)]; exact hm.2.1, fun i i0 i1 => by rw [h.1 1 (by decide) (by decide) (by decide)]; exact hm.2.2 i i0 i1⟩
theorem liI.I {x mk : Int} {L : List Int} (h : liI M N x L mk s) (hi : rdI M) (hx : 0 ≤ x ∧ x < 3) : rdI N := by
  obtain ⟨a1, a2, a3, a4, a5, a6, a7, a8, a9, a10, a11, a12⟩ := h
  obtain ⟨i1, i2, i3, i4, i5, i6⟩ := hi
  refine ⟨?_, ?_, ?_, ?_, ?_, fun i i0 i1 => ?_⟩
  · rw [a1 4 (by decide) (by decide) (by decide)]; exact i1
  · rw [a1 4 (by decide) (by decide) (by decide)]; exact i2
  · rw [a1 5 (by decide) (by decide) (by decide)]; exact i3
  · rw [a1 5 (by decide) (by decide) (by decide)]; exact i4
  · rw [a1 6 (by decide) (by decide) (by decide)]; exact i5
  · by_cases hc : x * 8 ≤ i ∧ i < x * 8 + (L.length : Int)
    · have e := a10 (i - x * 8) (by omega) (by omega)
      rw [show x * 8 + (i - x * 8) = i by omega] at e
      rw [e]
      have hm : L.getD (i - x * 8).toNat 0 ∈ L := by
        rw [List.getD_eq_getElem?_getD, List.getElem?_eq_getElem (by omega)]
        exact List.getElem_mem _
      have := a12 _ hm
      omega
    · rw [a9 i.toNat (by omega)]; exact i6 i i0 i1
theorem liI.fr {x mk s' : Int} {L : List Int} {O : fp_Mem} (h : liI M N x L mk s) (f : fr2 N O) (h7 : O 2 7 = s') (h3 : O 2 3 = 0) : liI M O x L mk s' := by
  obtain ⟨a1, a2, a3, a4, a5, a6, a7, a8, a9, a10, a11, a12⟩ := h
  refine ⟨fun a q2 q10 q11 => by rw [f.1 a q2]; exact a1 a q2 q10 q11, fun j q7 q8 q9 q10 q3 q4 q11 => by rw [f.2 j q7 q8 q9 q10 q3 q4]; exact a2 j q7 q8 q9 q10 q3 q4 q11, by rw [f.2 11 (by decide) (by decide) (by decide) (by decide) (by decide) (by decide)]; exact a3, a4, h7, h3, ?_, ?_, ?_, ?_, a11, a12⟩
  · rw [f.1 10 (by decide)]; exact a7
  · rw [f.1 10 (by decide)]; exact a8
  · rw [f.1 11 (by decide)]; exact a9
  · rw [f.1 11 (by decide)]; exact a10
theorem liI.add {x mk v : Int} {L : List Int} (h : liI M N x L mk s) (hx : 0 ≤ x ∧ x < 3) (hv : 0 ≤ v ∧ v < 10) (hl : L.length < 8) : liI M (fp_up (fp_up (fp_up N 2 11 (fp_or mk (2 ^ v.toNat))) 11 (x * 8 + (L.length : Int)).toNat v) 10 x.toNat ((L.length : Int) + 1)) x (L ++ [v]) (fp_or mk (2 ^ v.toNat)) s := by
  obtain ⟨a1, a2, a3, a4, a5, a6, a7, a8, a9, a10, a11, a12⟩ := h
  have hp3 : (2 : Int) ^ v.toNat < 1024 := by
    have q : ∀ n : Nat, n < 10 → (2 : Int) ^ n < 1024 := by decide +kernel
    exact q _ (by omega)
  have hlen : ((L ++ [v]).length : Int) = (L.length : Int) + 1 := by simp
  refine ⟨fun a q2 q10 q11 => by rw [fp_up_ne q10, fp_up_ne q11, fp_up_ne q2]; exact a1 a q2 q10 q11, fun j q7 q8 q9 q10 q3 q4 q11 => by rw [fp_up_ne (by decide), fp_up_ne (by decide), fp_up_at, fp_upf_ne q11]; exact a2 j q7 q8 q9 q10 q3 q4 q11, rfl, ⟨fp_or_nn _ _, fp_or_lt (n := 10) a4.2 hp3⟩, a5, a6, fun y hy => ?_, ?_, fun j hj => ?_, fun i i0 i1 => ?_, by simp; omega, fun u hu => ?_⟩
  · rw [fp_up_at, fp_upf_ne hy, fp_up_ne (by decide), fp_up_ne (by decide)]; exact a7 y hy
  · rw [fp_up_at, fp_upf_at, hlen]
  · rw [hlen] at hj
    rw [fp_up_ne (by decide), fp_up_at, fp_upf_ne (by omega), fp_up_ne (by decide)]
    exact a9 j (by omega)
  · rw [hlen] at i1
    rw [fp_up_ne (by decide), fp_up_at]
    by_cases e : i = (L.length : Int)
    · subst e
      rw [fp_upf_at, Int.toNat_natCast, List.getD_eq_getElem?_getD, List.getElem?_append_right (Nat.le_refl _)]
      simp
    · rw [fp_upf_ne (by omega), fp_up_ne (by decide), a10 i i0 (by omega), List.getD_eq_getElem?_getD, List.getD_eq_getElem?_getD, List.getElem?_append_left (by omega)]
  · rcases List.mem_append.mp hu with q | q
    · exact a12 u q
    · simp only [List.mem_singleton] at q
      subst q; exact hv
theorem li_go {x kd a b : Int} {Q : fp_Q} (h : fp_S l G 6 kX6_readLineOfThings 78 [some (rV G 2), some (iV x), some (iV kd), some (iV b)] [] N Q) (e : a = b) : fp_S l G 6 kX6_readLineOfThings 78 [some (rV G 2), some (iV x), some (iV kd), some (iV a)] [] N Q := by
  subst e; exact h
theorem li_loop {R : Int ⊕ (Int × pD)} {M0 : fp_Mem} {x kd : Int} {Dn : List Int → Int → pD} (ht : tpOk tp) (hf : fR M0 M) (hm : rdT M tp) (hi : rdI M) (hx : 0 ≤ x ∧ x < 3) (hDn : ∀ (N : fp_Mem) (L : List Int) (mk s : Int), liI M N x L mk s → rdD N (Dn L mk)) : ∀ (k : Nat) (s : Int) (L : List Int) (mk : Int) (N : fp_Mem), (9 - L.length) = k → 0 ≤ s → s ≤ (tp.length : Int) → liI M N x L mk s → (match pIt tp k s L mk with | .inl h => .inl h | .inr q => .inr (q.1, Dn q.2.1 q.2.2)) = R →
    fp_S l G 6 kX6_readLineOfThings 78 [some (rV G 2), some (iV x), some (iV kd), some (iV (L.length : Int))] [] N (qI fun z O => lnP tp M0 O R z) := by
  intro k
  induction k with
  | zero =>
    intro s L mk N hk s0 s1 hI hR
    have := hI.2.2.2.2.2.2.2.2.2.2.1
    omega
  | succ k ih =>
    intro s L mk N hk s0 s1 hI hR
    have hmN := hI.T hm
    have hIN := hI.I hi hx
    have hL8 := hI.2.2.2.2.2.2.2.2.2.2.1
    have hfN : fR M0 N := hf.trans (fun a ha => hI.1 a (by omega) (by omega) (by omega))
    have hn := nxt_le s1
    have hSl := tkS_le s1
    have hK := tkK_in tp (tkS tp s)
    unfold pIt at hR
    refine S.iload_n (pc' := 79) dX6_readLineOfThings_78 rfl rfl rfl ?_
    refine S.bipush (pc' := 81) dX6_readLineOfThings_79 rfl (by decide) ?_
    refine S.icmp_gt (pc' := 84) (tgt := 119) dX6_readLineOfThings_81 (by decide) rfl (by unfold fp_rng; omega) (by unfold fp_rng; omega) (fun h81 => ?_) (fun h81 => ?_)
    · exfalso; omega
    · refine S.aload_n (pc' := 85) dX6_readLineOfThings_84 rfl rfl rfl ?_
      refine S.callVi (pc' := 88) dX6_readLineOfThings_85 rfl cX6_60 (rk_X6_step ht hmN hI.2.2.2.2.1 s0 s1) rfl L_2 (by decide) rfl (Nat.le_of_ble_eq_true rfl) (fun z85 M85 q85 => ?_)
      obtain ⟨a1, a2, a3, a4, a5⟩ := q85
      have hfr : fr2 N M85 := ⟨a1, a2⟩
      refine S.if_ne (pc' := 91) (tgt := 93) dX6_readLineOfThings_88 (by decide) rfl (by rcases a5 with b | b <;> (unfold fp_rng; omega)) (fun h88 => ?_) (fun h88 => ?_)
      · rcases a5 with ⟨c1, c2, c3, c4, c5⟩ | b
        rotate_left
        · exfalso; omega
        rw [if_neg (fun q => q c1)] at hR
        have hI2 : liI M M85 x L mk (nxt tp s) := hI.fr hfr c3 (by rw [c4]; exact hI.2.2.2.2.2.1)
        refine S.aload_n (pc' := 94) dX6_readLineOfThings_93 rfl rfl rfl ?_
        refine S.getI (pc' := 97) dX6_readLineOfThings_94 rfl fX6_64 L_2 ?_
        refine S.iconst (pc' := 98) dX6_readLineOfThings_97 rfl ?_
        rw [a3]
        refine S.icmp_ne (pc' := 101) (tgt := 103) dX6_readLineOfThings_98 (by decide) rfl (by unfold fp_rng; omega) (by unfold fp_rng; omega) (fun h98 => ?_) (fun h98 => ?_)
        · rw [if_neg h98] at hR
          refine S.aload_n (pc' := 104) dX6_readLineOfThings_103 rfl rfl rfl ?_
          refine S.iload_n (pc' := 105) dX6_readLineOfThings_104 rfl rfl rfl ?_
          refine S.callVi (pc' := 108) dX6_readLineOfThings_105 rfl cX6_163 (rk_X6_takeLying (tp := tp) (h := tkS tp s) (mk := mk) (L := L) hx a3 a4 c5 (fun q => tkV_in hSl.2 q c1) hI2.2.2.1 hI2.2.2.2.1 hI2.2.2.2.2.2.2.2.1 hL8) rfl L_2 (by decide) rfl (Nat.le_of_ble_eq_true rfl) (fun z105 M105 q105 => ?_)
          refine S.if_ne (pc' := 111) (tgt := 113) dX6_readLineOfThings_108 (by decide) rfl (by rcases q105 with b | b <;> (unfold fp_rng; omega)) (fun h108 => ?_) (fun h108 => ?_)
          · refine S.iinc (pc' := 116) (LL' := [_, _, _, _]) dX6_readLineOfThings_113 rfl (by decide) rfl rfl rfl ?_
            refine S.goto (pc' := 78) dX6_readLineOfThings_116 (by decide) ?_
            rcases q105 with b | b
            rotate_left
            · exfalso; omega
            rw [if_pos b.1] at hR
            obtain ⟨b1, b2, rfl⟩ := b
            have hvv := tkV_in hSl.2 b1.1 c1
            have e9 : (L.length : Int) + 1 = ((L ++ [num tp s]).length : Int) := by simp
            exact li_go (ih (nxt tp s) (L ++ [num tp s]) _ _ (by simp; omega) (by omega) hn.2 (hI2.add (v := num tp s) hx ⟨hvv.1, b1.2.1⟩ b1.2.2.2) hR) e9
          · refine S.iconst (pc' := 112) dX6_readLineOfThings_111 rfl ?_
            refine S.zret dX6_readLineOfThings_112 rfl (by first | exact Or.inl rfl | exact Or.inr rfl | omega) ?_
            rcases q105 with b | b
            · exfalso; omega
            · rw [if_neg b.1] at hR
              obtain ⟨w, w1, rfl⟩ := b.2.2
              have hf2 : fr2 N (fp_up (fp_up M85 2 3 w) 2 4 (tkS tp s)) := hfr.refuse
              exact lnP_no (hfN.trans hf2.R) (hf2.T hmN) (hf2.I hIN) hR.symm (flt_refuse w1)
        · refine S.iconst (pc' := 102) dX6_readLineOfThings_101 rfl ?_
          refine S.zret dX6_readLineOfThings_102 rfl (by first | exact Or.inl rfl | exact Or.inr rfl | omega) ?_
          rw [if_pos h98] at hR
          rw [← hR]
          exact ⟨hfN.trans hfr.R, hfr.T hmN, hfr.I hIN, Or.inr ⟨_, rfl, rfl, c3, hI2.2.2.2.2.2.1, hDn _ _ _ _ hI2⟩⟩
      · refine S.iconst (pc' := 92) dX6_readLineOfThings_91 rfl ?_
        refine S.zret dX6_readLineOfThings_92 rfl (by first | exact Or.inl rfl | exact Or.inr rfl | omega) ?_
        rcases a5 with b | b
        · exfalso; omega
        · rw [if_pos b.1] at hR
          exact lnP_no (hfN.trans hfr.R) (hfr.T hmN) (hfr.I hIN) hR.symm ⟨⟨by omega, by omega⟩, b.2.2.2⟩
end LI2
