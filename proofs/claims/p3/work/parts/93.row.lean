/-! A LINE told stays as it can be; any line of a text -/
def itI (L : List Int) (mk m0 : Int) : Prop := (0 ≤ mk ∧ mk < 1024) ∧ L.length ≤ 8 ∧ L.Nodup ∧ (∀ v ∈ L, (0 ≤ v ∧ v < 10) ∧ mk.toNat.testBit v.toNat = true ∧ ¬ m0.toNat.testBit v.toNat = true) ∧ ∀ t : Nat, m0.toNat.testBit t = true → mk.toNat.testBit t = true
theorem fp_or_bit {a : Int} {n t : Nat} : (fp_or a (2 ^ n)).toNat.testBit t = true ↔ (a.toNat.testBit t = true ∨ n = t) := by
  unfold fp_or
  rw [Int.toNat_natCast, Nat.testBit_or, fp_pow2, Nat.testBit_two_pow]
  simp only [Bool.or_eq_true, decide_eq_true_eq]
theorem itI_add {L : List Int} {mk m0 v : Int} (h : itI L mk m0) (hv : 0 ≤ v ∧ v < 10) (hb : ¬ mk.toNat.testBit v.toNat = true) (hl : L.length < 8) : itI (L ++ [v]) (fp_or mk (2 ^ v.toNat)) m0 := by
  obtain ⟨h1, h2, h3, h4, h5⟩ := h
  have hp3 : (2 : Int) ^ v.toNat < 1024 := by
    have q : ∀ n : Nat, n < 10 → (2 : Int) ^ n < 1024 := by decide +kernel
    exact q _ (by omega)
  refine ⟨⟨fp_or_nn _ _, fp_or_lt (n := 10) h1.2 hp3⟩, by simp; omega, ?_, fun u hu => ?_, fun t ht => fp_or_bit.mpr (Or.inl (h5 t ht))⟩
  · rw [List.nodup_append]
    refine ⟨h3, by simp, fun a ha b hb2 => ?_⟩
    simp only [List.mem_singleton] at hb2
    subst hb2
    intro e
    subst e
    exact hb (h4 a ha).2.1
  · rcases List.mem_append.mp hu with q | q
    · obtain ⟨k1, k2, k3⟩ := h4 u q
      exact ⟨k1, fp_or_bit.mpr (Or.inl k2), k3⟩
    · simp only [List.mem_singleton] at q
      subst q
      exact ⟨hv, fp_or_bit.mpr (Or.inr rfl), fun x => hb (h5 _ x)⟩
theorem pIt_ok {tp : List Int} {m0 : Int} : ∀ (k : Nat) (s : Int) (L : List Int) (mk : Int) (q : Int × List Int × Int), s ≤ (tp.length : Int) → itI L mk m0 → pIt tp k s L mk = .inr q → itI q.2.1 q.2.2 m0 ∧ s ≤ q.1 ∧ q.1 ≤ (tp.length : Int)
  | 0, s, L, m9, q, hs, hI, e => by unfold pIt at e; cases e
  | k + 1, s, L, m9, q, hs, hI, e => by
    have n1 := nxt_in hs
    have hS := tkS_le hs
    unfold pIt at e
    by_cases c0 : tkOk tp (tkS tp s)
    rotate_left
    · rw [if_pos c0] at e; cases e
    rw [if_neg (fun x => x c0)] at e
    by_cases c1 : tkK tp (tkS tp s) = 3
    · rw [if_pos c1] at e
      cases e
      exact ⟨hI, n1⟩
    rw [if_neg c1] at e
    by_cases c2 : itOk tp (tkS tp s) L m9
    · rw [if_pos c2] at e
      have hv := tkV_in hS.2 c2.1 c0
      obtain ⟨r1, r2, r3⟩ := pIt_ok k (nxt tp s) _ _ q n1.2 (itI_add (v := num tp s) hI ⟨hv.1, c2.2.1⟩ c2.2.2.1 c2.2.2.2) e
      exact ⟨r1, by omega, r3⟩
    · rw [if_neg c2] at e; cases e
theorem pLine_ok {tp : List Int} {st s : Int} {D : pD} {q : Int × pD} (hs : s ≤ (tp.length : Int)) (hD : dOk D) (e : pLine tp st s D = .inr q) : dOk q.2 ∧ s ≤ q.1 ∧ q.1 ≤ (tp.length : Int) := by
  have n1 := nxt_in hs
  have hk := aKd_in tp (tkS tp s)
  unfold pLine at e
  by_cases c0 : 3 ≤ D.1.2.1
  · rw [if_pos c0] at e; cases e
  rw [if_neg c0] at e
  by_cases c1 : tkOk tp (tkS tp s)
  rotate_left
  · rw [if_pos c1] at e; cases e
  rw [if_neg (fun x => x c1)] at e
  by_cases c2 : aKd tp (tkS tp s) = -4
  · rw [if_pos c2] at e; cases e
  rw [if_neg c2] at e
  cases hp : pIt tp 9 (nxt tp s) [] D.2.2.2.1 with
  | inl h => rw [hp] at e; cases e
  | inr r =>
    rw [hp] at e
    cases e
    obtain ⟨⟨g1, g2, g3, g4, g5, g6⟩, d2, d3, d4, d5, d6, d7, d8⟩ := hD
    obtain ⟨⟨i1, i2, i3, i4, i5⟩, r2, r3⟩ := pIt_ok (m0 := D.2.2.2.1) 9 (nxt tp s) [] D.2.2.2.1 r n1.2 ⟨d5, by simp, List.nodup_nil, fun v hv => (List.not_mem_nil hv).elim, fun t ht => ht⟩ hp
    refine ⟨⟨⟨g1, ?_, g3, g4, g5, fun x x0 x1 => ?_⟩, d2, fun x x0 x1 => ?_, fun x y t x0 x1 y0 y1 hne hx => ?_, i1, d6, d7, d8⟩, by omega, r3⟩
    · show 0 ≤ D.1.2.1 + 1 ∧ D.1.2.1 + 1 ≤ 3
      omega
    · have x1' : x < D.1.2.1 + 1 := x1
      show 0 ≤ (if x = D.1.2.1 then aKd tp (tkS tp s) else D.1.2.2.2.2.2 x) ∧ (if x = D.1.2.1 then aKd tp (tkS tp s) else D.1.2.2.2.2.2 x) ≤ 2
      split
      · omega
      · exact g6 x x0 (by omega)
    · show (if x = D.1.2.1 then r.2.1 else D.2.2.1 x).length ≤ 8 ∧ (if x = D.1.2.1 then r.2.1 else D.2.2.1 x).Nodup ∧ (D.1.2.1 + 1 ≤ x → (if x = D.1.2.1 then r.2.1 else D.2.2.1 x) = []) ∧ ∀ t ∈ (if x = D.1.2.1 then r.2.1 else D.2.2.1 x), (0 ≤ t ∧ t < 10) ∧ r.2.2.toNat.testBit t.toNat = true
      by_cases ex : x = D.1.2.1
      · rw [if_pos ex]
        exact ⟨i2, i3, fun q => by omega, fun t ht => ⟨(i4 t ht).1, (i4 t ht).2.1⟩⟩
      · rw [if_neg ex]
        obtain ⟨k1, k2, k3, k4⟩ := d3 x x0 x1
        exact ⟨k1, k2, fun q => k3 (by omega), fun t ht => ⟨(k4 t ht).1, i5 _ (k4 t ht).2⟩⟩
    · have hx : t ∈ (if x = D.1.2.1 then r.2.1 else D.2.2.1 x) := hx
      show t ∉ (if y = D.1.2.1 then r.2.1 else D.2.2.1 y)
      by_cases ex : x = D.1.2.1
      · rw [if_pos ex] at hx
        rw [if_neg (fun z => hne (ex.trans z.symm))]
        intro hy
        exact (i4 t hx).2.2 ((d3 y y0 y1).2.2.2 t hy).2
      · rw [if_neg ex] at hx
        by_cases ey : y = D.1.2.1
        · rw [if_pos ey]
          intro hy
          exact (i4 t hy).2.2 ((d3 x x0 x1).2.2.2 t hx).2
        · rw [if_neg ey]
          exact d4 x y t x0 x1 y0 y1 hne hx
theorem nmW_K {tp : List Int} {h : Int} {i : Nat} (e : nmW tp h i = true) : tkK tp h = 1 := by
  unfold nmW at e
  rw [Bool.and_eq_true, decide_eq_true_eq] at e
  exact e.1
theorem pRow_ok {tp : List Int} {h : Int} {D : pD} {q : Int × pD} (hh : h ≤ (tp.length : Int)) (hD : dOk D) (e : pRow tp h D = .inr q) : dOk q.2 ∧ h < q.1 ∧ q.1 ≤ (tp.length : Int) := by
  have hE := tkE_le hh
  have hlt : tkK tp h = 1 → h < tkE tp h := by
    intro hk
    apply hE.2.2
    unfold tkK at hk
    split at hk
    · omega
    · omega
  unfold pRow at e
  split at e
  · rename_i c
    have := hlt (nmW_K c)
    obtain ⟨r1, r2, r3⟩ := pThing_ok hE.2.1 hD e
    exact ⟨r1, by omega, r3⟩
  · split at e
    · rename_i c
      have := hlt (nmW_K c)
      obtain ⟨r1, r2, r3⟩ := pLine_ok hE.2.1 hD e
      exact ⟨r1, by omega, r3⟩
    · split at e
      · rename_i c
        have := hlt (nmW_K c)
        obtain ⟨r1, r2, r3⟩ := pVisit_ok hE.2.1 hD e
        exact ⟨r1, by omega, r3⟩
      · split at e
        · rename_i c
          have := hlt (nmW_K c)
          obtain ⟨r1, r2, r3⟩ := pVisit_ok hE.2.1 hD e
          exact ⟨r1, by omega, r3⟩
        · split at e
          · rename_i c
            have := hlt (nmW_K c)
            obtain ⟨r1, r2, r3⟩ := pChance_ok hE.2.1 hD e
            exact ⟨r1, by omega, r3⟩
          · cases e
section ROW
variable {l : Launch} {G : fp_WG} {M : fp_Mem} {tp : List Int} {D : pD} {h : Int}
theorem lnP_z {N : fp_Mem} {r : Int ⊕ (Int × pD)} {z : Int} (q : lnP tp M N r z) : z = 0 ∨ z = 1 := by
  rcases q.2.2.2 with ⟨_, _, e, _⟩ | ⟨_, _, e, _⟩
  · exact Or.inl e
  · exact Or.inr e
theorem rk_X6_readLine (ht : tpOk tp) (hm : rdT M tp) (hk : tkAt tp M h) (h3 : M 2 3 = 0) (hd : rdD M D) (hD : dOk D) (hi : rdI M) : fp_Ok l G 7 kX6_readLine [rV G 2] M (qI fun z N => lnP tp M N (pRow tp h D) z) := by
  have hE := tkE_le hk.2.2.2.2
  have e0 : 0 ≤ tkE tp h := by have := hk.2.2.2.1; omega
  refine fp_Ok.of (r := 0) rfl (Nat.le_of_ble_eq_true rfl) rfl ?_
  unfold pRow
  refine S.aload_n (pc' := 1) dX6_readLine_0 rfl rfl rfl ?_
  refine S.ldcW (i := 0) (pc' := 3) dX6_readLine_1 rfl (by decide) rfl rfl (fun a ha => ?_)
  refine S.callVe (pc' := 6) dX6_readLine_3 rfl cX6_104 (rk_word (by decide) ht hm hk ha) rfl L_2 (by decide) rfl (Nat.le_of_ble_eq_true rfl) ?_
  by_cases n0 : nmW tp h 0 = true
  · rw [if_pos n0, if_pos n0]
    refine S.if_eq (tgt := 14) (pc' := 9) dX6_readLine_6 (by decide) rfl (by unfold fp_rng; omega) (fun q => absurd q (by decide)) (fun _ => ?_)
    refine S.aload_n (pc' := 10) dX6_readLine_9 rfl rfl rfl ?_
    refine S.callVi (pc' := 13) dX6_readLine_10 rfl cX6_108 (rk_X6_readThing ht hm hk.2.2.1 e0 hE.2.1 hk.2.1 h3 hd hD hi) rfl L_2 (by decide) rfl (Nat.le_of_ble_eq_true rfl) (fun z N q => ?_)
    exact S.zret dX6_readLine_13 rfl (lnP_z q) q
  rw [if_neg n0, if_neg n0]
  refine S.if_eq (tgt := 14) (pc' := 9) dX6_readLine_6 (by decide) rfl fp_rng0 (fun _ => ?_) (fun q => absurd rfl q)
  refine S.aload_n (pc' := 15) dX6_readLine_14 rfl rfl rfl ?_
  refine S.ldcW (i := 1) (pc' := 17) dX6_readLine_15 rfl (by decide) rfl rfl (fun a ha => ?_)
  refine S.callVe (pc' := 20) dX6_readLine_17 rfl cX6_104 (rk_word (by decide) ht hm hk ha) rfl L_2 (by decide) rfl (Nat.le_of_ble_eq_true rfl) ?_
  by_cases n1 : nmW tp h 1 = true
  · rw [if_pos n1, if_pos n1]
    refine S.if_eq (tgt := 28) (pc' := 23) dX6_readLine_20 (by decide) rfl (by unfold fp_rng; omega) (fun q => absurd q (by decide)) (fun _ => ?_)
    refine S.aload_n (pc' := 24) dX6_readLine_23 rfl rfl rfl ?_
    refine S.callVi (pc' := 27) dX6_readLine_24 rfl cX6_113 (rk_X6_readLineOfThings ht hm hk.2.2.1 e0 hE.2.1 hk.2.1 h3 hd hD hi) rfl L_2 (by decide) rfl (Nat.le_of_ble_eq_true rfl) (fun z N q => ?_)
    exact S.zret dX6_readLine_27 rfl (lnP_z q) q
  rw [if_neg n1, if_neg n1]
  refine S.if_eq (tgt := 28) (pc' := 23) dX6_readLine_20 (by decide) rfl fp_rng0 (fun _ => ?_) (fun q => absurd rfl q)
  refine S.aload_n (pc' := 29) dX6_readLine_28 rfl rfl rfl ?_
  refine S.ldcW (i := 2) (pc' := 31) dX6_readLine_29 rfl (by decide) rfl rfl (fun a ha => ?_)
  refine S.callVe (pc' := 34) dX6_readLine_31 rfl cX6_104 (rk_word (by decide) ht hm hk ha) rfl L_2 (by decide) rfl (Nat.le_of_ble_eq_true rfl) ?_
  by_cases n2 : nmW tp h 2 = true
  · rw [if_pos n2, if_pos n2]
    refine S.if_eq (tgt := 43) (pc' := 37) dX6_readLine_34 (by decide) rfl (by unfold fp_rng; omega) (fun q => absurd q (by decide)) (fun _ => ?_)
    refine S.aload_n (pc' := 38) dX6_readLine_37 rfl rfl rfl ?_
    refine S.iconst (pc' := 39) dX6_readLine_38 rfl ?_
    refine S.callVi (pc' := 42) dX6_readLine_39 rfl cX6_118 (rk_X6_readVisit (Or.inr rfl) ht hm hk.2.2.1 e0 hE.2.1 hk.2.1 h3 hd hD hi) rfl L_2 (by decide) rfl (Nat.le_of_ble_eq_true rfl) (fun z N q => ?_)
    exact S.zret dX6_readLine_42 rfl (lnP_z q) q
  rw [if_neg n2, if_neg n2]
  refine S.if_eq (tgt := 43) (pc' := 37) dX6_readLine_34 (by decide) rfl fp_rng0 (fun _ => ?_) (fun q => absurd rfl q)
  refine S.aload_n (pc' := 44) dX6_readLine_43 rfl rfl rfl ?_
  refine S.ldcW (i := 3) (pc' := 46) dX6_readLine_44 rfl (by decide) rfl rfl (fun a ha => ?_)
  refine S.callVe (pc' := 49) dX6_readLine_46 rfl cX6_104 (rk_word (by decide) ht hm hk ha) rfl L_2 (by decide) rfl (Nat.le_of_ble_eq_true rfl) ?_
  by_cases n3 : nmW tp h 3 = true
  · rw [if_pos n3, if_pos n3]
    refine S.if_eq (tgt := 58) (pc' := 52) dX6_readLine_49 (by decide) rfl (by unfold fp_rng; omega) (fun q => absurd q (by decide)) (fun _ => ?_)
    refine S.aload_n (pc' := 53) dX6_readLine_52 rfl rfl rfl ?_
    refine S.iconst (pc' := 54) dX6_readLine_53 rfl ?_
    refine S.callVi (pc' := 57) dX6_readLine_54 rfl cX6_118 (rk_X6_readVisit (Or.inl rfl) ht hm hk.2.2.1 e0 hE.2.1 hk.2.1 h3 hd hD hi) rfl L_2 (by decide) rfl (Nat.le_of_ble_eq_true rfl) (fun z N q => ?_)
    exact S.zret dX6_readLine_57 rfl (lnP_z q) q
  rw [if_neg n3, if_neg n3]
  refine S.if_eq (tgt := 58) (pc' := 52) dX6_readLine_49 (by decide) rfl fp_rng0 (fun _ => ?_) (fun q => absurd rfl q)
  refine S.aload_n (pc' := 59) dX6_readLine_58 rfl rfl rfl ?_
  refine S.ldcW (i := 4) (pc' := 61) dX6_readLine_59 rfl (by decide) rfl rfl (fun a ha => ?_)
  refine S.callVe (pc' := 64) dX6_readLine_61 rfl cX6_104 (rk_word (by decide) ht hm hk ha) rfl L_2 (by decide) rfl (Nat.le_of_ble_eq_true rfl) ?_
  by_cases n4 : nmW tp h 4 = true
  · rw [if_pos n4, if_pos n4]
    refine S.if_eq (tgt := 72) (pc' := 67) dX6_readLine_64 (by decide) rfl (by unfold fp_rng; omega) (fun q => absurd q (by decide)) (fun _ => ?_)
    refine S.aload_n (pc' := 68) dX6_readLine_67 rfl rfl rfl ?_
    refine S.callVi (pc' := 71) dX6_readLine_68 rfl cX6_126 (rk_X6_readChance ht hm hk.2.2.1 e0 hE.2.1 hk.2.1 h3 hd hD hi) rfl L_2 (by decide) rfl (Nat.le_of_ble_eq_true rfl) (fun z N q => ?_)
    exact S.zret dX6_readLine_71 rfl (lnP_z q) q
  rw [if_neg n4, if_neg n4]
  refine S.if_eq (tgt := 72) (pc' := 67) dX6_readLine_64 (by decide) rfl fp_rng0 (fun _ => ?_) (fun q => absurd rfl q)
  refine S.aload_n (pc' := 73) dX6_readLine_72 rfl rfl rfl ?_
  refine S.iconst (pc' := 74) dX6_readLine_73 rfl ?_
  refine S.aload_n (pc' := 75) dX6_readLine_74 rfl rfl rfl ?_
  refine S.getI (pc' := 78) dX6_readLine_75 rfl fX6_76 L_2 ?_
  rw [hk.2.1]
  refine S.callVe (pc' := 81) dX6_readLine_78 rfl cX6_89 ok_X6_refuse rfl L_2 (by decide) rfl (Nat.le_of_ble_eq_true rfl) ?_
  refine S.zret dX6_readLine_81 rfl (Or.inl rfl) ?_
  exact lnP_no (fun a ha => by rw [fp_up_ne (by omega), fp_up_ne (by omega)]) ((hm.up (by decide) (by decide)).up (by decide) (by decide)) (hi.kept rfl rfl rfl rfl) rfl (flt_refuse (by omega))
end ROW
