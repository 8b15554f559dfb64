/-! A THING TOLD IN A TEXT: the class -/
def itN (tp : List Int) : Nat → Int → Int
  | 0, s => s
  | k + 1, s => nxt tp (itN tp k s)
def pVl (tp : List Int) : Nat → Int → Option Int
  | 0, _ => none
  | k + 1, s => if nmOk tp s 0 20 then pVl tp k (nxt tp s) else some (tkS tp s)
theorem itN_le {tp : List Int} {s : Int} (h : s ≤ (tp.length : Int)) : ∀ k, s ≤ itN tp k s ∧ itN tp k s ≤ (tp.length : Int)
  | 0 => by unfold itN; omega
  | k + 1 => by
    have h1 := itN_le h k
    have h2 := nxt_le h1.2
    unfold itN
    omega
def pTh (D : pD) (w c : Int) (v : Int → Int) : pD := ((D.1.1 + 1, D.1.2.1, D.1.2.2.1, fun t => if t = D.1.1 then c else D.1.2.2.2.1 t, fun t p => if t = D.1.1 then v p else D.1.2.2.2.2.1 t p, D.1.2.2.2.2.2), fun t => if t = D.1.1 then w else D.2.1 t, D.2.2.1, D.2.2.2.1, D.2.2.2.2.1, D.2.2.2.2.2)
def pThing (tp : List Int) (st s : Int) (D : pD) : Int ⊕ (Int × pD) := if 10 ≤ D.1.1 then .inl st else if ¬ nmOk tp s 0 3 then .inl (tkS tp s) else if ¬ nmOk tp (nxt tp s) 0 9 then .inl (tkS tp (nxt tp s)) else
  match pVl tp 4 (nxt tp (nxt tp s)) with
  | some h => .inl h
  | none => pFin tp (itN tp 4 (nxt tp (nxt tp s))) (pTh D (num tp s) (num tp (nxt tp s)) (fun p => num tp (itN tp p.toNat (nxt tp (nxt tp s)))))
section THG
variable {l : Launch} {G : fp_WG} {M N : fp_Mem} {tp : List Int} {D : pD} {s st : Int}
def thI (tp : List Int) (M N : fp_Mem) (t p s2 : Int) : Prop := (∀ a, a ≠ 2 → a ≠ 5 → N a = M a) ∧ (∀ j, j ≠ 7 → j ≠ 8 → j ≠ 9 → j ≠ 10 → j ≠ 3 → j ≠ 4 → N 2 j = M 2 j) ∧ (∀ j : Nat, N 5 j = if t * 4 ≤ (j : Int) ∧ (j : Int) < t * 4 + p then num tp (itN tp ((j : Int) - t * 4).toNat s2) else M 5 j) ∧ N 2 7 = itN tp p.toNat s2 ∧ N 2 3 = 0 ∧ ∀ q : Int, 0 ≤ q → q < p → nmOk tp (itN tp q.toNat s2) 0 20
theorem thI.I {t p s2 : Int} (h : thI tp M N t p s2) (hi : rdI M) (ht : 0 ≤ t ∧ t < 10) (hp : 0 ≤ p ∧ p ≤ 4) : rdI N := by
  obtain ⟨a1, a2, a3, a4, a5, a6⟩ := h
  obtain ⟨i1, i2, i3, i4, i5, i6⟩ := hi
  refine ⟨?_, ?_, fun i i0 i1 => ?_, fun i i0 i1 => ?_, ?_, ?_⟩
  · rw [a1 4 (by decide) (by decide)]; exact i1
  · rw [a1 4 (by decide) (by decide)]; exact i2
  · rw [a3 i.toNat]
    split
    · rename_i hc
      have := (a6 ((i.toNat : Int) - t * 4) (by omega) (by omega)).2.2
      unfold num
      exact this
    · exact i3 i i0 i1
  · rw [a3 _, if_neg (by omega)]; exact i4 i i0 i1
  · rw [a1 6 (by decide) (by decide)]; exact i5
  · rw [a1 11 (by decide) (by decide)]; exact i6
theorem th_step {O : fp_Mem} {t p s2 : Int} (h : thI tp M N t p s2) (f : fr2 N O) (b1 : nmOk tp (itN tp p.toNat s2) 0 20) (b4 : O 2 7 = nxt tp (itN tp p.toNat s2)) (b5 : O 2 3 = N 2 3) (ht : 0 ≤ t ∧ t < 10) (hp : 0 ≤ p ∧ p < 4) : thI tp M (fp_up O 5 (t * 4 + p).toNat (num tp (itN tp p.toNat s2))) t (p + 1) s2 := by
  obtain ⟨a1, a2, a3, a4, a5, a6⟩ := h
  refine ⟨fun a q2 q5 => by rw [fp_up_ne q5, f.1 a q2]; exact a1 a q2 q5, fun j q7 q8 q9 q10 q3 q4 => by rw [fp_up_ne (by decide), f.2 j q7 q8 q9 q10 q3 q4]; exact a2 j q7 q8 q9 q10 q3 q4, fun j => ?_, ?_, ?_, fun q q0 q1 => ?_⟩
  · rw [fp_up_at]
    by_cases e : j = (t * 4 + p).toNat
    · subst e
      rw [fp_upf_at, if_pos (by omega), show (((t * 4 + p).toNat : Nat) : Int) - t * 4 = p by omega]
    · rw [fp_upf_ne e, f.1 5 (by decide), a3 j]
      have : (t * 4 ≤ (j : Int) ∧ (j : Int) < t * 4 + p) ↔ (t * 4 ≤ (j : Int) ∧ (j : Int) < t * 4 + (p + 1)) := by omega
      simp only [this]
  · rw [fp_up_ne (by decide), b4, show (p + 1).toNat = p.toNat + 1 by omega]; rfl
  · rw [fp_up_ne (by decide), b5]; exact a5
  · by_cases e : q = p
    · subst e; exact b1
    · exact a6 q q0 (by omega)
theorem th_loop {R : Int ⊕ (Int × pD)} {M0 : fp_Mem} {t s2 : Int} {Dn : pD} (ht : tpOk tp) (hf : fR M0 M) (hm : rdT M tp) (hi : rdI M) (hs2 : 0 ≤ s2 ∧ s2 ≤ (tp.length : Int)) (htt : 0 ≤ t ∧ t < 10) (h30 : M 3 0 = t)
    (hDn : ∀ N : fp_Mem, thI tp M N t 4 s2 → rdD (fp_up N 3 0 (t + 1)) Dn) : ∀ (k : Nat) (p : Int) (N : fp_Mem), (4 - p).toNat = k → 0 ≤ p → p ≤ 4 → thI tp M N t p s2 → (match pVl tp k (itN tp p.toNat s2) with | some h => .inl h | none => pFin tp (itN tp 4 s2) Dn) = R →
    fp_S l G 3 kX6_readThing 75 [some (rV G 2), some (iV t), some (iV p)] [] N (qI fun z O => lnP tp M0 O R z) := by
  intro k
  induction k with
  | zero =>
    intro p N hk p0 p4 hI hR
    have : p = 4 := by omega
    subst this
    have hmN : rdT N tp := ⟨by rw [hI.2.1 5 (by decide) (by decide) (by decide) (by decide) (by decide) (by decide)]; exact hm.1, by rw [hI.2.1 6 (by decide) (by decide) (by decide) (by decide) (by decide) (by decide)]; exact hm.2.1, fun i i0 i1 => by rw [hI.1 1 (by decide) (by decide)]; exact hm.2.2 i i0 i1⟩
    have h4 := itN_le hs2.2 4
    have e30 : N 3 0 = t := by rw [hI.1 3 (by decide) (by decide)]; exact h30
    have hfN : fR M0 N := hf.trans (fun a ha => hI.1 a (by omega) (by omega))
    have hR' : R = pFin tp (itN tp 4 s2) Dn := hR.symm
    rw [hR']
    refine S.iload_n (pc' := 76) dX6_readThing_75 rfl rfl rfl ?_
    refine S.iconst (pc' := 77) dX6_readThing_76 rfl ?_
    refine S.icmp_ge (pc' := 80) (tgt := 115) dX6_readThing_77 (by decide) rfl (by unfold fp_rng; omega) (by unfold fp_rng; omega) (fun h77 => ?_) (fun h77 => ?_)
    · refine S.aload_n (pc' := 116) dX6_readThing_115 rfl rfl rfl ?_
      refine S.getR (pc' := 119) dX6_readThing_116 rfl fX6_12 L_2 rf_2_0 ?_
      refine S.dup (pc' := 120) dX6_readThing_119 rfl rfl ?_
      refine S.getI (pc' := 123) dX6_readThing_120 rfl fX6_129 (gd_lay gd3) ?_
      refine S.iconst (pc' := 124) dX6_readThing_123 rfl ?_
      rw [e30]
      refine S.iadd (pc' := 125) dX6_readThing_124 rfl ?_
      refine S.putI (pc' := 128) dX6_readThing_125 rfl fX6_129 (gd_lay gd3) ?_
      refine S.aload_n (pc' := 129) dX6_readThing_128 rfl rfl rfl ?_
      refine S.callVi (pc' := 132) dX6_readThing_129 rfl cX6_145 (rk_X6_readStop (M := fp_up N 3 0 (t + 1)) (s := itN tp 4 s2) ht ⟨hmN.1, hmN.2.1, hmN.2.2⟩ hI.2.2.2.1 (by omega) (by omega)) rfl L_2 (by decide) rfl (Nat.le_of_ble_eq_true rfl) (fun z129 M129 q129 => ?_)
      refine S.zret dX6_readThing_132 rfl (spP_z q129) ?_
      exact lnP_fin (N := fp_up N 3 0 (t + 1)) (hfN.trans (fun a ha => fp_up_ne (by omega))) ⟨hmN.1, hmN.2.1, hmN.2.2⟩ ((hI.I hi htt (by omega)).kept rfl rfl rfl rfl) hI.2.2.2.2.1 (hDn N hI) q129
    · exfalso; omega
  | succ k ih =>
    intro p N hk p0 p4 hI hR
    have hmN : rdT N tp := ⟨by rw [hI.2.1 5 (by decide) (by decide) (by decide) (by decide) (by decide) (by decide)]; exact hm.1, by rw [hI.2.1 6 (by decide) (by decide) (by decide) (by decide) (by decide) (by decide)]; exact hm.2.1, fun i i0 i1 => by rw [hI.1 1 (by decide) (by decide)]; exact hm.2.2 i i0 i1⟩
    have h4 := itN_le hs2.2 p.toNat
    have hfN : fR M0 N := hf.trans (fun a ha => hI.1 a (by omega) (by omega))
    unfold pVl at hR
    refine S.iload_n (pc' := 76) dX6_readThing_75 rfl rfl rfl ?_
    refine S.iconst (pc' := 77) dX6_readThing_76 rfl ?_
    refine S.icmp_ge (pc' := 80) (tgt := 115) dX6_readThing_77 (by decide) rfl (by unfold fp_rng; omega) (by unfold fp_rng; omega) (fun h77 => ?_) (fun h77 => ?_)
    · exfalso; omega
    · refine S.aload_n (pc' := 81) dX6_readThing_80 rfl rfl rfl ?_
      refine S.iconst (pc' := 82) dX6_readThing_81 rfl ?_
      refine S.bipush (pc' := 84) dX6_readThing_82 rfl (by decide) ?_
      refine S.callVi (pc' := 87) dX6_readThing_84 rfl cX6_132 (rk_X6_readNumber (s := itN tp p.toNat s2) ht hmN hI.2.2.2.1 (by omega) (by omega) (by unfold fp_rng; omega) (by unfold fp_rng; omega)) rfl L_2 (by decide) rfl (Nat.le_of_ble_eq_true rfl) (fun z84 M84 q84 => ?_)
      obtain ⟨f84, b84⟩ := q84
      refine S.if_ne (pc' := 90) (tgt := 92) dX6_readThing_87 (by decide) rfl (by rcases b84 with b | b <;> (unfold fp_rng; omega)) (fun h87 => ?_) (fun h87 => ?_)
      · refine S.aload_n (pc' := 93) dX6_readThing_92 rfl rfl rfl ?_
        refine S.getR (pc' := 96) dX6_readThing_93 rfl fX6_12 L_2 rf_2_0 ?_
        refine S.getR (pc' := 99) dX6_readThing_96 rfl fX6_142 (gd_lay gd3) (gd_r4 gd3) ?_
        refine S.iload_n (pc' := 100) dX6_readThing_99 rfl rfl rfl ?_
        refine S.iconst (pc' := 101) dX6_readThing_100 rfl ?_
        refine S.imul (pc' := 102) dX6_readThing_101 rfl ?_
        refine S.iload_n (pc' := 103) dX6_readThing_102 rfl rfl rfl ?_
        refine S.iadd (pc' := 104) dX6_readThing_103 rfl ?_
        refine S.aload_n (pc' := 105) dX6_readThing_104 rfl rfl rfl ?_
        refine S.getI (pc' := 108) dX6_readThing_105 rfl fX6_86 L_2 ?_
        rcases b84 with ⟨b1, b2, b3, b4, b5⟩ | b
        rotate_left
        · exfalso; omega
        rw [if_pos b1] at hR
        rw [b3]
        refine S.iast (pc' := 109) dX6_readThing_108 rfl (gd_a4 gd3) (by omega) (by omega) ?_
        refine S.iinc (pc' := 112) (LL' := [_, _, _]) dX6_readThing_109 rfl (by decide) rfl rfl rfl ?_
        refine S.goto (pc' := 75) dX6_readThing_112 (by decide) ?_
        exact ih (p + 1) _ (by omega) (by omega) (by omega) (th_step hI f84 b1 b4 b5 htt (by omega)) (by rw [show (p + 1).toNat = p.toNat + 1 by omega]; exact hR)
      · refine S.iconst (pc' := 91) dX6_readThing_90 rfl ?_
        refine S.zret dX6_readThing_91 rfl (by first | exact Or.inl rfl | exact Or.inr rfl | omega) ?_
        rcases b84 with b | b
        · exfalso; omega
        · rw [if_neg b.1] at hR
          exact lnP_no (hfN.trans f84.R) (f84.T hmN) (f84.I (hI.I hi htt (by omega))) hR.symm b.2.2
theorem th_w {t v : Int} (hi : rdI M) (ht : 0 ≤ t ∧ t < 10) (hv : 0 ≤ v ∧ v ≤ 9) : rdI (fp_up M 4 t.toNat v) := by
  obtain ⟨i1, i2, i3, i4, i5, i6⟩ := hi
  refine ⟨fun i i0 i1' => ?_, ?_, i3, i4, i5, i6⟩
  · rw [fp_up_at]
    by_cases e : i.toNat = t.toNat
    · rw [e, fp_upf_at]; exact hv
    · rw [fp_upf_ne e]; exact i1 i i0 i1'
  · rw [fp_up_at, fp_upf_ne (by omega)]; exact i2
theorem th_D {A B : fp_Mem} {w c s2 : Int} (hd : rdD M D) (f1 : fr2 M A) (f2 : fr2 (fp_up A 8 D.1.1.toNat w) B) (h0 : 0 ≤ D.1.1) (h1 : D.1.1 < 10) (hN : thI tp (fp_up B 4 D.1.1.toNat c) N D.1.1 4 s2) : rdD (fp_up N 3 0 (D.1.1 + 1)) (pTh D w c (fun p => num tp (itN tp p.toNat s2))) := by
  obtain ⟨a1, a2, a3, a4, a5, a6⟩ := hN
  obtain ⟨⟨g0, g1, g2, g3, g4, g5⟩, ⟨p1, p2, p3, p4⟩, hv, h11, h12⟩ := hd
  have r : ∀ x, x ≠ 2 → x ≠ 5 → x ≠ 4 → x ≠ 8 → N x = M x := fun x q2 q5 q4 q8 => by rw [a1 x q2 q5, fp_up_ne q4, f2.1 x q2, fp_up_ne q8, f1.1 x q2]
  have r4 : N 4 = fp_upf (M 4) D.1.1.toNat c := by rw [a1 4 (by decide) (by decide), fp_up_at, f2.1 4 (by decide), fp_up_ne (by decide), f1.1 4 (by decide)]
  have r8 : N 8 = fp_upf (M 8) D.1.1.toNat w := by rw [a1 8 (by decide) (by decide), fp_up_ne (by decide), f2.1 8 (by decide), fp_up_at, f1.1 8 (by decide)]
  have r2 : ∀ j, j ≠ 7 → j ≠ 8 → j ≠ 9 → j ≠ 10 → j ≠ 3 → j ≠ 4 → N 2 j = M 2 j := fun j q7 q8 q9 q10 q3 q4 => by rw [a2 j q7 q8 q9 q10 q3 q4, fp_up_ne (by decide), f2.2 j q7 q8 q9 q10 q3 q4, fp_up_ne (by decide), f1.2 j q7 q8 q9 q10 q3 q4]
  have r5 : ∀ j : Nat, N 5 j = if D.1.1 * 4 ≤ (j : Int) ∧ (j : Int) < D.1.1 * 4 + 4 then num tp (itN tp ((j : Int) - D.1.1 * 4).toNat s2) else M 5 j := by
    intro j
    rw [a3 j, fp_up_ne (by decide), f2.1 5 (by decide), fp_up_ne (by decide), f1.1 5 (by decide)]
  have r3 : fp_up N 3 0 (D.1.1 + 1) 3 = fp_upf (M 3) 0 (D.1.1 + 1) := by rw [fp_up_at, r 3 (by decide) (by decide) (by decide) (by decide)]
  refine ⟨⟨?_, ?_, ?_, fun t t0 t1 => ?_, fun t p t0 t1 q0 q1 => ?_, fun x x0 x1 => ?_⟩, ⟨fun t t0 t1 => ?_, fun t t0 t1 => ?_, fun t t0 t1 => ?_, fun x x0 x1 => ?_⟩, hv.kept (fun a q1 q2 => by rw [fp_up_ne (by omega)]; exact r a (by omega) (by omega) (by omega) (by omega)), by rw [fp_up_ne (by decide), r2 11 (by decide) (by decide) (by decide) (by decide) (by decide) (by decide)]; exact h11, by rw [fp_up_ne (by decide), r2 12 (by decide) (by decide) (by decide) (by decide) (by decide) (by decide)]; exact h12⟩
  · rw [r3, fp_upf_at]; rfl
  · rw [r3, fp_upf_ne (by decide)]; exact g1
  · rw [r3, fp_upf_ne (by decide)]; exact g2
  · rw [fp_up_ne (by decide), r4]
    show _ = if t = D.1.1 then c else D.1.2.2.2.1 t
    have t1' : t < D.1.1 + 1 := t1
    by_cases e : t = D.1.1
    · rw [e, if_pos rfl, fp_upf_at]
    · rw [if_neg e, fp_upf_ne (by omega)]; exact g3 t t0 (by omega)
  · rw [fp_up_ne (by decide), r5]
    show _ = if t = D.1.1 then num tp (itN tp p.toNat s2) else D.1.2.2.2.2.1 t p
    have t1' : t < D.1.1 + 1 := t1
    by_cases e : t = D.1.1
    · subst e
      rw [if_pos rfl, if_pos (by omega), show (((D.1.1 * 4 + p).toNat : Nat) : Int) - D.1.1 * 4 = p by omega]
    · rw [if_neg e, if_neg (by omega)]; exact g4 t p t0 (by omega) q0 q1
  · rw [fp_up_ne (by decide), r 6 (by decide) (by decide) (by decide) (by decide)]; exact g5 x x0 x1
  · rw [fp_up_ne (by decide), r8]
    show _ = if t = D.1.1 then w else D.2.1 t
    have t1' : t < D.1.1 + 1 := t1
    by_cases e : t = D.1.1
    · rw [e, if_pos rfl, fp_upf_at]
    · rw [if_neg e, fp_upf_ne (by omega)]; exact p1 t t0 (by omega)
  · have t0' : D.1.1 + 1 ≤ t := t0
    rw [fp_up_ne (by decide), r8, fp_upf_ne (by omega)]; exact p2 t (by omega) t1
  · rw [fp_up_ne (by decide), r 9 (by decide) (by decide) (by decide) (by decide)]; exact p3 t t0 t1
  · rw [fp_up_ne (by decide), fp_up_ne (by decide), r 10 (by decide) (by decide) (by decide) (by decide), r 11 (by decide) (by decide) (by decide) (by decide)]; exact p4 x x0 x1
theorem rk_X6_readThing (ht : tpOk tp) (hm : rdT M tp) (hs : M 2 7 = s) (h0 : 0 ≤ s) (h1 : s ≤ (tp.length : Int)) (h9 : M 2 9 = st) (h3 : M 2 3 = 0) (hd : rdD M D) (hD : dOk D) (hi : rdI M) : fp_Ok l G 3 kX6_readThing [rV G 2] M (qI fun z N => lnP tp M N (pThing tp st s D) z) := by
  refine fp_Ok.of (r := 2) rfl (Nat.le_of_ble_eq_true rfl) rfl ?_
  have hx := nxt_le h1
  have hx2 := nxt_le hx.2
  have hg1 := hD.1.1
  have e30 : M 3 0 = D.1.1 := hd.1.1
  unfold pThing
  by_cases h10 : 10 ≤ D.1.1
  · rw [if_pos h10]
    refine S.aload_n (pc' := 1) dX6_readThing_0 rfl rfl rfl ?_
    refine S.getR (pc' := 4) dX6_readThing_1 rfl fX6_12 L_2 rf_2_0 ?_
    refine S.getI (pc' := 7) dX6_readThing_4 rfl fX6_129 (gd_lay gd3) ?_
    rw [e30]
    refine S.istore_n (pc' := 8) (LL' := [_, _, _]) dX6_readThing_7 rfl (by decide) rfl rfl rfl ?_
    refine S.iload_n (pc' := 9) dX6_readThing_8 rfl rfl rfl ?_
    refine S.bipush (pc' := 11) dX6_readThing_9 rfl (by decide) ?_
    refine S.icmp_lt (pc' := 14) (tgt := 24) dX6_readThing_11 (by decide) rfl (by unfold fp_rng; omega) (by unfold fp_rng; omega) (fun h11 => ?_) (fun h11 => ?_)
    · exfalso; omega
    · refine S.aload_n (pc' := 15) dX6_readThing_14 rfl rfl rfl ?_
      refine S.iconst (pc' := 16) dX6_readThing_15 rfl ?_
      refine S.aload_n (pc' := 17) dX6_readThing_16 rfl rfl rfl ?_
      refine S.getI (pc' := 20) dX6_readThing_17 rfl fX6_76 L_2 ?_
      rw [h9]
      refine S.callVe (pc' := 23) dX6_readThing_20 rfl cX6_89 ok_X6_refuse rfl L_2 (by decide) rfl (Nat.le_of_ble_eq_true rfl) ?_
      refine S.zret dX6_readThing_23 rfl (Or.inl rfl) ?_
      exact lnP_no (fun a ha => by rw [fp_up_ne (by omega), fp_up_ne (by omega)]) ((hm.up (by decide) (by decide)).up (by decide) (by decide)) (hi.kept rfl rfl rfl rfl) rfl (flt_refuse (by omega))
  · rw [if_neg h10]
    refine S.aload_n (pc' := 1) dX6_readThing_0 rfl rfl rfl ?_
    refine S.getR (pc' := 4) dX6_readThing_1 rfl fX6_12 L_2 rf_2_0 ?_
    refine S.getI (pc' := 7) dX6_readThing_4 rfl fX6_129 (gd_lay gd3) ?_
    rw [e30]
    refine S.istore_n (pc' := 8) (LL' := [_, _, _]) dX6_readThing_7 rfl (by decide) rfl rfl rfl ?_
    refine S.iload_n (pc' := 9) dX6_readThing_8 rfl rfl rfl ?_
    refine S.bipush (pc' := 11) dX6_readThing_9 rfl (by decide) ?_
    refine S.icmp_lt (pc' := 14) (tgt := 24) dX6_readThing_11 (by decide) rfl (by unfold fp_rng; omega) (by unfold fp_rng; omega) (fun k11 => ?_) (fun k11 => ?_)
    · refine S.aload_n (pc' := 25) dX6_readThing_24 rfl rfl rfl ?_
      refine S.iconst (pc' := 26) dX6_readThing_25 rfl ?_
      refine S.iconst (pc' := 27) dX6_readThing_26 rfl ?_
      refine S.callVi (pc' := 30) dX6_readThing_27 rfl cX6_132 (rk_X6_readNumber ht hm hs h0 h1 (by unfold fp_rng; omega) (by unfold fp_rng; omega)) rfl L_2 (by decide) rfl (Nat.le_of_ble_eq_true rfl) (fun z27 M27 q27 => ?_)
      obtain ⟨f27, b27⟩ := q27
      refine S.if_ne (pc' := 33) (tgt := 35) dX6_readThing_30 (by decide) rfl (by rcases b27 with b | b <;> (unfold fp_rng; omega)) (fun h30 => ?_) (fun h30 => ?_)
      · rcases b27 with ⟨b1, b2, b3, b4, b5⟩ | b
        rotate_left
        · exfalso; omega
        rw [if_neg (fun q => q b1)]
        refine S.aload_n (pc' := 36) dX6_readThing_35 rfl rfl rfl ?_
        refine S.getR (pc' := 39) dX6_readThing_36 rfl fX6_21 L_2 rf_2_1 ?_
        refine S.getR (pc' := 42) dX6_readThing_39 rfl fX6_135 (pl_lay pl7) (pl_r0 pl7) ?_
        refine S.iload_n (pc' := 43) dX6_readThing_42 rfl rfl rfl ?_
        refine S.aload_n (pc' := 44) dX6_readThing_43 rfl rfl rfl ?_
        refine S.getI (pc' := 47) dX6_readThing_44 rfl fX6_86 L_2 ?_
        rw [b3]
        refine S.iast (pc' := 48) dX6_readThing_47 rfl (pl_a0 pl7) (by omega) (by omega) ?_
        have hm8 : rdT (fp_up M27 8 D.1.1.toNat (num tp s)) tp := ⟨(f27.T hm).1, (f27.T hm).2.1, (f27.T hm).2.2⟩
        refine S.aload_n (pc' := 49) dX6_readThing_48 rfl rfl rfl ?_
        refine S.iconst (pc' := 50) dX6_readThing_49 rfl ?_
        refine S.bipush (pc' := 52) dX6_readThing_50 rfl (by decide) ?_
        refine S.callVi (pc' := 55) dX6_readThing_52 rfl cX6_132 (rk_X6_readNumber (M := fp_up M27 8 D.1.1.toNat (num tp s)) (s := nxt tp s) ht hm8 b4 (by omega) (by omega) (by unfold fp_rng; omega) (by unfold fp_rng; omega)) rfl L_2 (by decide) rfl (Nat.le_of_ble_eq_true rfl) (fun z52 M52 q52 => ?_)
        obtain ⟨f52, b52⟩ := q52
        have hf52 : fR M M52 := (f27.R.trans (fun a ha => fp_up_ne (by omega))).trans f52.R
        refine S.if_ne (pc' := 58) (tgt := 60) dX6_readThing_55 (by decide) rfl (by rcases b52 with b | b <;> (unfold fp_rng; omega)) (fun h55 => ?_) (fun h55 => ?_)
        · rcases b52 with ⟨c1, c2, c3, c4, c5⟩ | b
          rotate_left
          · exfalso; omega
          rw [if_neg (fun q => q c1)]
          refine S.aload_n (pc' := 61) dX6_readThing_60 rfl rfl rfl ?_
          refine S.getR (pc' := 64) dX6_readThing_61 rfl fX6_12 L_2 rf_2_0 ?_
          refine S.getR (pc' := 67) dX6_readThing_64 rfl fX6_139 (gd_lay gd3) (gd_r3 gd3) ?_
          refine S.iload_n (pc' := 68) dX6_readThing_67 rfl rfl rfl ?_
          refine S.aload_n (pc' := 69) dX6_readThing_68 rfl rfl rfl ?_
          refine S.getI (pc' := 72) dX6_readThing_69 rfl fX6_86 L_2 ?_
          rw [c3]
          refine S.iast (pc' := 73) dX6_readThing_72 rfl (gd_a3 gd3) (by omega) (by omega) ?_
          refine S.iconst (pc' := 74) dX6_readThing_73 rfl ?_
          refine S.istore_n (pc' := 75) (LL' := [_, _, _]) dX6_readThing_74 rfl (by decide) rfl rfl rfl ?_
          refine th_loop (M := fp_up M52 4 D.1.1.toNat (num tp (nxt tp s))) (t := D.1.1) (s2 := nxt tp (nxt tp s)) (Dn := pTh D (num tp s) (num tp (nxt tp s)) (fun p => num tp (itN tp p.toNat (nxt tp (nxt tp s))))) ht (hf52.trans (fun a ha => fp_up_ne (by omega))) ⟨(f52.T hm8).1, (f52.T hm8).2.1, (f52.T hm8).2.2⟩ ?_ (by omega) (by omega) ?_ (fun N hN => ?_) 4 0 _ rfl (by omega) (by omega) ⟨fun _ _ _ => rfl, fun _ _ _ _ _ _ _ => rfl, fun j => by rw [if_neg (by omega)], c4, ?_, fun q q0 q1 => absurd q1 (by omega)⟩ rfl
          · exact th_w (f52.I ((f27.I hi).kept rfl rfl rfl rfl)) (by omega) c1.2.2
          · show M52 3 0 = D.1.1
            rw [f52.1 3 (by decide), fp_up_ne (by decide), f27.1 3 (by decide)]; exact e30
          · exact th_D hd f27 f52 (by omega) (by omega) hN
          · show M52 2 3 = 0
            rw [c5]; exact b5.trans h3
        · refine S.iconst (pc' := 59) dX6_readThing_58 rfl ?_
          refine S.zret dX6_readThing_59 rfl (by first | exact Or.inl rfl | exact Or.inr rfl | omega) ?_
          rcases b52 with b | b
          · exfalso; omega
          · rw [if_pos b.1]; exact lnP_no hf52 (f52.T hm8) (f52.I ((f27.I hi).kept rfl rfl rfl rfl)) rfl b.2.2
      · refine S.iconst (pc' := 34) dX6_readThing_33 rfl ?_
        refine S.zret dX6_readThing_34 rfl (by first | exact Or.inl rfl | exact Or.inr rfl | omega) ?_
        rcases b27 with b | b
        · exfalso; omega
        · rw [if_pos b.1]; exact lnP_no f27.R (f27.T hm) (f27.I hi) rfl b.2.2
    · exfalso; omega
end THG
