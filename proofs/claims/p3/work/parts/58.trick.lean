/-! TRICK -/
def aTk (g : aGd) (pg : aPg) (vs : List aVt) (p r i x : Int) : Nat → aPg
  | 0 => (aApp (aRun g pg vs i.toNat) p r x).2
  | n + 1 => (aHapI g (aTk g pg vs p r i x n) vs (i + n)).2
abbrev aIsT (g : aGd) (pg : aPg) (vs : List aVt) (p r t i j x : Int) : Prop := (aApp (aRun g pg vs i.toNat) p r x).1 ≠ 0 ∧ aGv g (aTk g pg vs p r i x (j - i).toNat) x = t
def aTl (g : aGd) (pg : aPg) (vs : List aVt) (p r t i j : Int) : Nat → Int → Int
  | 0, _ => -4
  | n + 1, x => if aIsT g pg vs p r t i j x then x else aTl g pg vs p r t i j n (x + 1)
def aTj (g : aGd) (pg : aPg) (vs : List aVt) (p r t w i : Int) : Nat → Int → Option Int
  | 0, _ => none
  | n + 1, j => if aTl g pg vs p r t i j g.2.1.toNat 0 ≠ -4 then some (if w = 0 then i else if w = 1 then j else aTl g pg vs p r t i j g.2.1.toNat 0) else aTj g pg vs p r t w i n (j + 1)
def aTi (g : aGd) (pg : aPg) (vs : List aVt) (p r t w : Int) : Nat → Int → Int
  | 0, _ => -4
  | n + 1, i => match aTj g pg vs p r t w i ((vs.length : Int) + 1 - i).toNat i with
    | some z => z
    | none => aTi g pg vs p r t w n (i + 1)
def A_trick (g : aGd) (pg : aPg) (vs : List aVt) (p r t w : Int) : Int := if ¬ ((0 ≤ p ∧ p < 4) ∧ (0 ≤ r ∧ r < g.1) ∧ (0 ≤ t ∧ t < g.1) ∧ t ≠ r ∧ (0 ≤ w ∧ w ≤ 2)) then -1 else if pg.1 r ≠ p then -2 else aTi g pg vs p r t w (vs.length + 1) 0
theorem aTk_ok {g : aGd} {pg : aPg} {vs : List aVt} {p r i x : Int} (hg : gOk g) (h : pgOk g pg) (hv : vsOk g vs) (hp : 0 ≤ p ∧ p < 4) (hr : 0 ≤ r ∧ r < g.1) (hx : 0 ≤ x ∧ x < g.2.1) : ∀ n, pgOk g (aTk g pg vs p r i x n)
  | 0 => aApp_ok hg (aRun_ok hg h hv _) hp hr hx
  | n + 1 => aHapI_ok hg (aTk_ok hg h hv hp hr hx n) hv
theorem aTk_succ {g : aGd} {pg : aPg} {vs : List aVt} {p r i x j : Int} (h : i ≤ j) : aTk g pg vs p r i x (j + 1 - i).toNat = (aHapI g (aTk g pg vs p r i x (j - i).toNat) vs j).2 := by
  have e1 : (j + 1 - i).toNat = (j - i).toNat + 1 := by omega
  rw [e1]
  show (aHapI g (aTk g pg vs p r i x (j - i).toNat) vs (i + (((j - i).toNat : Nat) : Int))).2 = _
  rw [show i + (((j - i).toNat : Nat) : Int) = j by omega]
theorem aTl_in {g : aGd} {pg : aPg} {vs : List aVt} {p r t i j : Int} : ∀ (n : Nat) (x : Int), 0 ≤ x → aTl g pg vs p r t i j n x = -4 ∨ (0 ≤ aTl g pg vs p r t i j n x ∧ aTl g pg vs p r t i j n x < x + n)
  | 0, x, _ => Or.inl rfl
  | n + 1, x, h => by
    have q := aTl_in (g := g) (pg := pg) (vs := vs) (p := p) (r := r) (t := t) (i := i) (j := j) n (x + 1) (by omega)
    unfold aTl
    split
    · right; omega
    · omega
theorem aApp_01 (pg : aPg) (p t x : Int) : (aApp pg p t x).1 = 0 ∨ (aApp pg p t x).1 = 1 := by
  unfold aApp
  split <;> simp
section TRI
variable {l : Launch} {G : fp_WG} {M N : fp_Mem} {tp tp' : List Int} {fl fl' : Int} {g : aGd} {pg pg' : aPg} {vs vs' : List aVt} {nt nt' : List Int} {im im' : aIm} {sh sh' : aSh} {tn tn' : Int} {k k2 : Nat}
theorem istrick_loop {p r t i j x : Int} (hp : 0 ≤ p ∧ p < 4) (hr : 0 ≤ r ∧ r < g.1) (ht : 0 ≤ t ∧ t < g.1) (hx : 0 ≤ x ∧ x < g.2.1) (hi : 0 ≤ i) (hj : j ≤ vs.length) (hP : pgOk g pg) (hg : gOk g) (hvo : vsOk g vs) (hv : mvIs M vs) (hd : mdIs M g) (h1 : (aApp (aRun g pg vs i.toNat) p r x).1 ≠ 0) : ∀ (n : Nat) (q : Int) (N : fp_Mem), (j - q).toNat < n → i ≤ q → q ≤ j → frT M N → mpIs N 360 g (aTk g pg vs p r i x (q - i).toNat) →
    fp_S l G 6 kX12_isTrick 27 [some (rV G 177), some (iV p), some (iV r), some (iV t), some (iV i), some (iV j), some (iV x), some (iV q)] [] N (qI fun z O => ((z = 1 ∧ aIsT g pg vs p r t i j x) ∨ (z = 0 ∧ ¬ aIsT g pg vs p r t i j x)) ∧ frT M O) := by
  have hl := hv.2.1
  have hg1 := hg.1
  intro n
  induction n with
  | zero => intro q N h; omega
  | succ n ih =>
    intro q N h q0 q1 hf hc
    have er := aTk_succ (g := g) (pg := pg) (vs := vs) (p := p) (r := r) (x := x) q0
    have hPi := aTk_ok (i := i) hg hP hvo hp hr hx (q - i).toNat
    have hv' := hf.mv hv
    have hd' := hf.md hd
    have hq := aGv_in hPi hg hx
    refine S.iload (pc' := 29) dX12_isTrick_27 rfl rfl ?_
    refine S.iload (pc' := 31) dX12_isTrick_29 rfl rfl ?_
    refine S.icmp_ge (pc' := 34) (tgt := 50) dX12_isTrick_31 (by decide) rfl (by unfold fp_rng; omega) (by unfold fp_rng; omega) (fun h31 => ?_) (fun h31 => ?_)
    · refine S.aload_n (pc' := 51) dX12_isTrick_50 rfl rfl rfl ?_
      refine S.sipush (pc' := 54) dX12_isTrick_51 rfl (by decide) ?_
      refine S.iload (pc' := 56) dX12_isTrick_54 rfl rfl ?_
      refine S.callVe (pc' := 59) dX12_isTrick_56 rfl cX12_222 (rk_X12_gives (g := g) (pg := aTk g pg vs p r i x (q - i).toNat)) rfl L_177 (by decide) rfl (Nat.le_of_ble_eq_true rfl) ?_
      refine S.iload_n (pc' := 60) dX12_isTrick_59 rfl rfl rfl ?_
      refine S.icmp_ne (pc' := 63) (tgt := 67) dX12_isTrick_60 (by decide) rfl (by unfold fp_rng; omega) (by unfold fp_rng; omega) (fun h60 => ?_) (fun h60 => ?_)
      · refine S.iconst (pc' := 68) dX12_isTrick_67 rfl ?_
        refine S.zret dX12_isTrick_68 rfl (by first | exact Or.inl rfl | exact Or.inr rfl | omega) ?_
        have eq : q = j := by omega
        subst eq
        refine ⟨?_, hf⟩
        first | exact Or.inl ⟨rfl, h1, h60⟩ | exact Or.inr ⟨rfl, fun q9 => h60 q9.2⟩
      · refine S.iconst (pc' := 64) dX12_isTrick_63 rfl ?_
        refine S.goto (pc' := 68) dX12_isTrick_64 (by decide) ?_
        refine S.zret dX12_isTrick_68 rfl (by first | exact Or.inl rfl | exact Or.inr rfl | omega) ?_
        have eq : q = j := by omega
        subst eq
        refine ⟨?_, hf⟩
        first | exact Or.inl ⟨rfl, h1, h60⟩ | exact Or.inr ⟨rfl, fun q9 => h60 q9.2⟩
    · refine S.aload_n (pc' := 35) dX12_isTrick_34 rfl rfl rfl ?_
      refine S.sipush (pc' := 38) dX12_isTrick_35 rfl (by decide) ?_
      refine S.iload (pc' := 40) dX12_isTrick_38 rfl rfl ?_
      refine S.callVi (pc' := 43) dX12_isTrick_40 rfl cX12_261 (rk_X12_happens (g := g) (pg := aTk g pg vs p r i x (q - i).toNat) (vs := vs)) rfl L_177 (by decide) rfl (Nat.le_of_ble_eq_true rfl) (fun z40 M40 q40 => ?_)
      obtain ⟨z1, c1, f1⟩ := q40
      rw [← er] at c1
      refine S.pop (pc' := 44) dX12_isTrick_43 rfl rfl ?_
      refine S.iinc (pc' := 47) (LL' := [_, _, _, _, _, _, _, _]) dX12_isTrick_44 rfl (by decide) rfl rfl rfl ?_
      refine S.goto (pc' := 27) dX12_isTrick_47 (by decide) ?_
      exact ih _ _ (by omega) (by omega) (by omega) (hf.trans f1.toT) c1
theorem rk_X12_isTrick {p r t i j x : Int} (hp : 0 ≤ p ∧ p < 4) (hr : 0 ≤ r ∧ r < g.1) (ht : 0 ≤ t ∧ t < g.1) (hx : 0 ≤ x ∧ x < g.2.1) (hi : 0 ≤ i ∧ i ≤ j) (hj : j ≤ vs.length) (hc : mpIs M 0 g pg) (hP : pgOk g pg) (hg : gOk g) (hvo : vsOk g vs) (hv : mvIs M vs) (hd : mdIs M g) : fp_Ok l G 6 kX12_isTrick [rV G 177, iV p, iV r, iV t, iV i, iV j, iV x] M (qI fun z O => ((z = 1 ∧ aIsT g pg vs p r t i j x) ∨ (z = 0 ∧ ¬ aIsT g pg vs p r t i j x)) ∧ frT M O) := by
  refine fp_Ok.of (r := 1) rfl (Nat.le_of_ble_eq_true rfl) rfl ?_
  have hPi := aRun_ok hg hP hvo i.toNat
  have h01 := aApp_01 (aRun g pg vs i.toNat) p r x
  refine S.aload_n (pc' := 1) dX12_isTrick_0 rfl rfl rfl ?_
  refine S.iload (pc' := 3) dX12_isTrick_1 rfl rfl ?_
  refine S.callVi (pc' := 6) dX12_isTrick_3 rfl cX12_268 (rk_X12_runs (g := g) (pg := pg) (vs := vs)) rfl L_177 (by decide) rfl (Nat.le_of_ble_eq_true rfl) (fun z3 M3 q3 => ?_)
  obtain ⟨z1, c1, f1⟩ := q3
  refine S.pop (pc' := 7) dX12_isTrick_6 rfl rfl ?_
  refine S.aload_n (pc' := 8) dX12_isTrick_7 rfl rfl rfl ?_
  refine S.sipush (pc' := 11) dX12_isTrick_8 rfl (by decide) ?_
  refine S.iload_n (pc' := 12) dX12_isTrick_11 rfl rfl rfl ?_
  refine S.iload_n (pc' := 13) dX12_isTrick_12 rfl rfl rfl ?_
  refine S.iload (pc' := 15) dX12_isTrick_13 rfl rfl ?_
  refine S.callVi (pc' := 18) dX12_isTrick_15 rfl cX12_244 (rk_X12_puts (g := g) (pg := aRun g pg vs i.toNat)) rfl L_177 (by decide) rfl (Nat.le_of_ble_eq_true rfl) (fun z15 M15 q15 => ?_)
  obtain ⟨z2, c2, f2⟩ := q15
  refine S.if_ne (pc' := 21) (tgt := 23) dX12_isTrick_18 (by decide) rfl (by unfold fp_rng; omega) (fun h18 => ?_) (fun h18 => ?_)
  · refine S.iload (pc' := 25) dX12_isTrick_23 rfl rfl ?_
    refine S.istore (pc' := 27) (LL' := [_, _, _, _, _, _, _, _]) dX12_isTrick_25 rfl (by decide) rfl rfl ?_
    refine istrick_loop hp hr ht hx hi.1 hj hP hg hvo hv hd (by omega) (j.toNat + 1) i _ (by omega) (by omega) (by omega) (f1.trans f2.toT) ?_
    rw [show (i - i).toNat = 0 by omega]
    exact c2
  · refine S.iconst (pc' := 22) dX12_isTrick_21 rfl ?_
    refine S.zret dX12_isTrick_22 rfl (by first | exact Or.inl rfl | exact Or.inr rfl | omega) ?_
    exact ⟨Or.inr ⟨rfl, fun q9 => q9.1 (by omega)⟩, f1.trans f2.toT⟩
theorem mtrick_l {p r t w i j : Int} (hp : 0 ≤ p ∧ p < 4) (hr : 0 ≤ r ∧ r < g.1) (ht : 0 ≤ t ∧ t < g.1) (hw : 0 ≤ w ∧ w ≤ 2) (hi : 0 ≤ i ∧ i ≤ j) (hj : j ≤ vs.length) (ho : OK g pg vs nt im sh) (hcs : MS M tp fl g pg vs nt im sh tn) {Q : Int → fp_Mem → Prop} : ∀ (n : Nat) (x : Int) (N : fp_Mem), (g.2.1 - x).toNat = n → 0 ≤ x → x ≤ g.2.1 → frT M N → (∀ O, frT M O → aTl g pg vs p r t i j n x ≠ -4 → Q (if w = 0 then i else if w = 1 then j else aTl g pg vs p r t i j n x) O) → (∀ O, frT M O → aTl g pg vs p r t i j n x = -4 → fp_S l G 7 kX12_trick 139 [some (rV G 177), some (iV p), some (iV r), some (iV t), some (iV w), some (iV i), some (iV j), some (iV g.2.1)] [] O (qI Q)) →
    fp_S l G 7 kX12_trick 84 [some (rV G 177), some (iV p), some (iV r), some (iV t), some (iV w), some (iV i), some (iV j), some (iV x)] [] N (qI Q) := by
  obtain ⟨-, hd, hcl, hv, -⟩ := hcs
  have hv0 : mvIs M vs := hv
  obtain ⟨hg, hP, hvo, -⟩ := ho
  have hg2 := hg.2.1
  have hl := hv.2.1
  intro n
  induction n with
  | zero =>
    intro x N h x0 x1 hf hA hB
    have hd1 := (hf.md hd).2.1
    have ex : x = g.2.1 := by omega
    subst ex
    refine S.iload (pc' := 86) dX12_trick_84 rfl rfl ?_
    refine S.aload_n (pc' := 87) dX12_trick_86 rfl rfl rfl ?_
    refine S.getI (pc' := 90) dX12_trick_87 rfl fX12_184 L_177 ?_
    refine S.icmp_ge (pc' := 93) (tgt := 139) dX12_trick_90 (by decide) rfl (by unfold fp_rng; omega) (by unfold fp_rng; omega) (fun h90 => ?_) (fun h90 => ?_)
    · exact hB _ hf rfl
    · exfalso; omega
  | succ n ih =>
    intro x N h x0 x1 hf hA hB
    have hd' := hf.md hd
    have hd1 := hd'.2.1
    have hv' := hf.mv hv0
    have hc' := hf.mp0 hg hP hcl
    have es : aTl g pg vs p r t i j (n + 1) x = if aIsT g pg vs p r t i j x then x else aTl g pg vs p r t i j n (x + 1) := rfl
    rw [es] at hA hB
    refine S.iload (pc' := 86) dX12_trick_84 rfl rfl ?_
    refine S.aload_n (pc' := 87) dX12_trick_86 rfl rfl rfl ?_
    refine S.getI (pc' := 90) dX12_trick_87 rfl fX12_184 L_177 ?_
    refine S.icmp_ge (pc' := 93) (tgt := 139) dX12_trick_90 (by decide) rfl (by unfold fp_rng; omega) (by unfold fp_rng; omega) (fun h90 => ?_) (fun h90 => ?_)
    · exfalso; omega
    · refine S.aload_n (pc' := 94) dX12_trick_93 rfl rfl rfl ?_
      refine S.iload_n (pc' := 95) dX12_trick_94 rfl rfl rfl ?_
      refine S.iload_n (pc' := 96) dX12_trick_95 rfl rfl rfl ?_
      refine S.iload_n (pc' := 97) dX12_trick_96 rfl rfl rfl ?_
      refine S.iload (pc' := 99) dX12_trick_97 rfl rfl ?_
      refine S.iload (pc' := 101) dX12_trick_99 rfl rfl ?_
      refine S.iload (pc' := 103) dX12_trick_101 rfl rfl ?_
      refine S.callVi (pc' := 106) dX12_trick_103 rfl cX12_273 (rk_X12_isTrick (g := g) (pg := pg) (vs := vs) hp hr ht ⟨x0, by omega⟩ hi hj hc' hP hg hvo hv' hd') rfl L_177 (by decide) rfl (Nat.le_of_ble_eq_true rfl) (fun z103 M103 q103 => ?_)
      obtain ⟨b9, f9⟩ := q103
      refine S.if_eq (pc' := 109) (tgt := 133) dX12_trick_106 (by decide) rfl (by unfold fp_rng; omega) (fun h106 => ?_) (fun h106 => ?_)
      · refine S.iinc (pc' := 136) (LL' := [_, _, _, _, _, _, _, _]) dX12_trick_133 rfl (by decide) rfl rfl rfl ?_
        refine S.goto (pc' := 84) dX12_trick_136 (by decide) ?_
        have hn : ¬ aIsT g pg vs p r t i j x := by
          rcases b9 with q | q
          · exact absurd q.1 (by omega)
          · exact q.2
        rw [if_neg hn] at hA hB
        exact ih _ _ (by omega) (by omega) (by omega) (hf.trans f9) hA hB
      · refine S.iload (pc' := 111) dX12_trick_109 rfl rfl ?_
        refine S.if_ne (pc' := 114) (tgt := 119) dX12_trick_111 (by decide) rfl (by unfold fp_rng; omega) (fun h111 => ?_) (fun h111 => ?_)
        · refine S.iload (pc' := 121) dX12_trick_119 rfl rfl ?_
          refine S.iconst (pc' := 122) dX12_trick_121 rfl ?_
          refine S.icmp_ne (pc' := 125) (tgt := 130) dX12_trick_122 (by decide) rfl (by unfold fp_rng; omega) (by unfold fp_rng; omega) (fun h122 => ?_) (fun h122 => ?_)
          · refine S.iload (pc' := 132) dX12_trick_130 rfl rfl ?_
            refine S.iret dX12_trick_132 rfl ?_
            have hn : aIsT g pg vs p r t i j x := by
              rcases b9 with q | q
              · exact q.2
              · exact absurd q.1 (by omega)
            rw [if_pos hn] at hA
            have hz := hA _ (hf.trans f9) (by omega)
            first | (rw [if_pos (by omega)] at hz; exact hz) | (rw [if_neg (by omega), if_pos (by omega)] at hz; exact hz) | (rw [if_neg (by omega), if_neg (by omega)] at hz; exact hz)
          · refine S.iload (pc' := 127) dX12_trick_125 rfl rfl ?_
            refine S.goto (pc' := 132) dX12_trick_127 (by decide) ?_
            refine S.iret dX12_trick_132 rfl ?_
            have hn : aIsT g pg vs p r t i j x := by
              rcases b9 with q | q
              · exact q.2
              · exact absurd q.1 (by omega)
            rw [if_pos hn] at hA
            have hz := hA _ (hf.trans f9) (by omega)
            first | (rw [if_pos (by omega)] at hz; exact hz) | (rw [if_neg (by omega), if_pos (by omega)] at hz; exact hz) | (rw [if_neg (by omega), if_neg (by omega)] at hz; exact hz)
        · refine S.iload (pc' := 116) dX12_trick_114 rfl rfl ?_
          refine S.goto (pc' := 132) dX12_trick_116 (by decide) ?_
          refine S.iret dX12_trick_132 rfl ?_
          have hn : aIsT g pg vs p r t i j x := by
            rcases b9 with q | q
            · exact q.2
            · exact absurd q.1 (by omega)
          rw [if_pos hn] at hA
          have hz := hA _ (hf.trans f9) (by omega)
          first | (rw [if_pos (by omega)] at hz; exact hz) | (rw [if_neg (by omega), if_pos (by omega)] at hz; exact hz) | (rw [if_neg (by omega), if_neg (by omega)] at hz; exact hz)
theorem mtrick_j {p r t w i : Int} (hp : 0 ≤ p ∧ p < 4) (hr : 0 ≤ r ∧ r < g.1) (ht : 0 ≤ t ∧ t < g.1) (hw : 0 ≤ w ∧ w ≤ 2) (hi : 0 ≤ i) (ho : OK g pg vs nt im sh) (hcs : MS M tp fl g pg vs nt im sh tn) {Q : Int → fp_Mem → Prop} : ∀ (n : Nat) (j : Int) (N : fp_Mem) (o7 : Option Value), ((vs.length : Int) + 1 - j).toNat = n → i ≤ j → j ≤ vs.length + 1 → frT M N → (∀ O z, frT M O → aTj g pg vs p r t w i n j = some z → Q z O) → (∀ O o6 o7, frT M O → aTj g pg vs p r t w i n j = none → fp_S l G 7 kX12_trick 145 [some (rV G 177), some (iV p), some (iV r), some (iV t), some (iV w), some (iV i), o6, o7] [] O (qI Q)) →
    fp_S l G 7 kX12_trick 72 [some (rV G 177), some (iV p), some (iV r), some (iV t), some (iV w), some (iV i), some (iV j), o7] [] N (qI Q) := by
  have hv0 : mvIs M vs := hcs.2.2.2.1
  have hl := hv0.2.1
  intro n
  induction n with
  | zero =>
    intro j N o7 h j0 j1 hf hA hB
    have hl1 := (hf.mv hv0).1
    refine S.iload (pc' := 74) dX12_trick_72 rfl rfl ?_
    refine S.aload_n (pc' := 75) dX12_trick_74 rfl rfl rfl ?_
    refine S.callVe (pc' := 78) dX12_trick_75 rfl cX12_225 (ok_X12_visits) rfl L_177 (by decide) rfl (Nat.le_of_ble_eq_true rfl) ?_
    refine S.icmp_gt (pc' := 81) (tgt := 145) dX12_trick_78 (by decide) rfl (by unfold fp_rng; omega) (by unfold fp_rng; omega) (fun h78 => ?_) (fun h78 => ?_)
    · exact hB _ _ _ hf rfl
    · exfalso; omega
  | succ n ih =>
    intro j N o7 h j0 j1 hf hA hB
    have hl1 := (hf.mv hv0).1
    have es : aTj g pg vs p r t w i (n + 1) j = if aTl g pg vs p r t i j g.2.1.toNat 0 ≠ -4 then some (if w = 0 then i else if w = 1 then j else aTl g pg vs p r t i j g.2.1.toNat 0) else aTj g pg vs p r t w i n (j + 1) := rfl
    have htail : ∀ O, frT M O → (∀ O z, frT M O → aTj g pg vs p r t w i n (j + 1) = some z → Q z O) → (∀ O o6 o7, frT M O → aTj g pg vs p r t w i n (j + 1) = none → fp_S l G 7 kX12_trick 145 [some (rV G 177), some (iV p), some (iV r), some (iV t), some (iV w), some (iV i), o6, o7] [] O (qI Q)) → fp_S l G 7 kX12_trick 139 [some (rV G 177), some (iV p), some (iV r), some (iV t), some (iV w), some (iV i), some (iV j), some (iV g.2.1)] [] O (qI Q) := by
      intro O fO hA2 hB2
      refine S.iinc (pc' := 142) (LL' := [_, _, _, _, _, _, _, _]) dX12_trick_139 rfl (by decide) rfl rfl rfl ?_
      refine S.goto (pc' := 72) dX12_trick_142 (by decide) ?_
      exact ih _ _ _ (by omega) (by omega) (by omega) fO hA2 hB2
    rw [es] at hA hB
    refine S.iload (pc' := 74) dX12_trick_72 rfl rfl ?_
    refine S.aload_n (pc' := 75) dX12_trick_74 rfl rfl rfl ?_
    refine S.callVe (pc' := 78) dX12_trick_75 rfl cX12_225 (ok_X12_visits) rfl L_177 (by decide) rfl (Nat.le_of_ble_eq_true rfl) ?_
    refine S.icmp_gt (pc' := 81) (tgt := 145) dX12_trick_78 (by decide) rfl (by unfold fp_rng; omega) (by unfold fp_rng; omega) (fun h78 => ?_) (fun h78 => ?_)
    · exfalso; omega
    · refine S.iconst (pc' := 82) dX12_trick_81 rfl ?_
      refine S.istore (pc' := 84) (LL' := [_, _, _, _, _, _, _, _]) dX12_trick_82 rfl (by decide) rfl rfl ?_
      refine mtrick_l hp hr ht hw ⟨hi, j0⟩ (by omega) ho hcs g.2.1.toNat 0 _ (by omega) (by omega) ho.1.2.1.1 hf (fun O fO hq => hA O _ fO (by rw [if_pos hq])) (fun O fO hq => ?_)
      rw [if_neg (fun q => q hq)] at hA hB
      exact htail O fO hA hB
theorem mtrick_i {p r t w : Int} (hp : 0 ≤ p ∧ p < 4) (hr : 0 ≤ r ∧ r < g.1) (ht : 0 ≤ t ∧ t < g.1) (hw : 0 ≤ w ∧ w ≤ 2) (ho : OK g pg vs nt im sh) (hcs : MS M tp fl g pg vs nt im sh tn) : ∀ (n : Nat) (i : Int) (N : fp_Mem) (o6 o7 : Option Value), ((vs.length : Int) + 1 - i).toNat = n → 0 ≤ i → i ≤ vs.length + 1 → frT M N →
    fp_S l G 7 kX12_trick 59 [some (rV G 177), some (iV p), some (iV r), some (iV t), some (iV w), some (iV i), o6, o7] [] N (qI fun z O => z = aTi g pg vs p r t w n i ∧ MS O tp fl g pg vs nt im sh tn ∧ frD M O) := by
  have hv0 : mvIs M vs := hcs.2.2.2.1
  have hl := hv0.2.1
  intro n
  induction n with
  | zero =>
    intro i N o6 o7 h i0 i1 hf
    have hl1 := (hf.mv hv0).1
    refine S.iload (pc' := 61) dX12_trick_59 rfl rfl ?_
    refine S.aload_n (pc' := 62) dX12_trick_61 rfl rfl rfl ?_
    refine S.callVe (pc' := 65) dX12_trick_62 rfl cX12_225 (ok_X12_visits) rfl L_177 (by decide) rfl (Nat.le_of_ble_eq_true rfl) ?_
    refine S.icmp_gt (pc' := 68) (tgt := 151) dX12_trick_65 (by decide) rfl (by unfold fp_rng; omega) (by unfold fp_rng; omega) (fun h65 => ?_) (fun h65 => ?_)
    · refine S.bipush (pc' := 153) dX12_trick_151 rfl (by decide) ?_
      refine S.iret dX12_trick_153 rfl ?_
      exact ⟨rfl, hcs.tri ho hf, hf.d⟩
    · exfalso; omega
  | succ n ih =>
    intro i N o6 o7 h i0 i1 hf
    have hl1 := (hf.mv hv0).1
    have es : aTi g pg vs p r t w (n + 1) i = match aTj g pg vs p r t w i ((vs.length : Int) + 1 - i).toNat i with
      | some z => z
      | none => aTi g pg vs p r t w n (i + 1) := rfl
    have htail : ∀ O o6 o7, frT M O → fp_S l G 7 kX12_trick 145 [some (rV G 177), some (iV p), some (iV r), some (iV t), some (iV w), some (iV i), o6, o7] [] O (qI fun z O => z = aTi g pg vs p r t w n (i + 1) ∧ MS O tp fl g pg vs nt im sh tn ∧ frD M O) := by
      intro O o6 o7 fO
      refine S.iinc (pc' := 148) (LL' := [_, _, _, _, _, _, _, _]) dX12_trick_145 rfl (by decide) rfl rfl rfl ?_
      refine S.goto (pc' := 59) dX12_trick_148 (by decide) ?_
      exact ih _ _ _ _ (by omega) (by omega) (by omega) fO
    refine S.iload (pc' := 61) dX12_trick_59 rfl rfl ?_
    refine S.aload_n (pc' := 62) dX12_trick_61 rfl rfl rfl ?_
    refine S.callVe (pc' := 65) dX12_trick_62 rfl cX12_225 (ok_X12_visits) rfl L_177 (by decide) rfl (Nat.le_of_ble_eq_true rfl) ?_
    refine S.icmp_gt (pc' := 68) (tgt := 151) dX12_trick_65 (by decide) rfl (by unfold fp_rng; omega) (by unfold fp_rng; omega) (fun h65 => ?_) (fun h65 => ?_)
    · exfalso; omega
    · refine S.iload (pc' := 70) dX12_trick_68 rfl rfl ?_
      refine S.istore (pc' := 72) (LL' := [_, _, _, _, _, _, _, _]) dX12_trick_70 rfl (by decide) rfl rfl ?_
      exact mtrick_j hp hr ht hw i0 ho hcs _ i _ _ rfl (by omega) (by omega) hf (fun O z fO hz => ⟨by rw [es, hz], hcs.tri ho fO, fO.d⟩) (fun O o6 o7 fO hz => by rw [es, hz]; exact htail O o6 o7 fO)
theorem mm_trick {p r t w : Int} (hc : MS M tp fl g pg vs nt im sh tn) (ho : OK g pg vs nt im sh) (hp : fp_rng p) (hr : fp_rng r) (ht : fp_rng t) (hw : fp_rng w) : fp_Ok l G 7 kX12_trick [rV G 177, iV p, iV r, iV t, iV w] M (qI fun z N => z = A_trick g pg vs p r t w ∧ MS N tp fl g pg vs nt im sh tn ∧ frD M N) := by
  have hcs := hc
  obtain ⟨-, hd, hcl, hv, -⟩ := hc
  have ho' := ho
  obtain ⟨hg, hP, hvo, -⟩ := ho
  have hg1 := hg.1
  have hw' := hw
  unfold fp_rng at hw'
  refine fp_Ok.of (r := 3) rfl (Nat.le_of_ble_eq_true rfl) rfl ?_
  unfold A_trick
  by_cases hin : (0 ≤ p ∧ p < 4) ∧ (0 ≤ r ∧ r < g.1) ∧ (0 ≤ t ∧ t < g.1) ∧ t ≠ r ∧ (0 ≤ w ∧ w ≤ 2)
  · rw [if_neg (fun q => q hin)]
    have c1 := hcl.1 r hin.2.1.1 hin.2.1.2
    rw [show (0 + r).toNat = r.toNat by omega] at c1
    have c2 := hP.1 r hin.2.1.1 hin.2.1.2
    have hg2 := hg.2.1
    by_cases hq : pg.1 r = p
    · rw [if_neg (fun q => q hq)]
      refine S.iload_n (pc' := 1) dX12_trick_0 rfl rfl rfl ?_
      refine S.callSi (pc' := 4) dX12_trick_1 rfl cX12_228 (bk_X12_isOne) rfl (by decide) rfl (Nat.le_of_ble_eq_true rfl) (fun z1 M1 q1 => ?_)
      obtain ⟨b1, rfl⟩ := q1
      refine S.if_eq (pc' := 7) (tgt := 41) dX12_trick_4 (by decide) rfl (by unfold fp_rng; omega) (fun h4 => ?_) (fun h4 => ?_)
      · exfalso; omega
      · refine S.aload_n (pc' := 8) dX12_trick_7 rfl rfl rfl ?_
        refine S.iload_n (pc' := 9) dX12_trick_8 rfl rfl rfl ?_
        refine S.callVi (pc' := 12) dX12_trick_9 rfl cX12_205 (bk_X12_isThing) rfl L_177 (by decide) rfl (Nat.le_of_ble_eq_true rfl) (fun z9 M9 q9 => ?_)
        obtain ⟨b9, rfl⟩ := q9
        refine S.if_eq (pc' := 15) (tgt := 41) dX12_trick_12 (by decide) rfl (by unfold fp_rng; omega) (fun h12 => ?_) (fun h12 => ?_)
        · exfalso; omega
        · refine S.aload_n (pc' := 16) dX12_trick_15 rfl rfl rfl ?_
          refine S.iload_n (pc' := 17) dX12_trick_16 rfl rfl rfl ?_
          refine S.callVi (pc' := 20) dX12_trick_17 rfl cX12_205 (bk_X12_isThing) rfl L_177 (by decide) rfl (Nat.le_of_ble_eq_true rfl) (fun z17 M17 q17 => ?_)
          obtain ⟨b17, rfl⟩ := q17
          refine S.if_eq (pc' := 23) (tgt := 41) dX12_trick_20 (by decide) rfl (by unfold fp_rng; omega) (fun h20 => ?_) (fun h20 => ?_)
          · exfalso; omega
          · refine S.iload_n (pc' := 24) dX12_trick_23 rfl rfl rfl ?_
            refine S.iload_n (pc' := 25) dX12_trick_24 rfl rfl rfl ?_
            refine S.icmp_eq (pc' := 28) (tgt := 41) dX12_trick_25 (by decide) rfl hr ht (fun h25 => ?_) (fun h25 => ?_)
            · exfalso; omega
            · refine S.iload (pc' := 30) dX12_trick_28 rfl rfl ?_
              refine S.i2l (pc' := 31) dX12_trick_30 rfl (by unfold fp_rng; omega) ?_
              refine S.lconst (pc' := 32) (w := 0) dX12_trick_31 rfl rfl ?_
              refine S.ldc2 (pc' := 35) (v := 2) dX12_trick_32 rfl lX12_271 (by decide) ?_
              refine S.callSi (pc' := 38) dX12_trick_35 rfl cX12_94 (bk_X12_in) rfl (by decide) rfl (Nat.le_of_ble_eq_true rfl) (fun z35 M35 q35 => ?_)
              obtain ⟨b35, rfl⟩ := q35
              refine S.if_ne (pc' := 41) (tgt := 43) dX12_trick_38 (by decide) rfl (by unfold fp_rng; omega) (fun h38 => ?_) (fun h38 => ?_)
              · refine S.aload_n (pc' := 44) dX12_trick_43 rfl rfl rfl ?_
                refine S.getR (pc' := 47) dX12_trick_44 rfl fX12_7 L_177 rf_177_0 ?_
                refine S.iload_n (pc' := 48) dX12_trick_47 rfl rfl rfl ?_
                refine S.iald (pc' := 49) dX12_trick_48 rfl L_178 (by omega) (by omega) ?_
                refine S.iload_n (pc' := 50) dX12_trick_49 rfl rfl rfl ?_
                refine S.icmp_eq (pc' := 53) (tgt := 56) dX12_trick_50 (by decide) rfl (by unfold fp_rng; omega) (by unfold fp_rng; omega) (fun h50 => ?_) (fun h50 => ?_)
                · refine S.iconst (pc' := 57) dX12_trick_56 rfl ?_
                  refine S.istore (pc' := 59) (LL' := [_, _, _, _, _, _, _, _]) dX12_trick_57 rfl (by decide) rfl rfl ?_
                  exact mtrick_i hin.1 hin.2.1 hin.2.2.1 hin.2.2.2.2 ho' hcs (vs.length + 1) 0 _ none none (by omega) (by omega) (by omega) (frT.refl _)
                · exfalso; omega
              · exfalso; omega
    · rw [if_pos hq]
      refine S.iload_n (pc' := 1) dX12_trick_0 rfl rfl rfl ?_
      refine S.callSi (pc' := 4) dX12_trick_1 rfl cX12_228 (bk_X12_isOne) rfl (by decide) rfl (Nat.le_of_ble_eq_true rfl) (fun z1 M1 q1 => ?_)
      obtain ⟨b1, rfl⟩ := q1
      refine S.if_eq (pc' := 7) (tgt := 41) dX12_trick_4 (by decide) rfl (by unfold fp_rng; omega) (fun h4 => ?_) (fun h4 => ?_)
      · exfalso; omega
      · refine S.aload_n (pc' := 8) dX12_trick_7 rfl rfl rfl ?_
        refine S.iload_n (pc' := 9) dX12_trick_8 rfl rfl rfl ?_
        refine S.callVi (pc' := 12) dX12_trick_9 rfl cX12_205 (bk_X12_isThing) rfl L_177 (by decide) rfl (Nat.le_of_ble_eq_true rfl) (fun z9 M9 q9 => ?_)
        obtain ⟨b9, rfl⟩ := q9
        refine S.if_eq (pc' := 15) (tgt := 41) dX12_trick_12 (by decide) rfl (by unfold fp_rng; omega) (fun h12 => ?_) (fun h12 => ?_)
        · exfalso; omega
        · refine S.aload_n (pc' := 16) dX12_trick_15 rfl rfl rfl ?_
          refine S.iload_n (pc' := 17) dX12_trick_16 rfl rfl rfl ?_
          refine S.callVi (pc' := 20) dX12_trick_17 rfl cX12_205 (bk_X12_isThing) rfl L_177 (by decide) rfl (Nat.le_of_ble_eq_true rfl) (fun z17 M17 q17 => ?_)
          obtain ⟨b17, rfl⟩ := q17
          refine S.if_eq (pc' := 23) (tgt := 41) dX12_trick_20 (by decide) rfl (by unfold fp_rng; omega) (fun h20 => ?_) (fun h20 => ?_)
          · exfalso; omega
          · refine S.iload_n (pc' := 24) dX12_trick_23 rfl rfl rfl ?_
            refine S.iload_n (pc' := 25) dX12_trick_24 rfl rfl rfl ?_
            refine S.icmp_eq (pc' := 28) (tgt := 41) dX12_trick_25 (by decide) rfl hr ht (fun h25 => ?_) (fun h25 => ?_)
            · exfalso; omega
            · refine S.iload (pc' := 30) dX12_trick_28 rfl rfl ?_
              refine S.i2l (pc' := 31) dX12_trick_30 rfl (by unfold fp_rng; omega) ?_
              refine S.lconst (pc' := 32) (w := 0) dX12_trick_31 rfl rfl ?_
              refine S.ldc2 (pc' := 35) (v := 2) dX12_trick_32 rfl lX12_271 (by decide) ?_
              refine S.callSi (pc' := 38) dX12_trick_35 rfl cX12_94 (bk_X12_in) rfl (by decide) rfl (Nat.le_of_ble_eq_true rfl) (fun z35 M35 q35 => ?_)
              obtain ⟨b35, rfl⟩ := q35
              refine S.if_ne (pc' := 41) (tgt := 43) dX12_trick_38 (by decide) rfl (by unfold fp_rng; omega) (fun h38 => ?_) (fun h38 => ?_)
              · refine S.aload_n (pc' := 44) dX12_trick_43 rfl rfl rfl ?_
                refine S.getR (pc' := 47) dX12_trick_44 rfl fX12_7 L_177 rf_177_0 ?_
                refine S.iload_n (pc' := 48) dX12_trick_47 rfl rfl rfl ?_
                refine S.iald (pc' := 49) dX12_trick_48 rfl L_178 (by omega) (by omega) ?_
                refine S.iload_n (pc' := 50) dX12_trick_49 rfl rfl rfl ?_
                refine S.icmp_eq (pc' := 53) (tgt := 56) dX12_trick_50 (by decide) rfl (by unfold fp_rng; omega) (by unfold fp_rng; omega) (fun h50 => ?_) (fun h50 => ?_)
                · exfalso; omega
                · refine S.bipush (pc' := 55) dX12_trick_53 rfl (by decide) ?_
                  refine S.iret dX12_trick_55 rfl ?_
                  exact ⟨rfl, hcs, frD.refl _⟩
              · exfalso; omega
  · rw [if_pos hin]
    refine S.iload_n (pc' := 1) dX12_trick_0 rfl rfl rfl ?_
    refine S.callSi (pc' := 4) dX12_trick_1 rfl cX12_228 (bk_X12_isOne) rfl (by decide) rfl (Nat.le_of_ble_eq_true rfl) (fun z1 M1 q1 => ?_)
    obtain ⟨b1, rfl⟩ := q1
    refine S.if_eq (pc' := 7) (tgt := 41) dX12_trick_4 (by decide) rfl (by unfold fp_rng; omega) (fun h4 => ?_) (fun h4 => ?_)
    · refine S.iconst (pc' := 42) dX12_trick_41 rfl ?_
      refine S.iret dX12_trick_42 rfl ?_
      exact ⟨rfl, hcs, frD.refl _⟩
    · refine S.aload_n (pc' := 8) dX12_trick_7 rfl rfl rfl ?_
      refine S.iload_n (pc' := 9) dX12_trick_8 rfl rfl rfl ?_
      refine S.callVi (pc' := 12) dX12_trick_9 rfl cX12_205 (bk_X12_isThing) rfl L_177 (by decide) rfl (Nat.le_of_ble_eq_true rfl) (fun z9 M9 q9 => ?_)
      obtain ⟨b9, rfl⟩ := q9
      refine S.if_eq (pc' := 15) (tgt := 41) dX12_trick_12 (by decide) rfl (by unfold fp_rng; omega) (fun h12 => ?_) (fun h12 => ?_)
      · refine S.iconst (pc' := 42) dX12_trick_41 rfl ?_
        refine S.iret dX12_trick_42 rfl ?_
        exact ⟨rfl, hcs, frD.refl _⟩
      · refine S.aload_n (pc' := 16) dX12_trick_15 rfl rfl rfl ?_
        refine S.iload_n (pc' := 17) dX12_trick_16 rfl rfl rfl ?_
        refine S.callVi (pc' := 20) dX12_trick_17 rfl cX12_205 (bk_X12_isThing) rfl L_177 (by decide) rfl (Nat.le_of_ble_eq_true rfl) (fun z17 M17 q17 => ?_)
        obtain ⟨b17, rfl⟩ := q17
        refine S.if_eq (pc' := 23) (tgt := 41) dX12_trick_20 (by decide) rfl (by unfold fp_rng; omega) (fun h20 => ?_) (fun h20 => ?_)
        · refine S.iconst (pc' := 42) dX12_trick_41 rfl ?_
          refine S.iret dX12_trick_42 rfl ?_
          exact ⟨rfl, hcs, frD.refl _⟩
        · refine S.iload_n (pc' := 24) dX12_trick_23 rfl rfl rfl ?_
          refine S.iload_n (pc' := 25) dX12_trick_24 rfl rfl rfl ?_
          refine S.icmp_eq (pc' := 28) (tgt := 41) dX12_trick_25 (by decide) rfl hr ht (fun h25 => ?_) (fun h25 => ?_)
          · refine S.iconst (pc' := 42) dX12_trick_41 rfl ?_
            refine S.iret dX12_trick_42 rfl ?_
            exact ⟨rfl, hcs, frD.refl _⟩
          · refine S.iload (pc' := 30) dX12_trick_28 rfl rfl ?_
            refine S.i2l (pc' := 31) dX12_trick_30 rfl (by unfold fp_rng; omega) ?_
            refine S.lconst (pc' := 32) (w := 0) dX12_trick_31 rfl rfl ?_
            refine S.ldc2 (pc' := 35) (v := 2) dX12_trick_32 rfl lX12_271 (by decide) ?_
            refine S.callSi (pc' := 38) dX12_trick_35 rfl cX12_94 (bk_X12_in) rfl (by decide) rfl (Nat.le_of_ble_eq_true rfl) (fun z35 M35 q35 => ?_)
            obtain ⟨b35, rfl⟩ := q35
            refine S.if_ne (pc' := 41) (tgt := 43) dX12_trick_38 (by decide) rfl (by unfold fp_rng; omega) (fun h38 => ?_) (fun h38 => ?_)
            · exfalso; omega
            · refine S.iconst (pc' := 42) dX12_trick_41 rfl ?_
              refine S.iret dX12_trick_42 rfl ?_
              exact ⟨rfl, hcs, frD.refl _⟩
end TRI
