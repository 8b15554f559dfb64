/-! most: the reference, levels, runs, the next lines -/
def mqRow (f : Nat → Int) (a : Int) (g : aGd) (pg : aPg) : Prop := (∀ t, 0 ≤ t → t < g.1 → f (a + t).toNat = pg.1 t) ∧ ∀ x, 0 ≤ x → x < 3 → f (a + 10 + 9 * x).toNat = (pg.2.2 x).length ∧ ∀ i : Int, 0 ≤ i → i < (pg.2.2 x).length → f (a + 10 + 9 * x + 1 + i).toNat = (pg.2.2 x).getD i.toNat 0
theorem mqRow.mp {f : Nat → Int} {a : Int} {g : aGd} {pg : aPg} (h : mqRow f a g pg) : mpRow f a g (pg.1, fun t => f (a + 37 + t).toNat, pg.2.2) := ⟨h.1, fun _ _ _ _ => rfl, h.2⟩
theorem mpRow.mq {f : Nat → Int} {a : Int} {g : aGd} {pg : aPg} (h : mpRow f a g pg) : mqRow f a g pg := ⟨h.1, h.2.2⟩
theorem mqRow.mov {f h : Nat → Int} {a b : Int} {g : aGd} {pg : aPg} (hg : gOk g) (hP : pgOk g pg) (q : mqRow f a g pg) (e : ∀ j : Int, 0 ≤ j → j < 40 → h (b + j).toNat = f (a + j).toNat) : mqRow h b g pg := by
  have hg1 := hg.1
  refine ⟨fun t t0 t1 => by rw [e t t0 (by omega)]; exact q.1 t t0 t1, fun x x0 x1 => ?_⟩
  obtain ⟨q1, q2⟩ := q.2 x x0 x1
  have hl := (hP.2.1 x x0 x1).1
  refine ⟨?_, fun i i0 i1 => ?_⟩
  · have := e (10 + 9 * x) (by omega) (by omega)
    rw [show b + (10 + 9 * x) = b + 10 + 9 * x by omega, show a + (10 + 9 * x) = a + 10 + 9 * x by omega] at this
    rw [this]; exact q1
  · have := e (10 + 9 * x + 1 + i) (by omega) (by omega)
    rw [show b + (10 + 9 * x + 1 + i) = b + 10 + 9 * x + 1 + i by omega, show a + (10 + 9 * x + 1 + i) = a + 10 + 9 * x + 1 + i by omega] at this
    rw [this]; exact q2 i i0 i1
theorem aHap_put {g : aGd} {pg : aPg} {v : aVt} (q : Int → Int) : ∃ q', (aHap g (pg.1, q, pg.2.2) v).2 = ((aHap g pg v).2.1, q', (aHap g pg v).2.2.2) := by
  unfold aHap
  by_cases h : v.2.2.2 = -4
  · rw [if_pos h, if_pos h]
    show ∃ q', aDraw g (pg.1, q, pg.2.2) v.2.1 v.2.2.1 = ((aDraw g pg v.2.1 v.2.2.1).1, q', (aDraw g pg v.2.1 v.2.2.1).2.2)
    unfold aDraw
    by_cases h2 : pg.2.2 v.2.2.1 = []
    · rw [if_pos h2, if_pos h2]; exact ⟨q, rfl⟩
    · rw [if_neg h2, if_neg h2]; exact ⟨q, rfl⟩
  · rw [if_neg h, if_neg h]
    unfold aApp
    by_cases h2 : pg.1 v.2.2.2 = v.2.1 ∧ (pg.2.2 v.2.2.1).length < 8
    · rw [if_pos h2, if_pos h2]; exact ⟨_, rfl⟩
    · rw [if_neg h2, if_neg h2]; exact ⟨q, rfl⟩
theorem aSt_ok {g : aGd} {vs : List aVt} {p : Int} {cs : Int → Int} {pg : aPg} {k : Nat} (hg : gOk g) (hvo : vsOk g vs) (hcs : ∀ j, 0 ≤ cs j ∧ cs j < g.2.1) (hP : pgOk g pg) (hk : k < vs.length) : pgOk g (aSt g vs p cs pg k) := by
  have hv := hvo.at (i := (k : Int)) (by omega) (by omega)
  rw [Int.toNat_natCast] at hv
  unfold aSt
  refine aHap_ok hg hP ⟨hv.1, hv.2.1, ?_, hv.2.2.2⟩
  dsimp only
  split
  · exact hcs _
  · exact hv.2.2.1
theorem aPgs_ok {g : aGd} {vs : List aVt} {p : Int} {cs : Int → Int} {pg : aPg} (hg : gOk g) (hvo : vsOk g vs) (hcs : ∀ j, 0 ≤ cs j ∧ cs j < g.2.1) (hP : pgOk g pg) : ∀ k : Nat, k ≤ vs.length → pgOk g (aPgs g vs p pg cs k)
  | 0, _ => hP
  | k + 1, h => aSt_ok hg hvo hcs (aPgs_ok hg hvo hcs hP k (by omega)) (by omega)
/-- the trial's page, whoever put things in; a level -/
def trIs (M : fp_Mem) (g : aGd) (pg : aPg) : Prop := ∃ q, mpIs M 360 g (pg.1, q, pg.2.2)
def frV (M N : fp_Mem) : Prop := (∀ c, c ≠ 178 → c ≠ 189 → N c = M c) ∧ ∀ j : Nat, (j < 360 ∨ 410 ≤ j) → N 178 j = M 178 j
theorem frV.refl (M : fp_Mem) : frV M M := ⟨fun _ _ _ => rfl, fun _ _ => rfl⟩
theorem frV.trans {M N O : fp_Mem} (h1 : frV M N) (h2 : frV N O) : frV M O := ⟨fun c hc h9 => (h2.1 c hc h9).trans (h1.1 c hc h9), fun j hj => (h2.2 j hj).trans (h1.2 j hj)⟩
theorem frV.md {M N : fp_Mem} {g : aGd} (h : frV M N) (hd : mdIs M g) : mdIs N g := by
  unfold mdIs md_ok at *
  rw [h.1 177 (by decide) (by decide), h.1 179 (by decide) (by decide), h.1 180 (by decide) (by decide), h.1 181 (by decide) (by decide)]
  exact hd
theorem frV.mv {M N : fp_Mem} {vs : List aVt} (h : frV M N) (hd : mvIs M vs) : mvIs N vs := hd.kept (fun j h1 h2 => h.2 j (by omega))
section MMD
variable {l : Launch} {G : fp_WG} {M N : fp_Mem} {g : aGd} {pg : aPg} {vs : List aVt}
theorem runsFrom_loop {p f : Int} {cs : Int → Int} (hg : gOk g) (hP : pgOk g pg) (hvo : vsOk g vs) (hp : 0 ≤ p ∧ p < 4) (hcs : ∀ j, 0 ≤ cs j ∧ cs j < g.2.1) (hv : mvIs M vs) (hd : mdIs M g) (hch : ∀ j : Int, 0 ≤ j → j < vs.length → M 190 j.toNat = cs j) (f0 : 0 ≤ f) : ∀ (r : Nat) (i : Int) (N : fp_Mem), ((vs.length : Int) - i).toNat < r → f ≤ i → i ≤ vs.length → frV M N → trIs N g (aPgs g vs p pg cs i.toNat) → (∀ j : Int, 0 ≤ j → j < i → mqRow (N 189) (40 * j) g (aPgs g vs p pg cs j.toNat)) →
    fp_S l G 4 kX12_runsFrom 37 [some (rV G 177), some (iV p), some (iV f), some (iV i)] [] N (qV fun N => frV M N ∧ trIs N g (aPgs g vs p pg cs vs.length) ∧ ∀ j : Int, 0 ≤ j → j < vs.length → mqRow (N 189) (40 * j) g (aPgs g vs p pg cs j.toNat)) := by
  have hl := hv.2.1
  intro r
  induction r with
  | zero => intro i N hr; omega
  | succ r ih =>
    intro i N hr i0 i1 hf hT hlv
    have hvN := hf.mv hv
    have hdN := hf.md hd
    have h95 : N 178 95 = (vs.length : Int) := hvN.1
    by_cases he : i < vs.length
    · have hPi := aPgs_ok (p := p) hg hvo hcs hP i.toNat (by omega)
      obtain ⟨q, hq⟩ := hT
      have hPq : pgOk g ((aPgs g vs p pg cs i.toNat).1, q, (aPgs g vs p pg cs i.toNat).2.2) := hPi
      have ei : ((i.toNat : Nat) : Int) = i := by omega
      have es : aPgs g vs p pg cs (i + 1).toNat = aSt g vs p cs (aPgs g vs p pg cs i.toNat) i.toNat := by rw [show (i + 1).toNat = i.toNat + 1 by omega]; rfl
      have hnext : ∀ (N1 N2 : fp_Mem) (x : Int), svP N N1 i → x = (if aOwn vs p i = true then cs i else (vs.getD i.toNat aV0).2.2.1) → mpIs N2 360 g (aHap g ((aPgs g vs p pg cs i.toNat).1, q, (aPgs g vs p pg cs i.toNat).2.2) ((vs.getD i.toNat aV0).1, (vs.getD i.toNat aV0).2.1, x, (vs.getD i.toNat aV0).2.2.2)).2 → frM N1 N2 360 → fp_S l G 4 kX12_runsFrom 37 [some (rV G 177), some (iV p), some (iV f), some (iV (i + 1))] [] N2 (qV fun N => frV M N ∧ trIs N g (aPgs g vs p pg cs vs.length) ∧ ∀ j : Int, 0 ≤ j → j < vs.length → mqRow (N 189) (40 * j) g (aPgs g vs p pg cs j.toNat)) := by
        intro N1 N2 x s1 hx m2 f2
        have g9 : N2 189 = N1 189 := f2.1 189 (by decide)
        refine ih (i + 1) N2 (by omega) (by omega) (by omega) (hf.trans ⟨fun c h8 h9 => by rw [f2.1 c h8, s1.1 c h9], fun j hj => by rw [f2.2 j (by omega), s1.1 178 (by decide)]⟩) ?_ (fun j j0 j1 => ?_)
        · obtain ⟨q', hq'⟩ := aHap_put (g := g) (pg := aPgs g vs p pg cs i.toNat) (v := ((vs.getD i.toNat aV0).1, (vs.getD i.toNat aV0).2.1, x, (vs.getD i.toNat aV0).2.2.2)) q
          rw [hq'] at m2
          refine ⟨q', ?_⟩
          rw [es]
          unfold aSt
          rw [ei, ← hx]
          exact m2
        · rw [g9]
          by_cases e : j = i
          · subst e
            exact (mpRow.mq hq).mov (pg := aPgs g vs p pg cs j.toNat) hg hPi (fun k k0 k1 => by rw [s1.2, if_pos (by omega)]; congr 1; omega)
          · refine (hlv j j0 (by omega)).mov hg (aPgs_ok (p := p) hg hvo hcs hP j.toNat (by omega)) (fun k k0 k1 => ?_)
            rw [s1.2, if_neg (by omega)]
      by_cases ho : aOwn vs p i = true
      · rw [if_pos ho] at hnext
        refine S.iload_n (pc' := 38) dX12_runsFrom_37 rfl rfl rfl ?_
        refine S.aload_n (pc' := 39) dX12_runsFrom_38 rfl rfl rfl ?_
        refine S.callVe (pc' := 42) dX12_runsFrom_39 rfl cX12_225 ok_X12_visits rfl L_177 (by decide) rfl (Nat.le_of_ble_eq_true rfl) ?_
        rw [h95]
        refine S.icmp_ge (pc' := 45) (tgt := 96) dX12_runsFrom_42 (by decide) rfl (by unfold fp_rng; omega) (by unfold fp_rng; omega) (fun h42 => ?_) (fun h42 => ?_)
        · exfalso; omega
        · refine S.aload_n (pc' := 46) dX12_runsFrom_45 rfl rfl rfl ?_
          refine S.iload_n (pc' := 47) dX12_runsFrom_46 rfl rfl rfl ?_
          refine S.callVv (pc' := 50) dX12_runsFrom_47 rfl cX12_277 (rk_X12_saves (by omega)) rfl L_177 (by decide) rfl (Nat.le_of_ble_eq_true rfl) (fun M47 q47 => ?_)
          have v1 : mvIs M47 vs := hvN.kept (fun j _ _ => by rw [q47.1 178 (by decide)])
          have d1 : mdIs M47 g := by
            unfold mdIs md_ok at hdN ⊢
            rw [q47.1 177 (by decide), q47.1 179 (by decide), q47.1 180 (by decide), q47.1 181 (by decide)]
            exact hdN
          have m1 : mpIs M47 360 g ((aPgs g vs p pg cs i.toNat).1, q, (aPgs g vs p pg cs i.toNat).2.2) := by
            unfold mpIs; rw [q47.1 178 (by decide)]; exact hq
          have cO := rk_X12_isOwn (l := l) (G := G) (p := p) v1 hvo hg (by unfold fp_rng; omega) ⟨by omega, he⟩
          rw [if_pos ho] at cO
          refine S.aload_n (pc' := 51) dX12_runsFrom_50 rfl rfl rfl ?_
          refine S.sipush (pc' := 54) dX12_runsFrom_51 rfl (by decide) ?_
          refine S.iload_n (pc' := 55) dX12_runsFrom_54 rfl rfl rfl ?_
          refine S.aload_n (pc' := 56) dX12_runsFrom_55 rfl rfl rfl ?_
          refine S.iload_n (pc' := 57) dX12_runsFrom_56 rfl rfl rfl ?_
          refine S.iload_n (pc' := 58) dX12_runsFrom_57 rfl rfl rfl ?_
          refine S.callVe (pc' := 61) dX12_runsFrom_58 rfl cX12_280 cO rfl L_177 (by decide) rfl (Nat.le_of_ble_eq_true rfl) ?_
          refine S.if_eq (pc' := 64) (tgt := 73) dX12_runsFrom_61 (by decide) rfl (by unfold fp_rng; omega) (fun h61 => ?_) (fun h61 => ?_)
          · exact absurd h61 (by decide)
          · refine S.aload_n (pc' := 65) dX12_runsFrom_64 rfl rfl rfl ?_
            refine S.getR (pc' := 68) dX12_runsFrom_65 rfl fX12_50 L_177 rf_177_30 ?_
            refine S.iload_n (pc' := 69) dX12_runsFrom_68 rfl rfl rfl ?_
            refine S.iald (pc' := 70) dX12_runsFrom_69 rfl L_190 (by omega) (by omega) ?_
            rw [show M47 190 i.toNat = cs i by rw [q47.1 190 (by decide), hf.1 190 (by decide) (by decide)]; exact hch i (by omega) he]
            refine S.goto (pc' := 86) dX12_runsFrom_70 (by decide) ?_
            refine S.callVi (pc' := 89) dX12_runsFrom_86 rfl cX12_257 (rk_X12_visits2 (by omega) v1 d1 m1 hPq hg hvo (by omega) (hcs i)) rfl L_177 (by decide) rfl (Nat.le_of_ble_eq_true rfl) (fun z86 M86 q86 => ?_)
            refine S.pop (pc' := 90) dX12_runsFrom_89 rfl rfl ?_
            refine S.iinc (pc' := 93) (LL' := [_, _, _, _]) dX12_runsFrom_90 rfl (by decide) rfl rfl rfl ?_
            refine S.goto (pc' := 37) dX12_runsFrom_93 (by decide) ?_
            exact hnext M47 _ _ q47 rfl q86.2.1 q86.2.2
      · rw [if_neg ho] at hnext
        have hvi := hvo.at (show 0 ≤ i by omega) he
        refine S.iload_n (pc' := 38) dX12_runsFrom_37 rfl rfl rfl ?_
        refine S.aload_n (pc' := 39) dX12_runsFrom_38 rfl rfl rfl ?_
        refine S.callVe (pc' := 42) dX12_runsFrom_39 rfl cX12_225 ok_X12_visits rfl L_177 (by decide) rfl (Nat.le_of_ble_eq_true rfl) ?_
        rw [h95]
        refine S.icmp_ge (pc' := 45) (tgt := 96) dX12_runsFrom_42 (by decide) rfl (by unfold fp_rng; omega) (by unfold fp_rng; omega) (fun h42 => ?_) (fun h42 => ?_)
        · exfalso; omega
        · refine S.aload_n (pc' := 46) dX12_runsFrom_45 rfl rfl rfl ?_
          refine S.iload_n (pc' := 47) dX12_runsFrom_46 rfl rfl rfl ?_
          refine S.callVv (pc' := 50) dX12_runsFrom_47 rfl cX12_277 (rk_X12_saves (by omega)) rfl L_177 (by decide) rfl (Nat.le_of_ble_eq_true rfl) (fun M47 q47 => ?_)
          have v1 : mvIs M47 vs := hvN.kept (fun j _ _ => by rw [q47.1 178 (by decide)])
          have d1 : mdIs M47 g := by
            unfold mdIs md_ok at hdN ⊢
            rw [q47.1 177 (by decide), q47.1 179 (by decide), q47.1 180 (by decide), q47.1 181 (by decide)]
            exact hdN
          have m1 : mpIs M47 360 g ((aPgs g vs p pg cs i.toNat).1, q, (aPgs g vs p pg cs i.toNat).2.2) := by
            unfold mpIs; rw [q47.1 178 (by decide)]; exact hq
          have cO := rk_X12_isOwn (l := l) (G := G) (p := p) v1 hvo hg (by unfold fp_rng; omega) ⟨by omega, he⟩
          rw [if_neg ho] at cO
          refine S.aload_n (pc' := 51) dX12_runsFrom_50 rfl rfl rfl ?_
          refine S.sipush (pc' := 54) dX12_runsFrom_51 rfl (by decide) ?_
          refine S.iload_n (pc' := 55) dX12_runsFrom_54 rfl rfl rfl ?_
          refine S.aload_n (pc' := 56) dX12_runsFrom_55 rfl rfl rfl ?_
          refine S.iload_n (pc' := 57) dX12_runsFrom_56 rfl rfl rfl ?_
          refine S.iload_n (pc' := 58) dX12_runsFrom_57 rfl rfl rfl ?_
          refine S.callVe (pc' := 61) dX12_runsFrom_58 rfl cX12_280 cO rfl L_177 (by decide) rfl (Nat.le_of_ble_eq_true rfl) ?_
          refine S.if_eq (pc' := 64) (tgt := 73) dX12_runsFrom_61 (by decide) rfl (by unfold fp_rng; omega) (fun h61 => ?_) (fun h61 => ?_)
          · refine S.aload_n (pc' := 74) dX12_runsFrom_73 rfl rfl rfl ?_
            refine S.getR (pc' := 77) dX12_runsFrom_74 rfl fX12_7 L_177 rf_177_0 ?_
            refine S.bipush (pc' := 79) dX12_runsFrom_77 rfl (by decide) ?_
            refine S.iconst (pc' := 80) dX12_runsFrom_79 rfl ?_
            refine S.iload_n (pc' := 81) dX12_runsFrom_80 rfl rfl rfl ?_
            refine S.imul (pc' := 82) dX12_runsFrom_81 rfl ?_
            refine S.iadd (pc' := 83) dX12_runsFrom_82 rfl ?_
            refine S.iconst (pc' := 84) dX12_runsFrom_83 rfl ?_
            refine S.iadd (pc' := 85) dX12_runsFrom_84 rfl ?_
            refine S.iald (pc' := 86) dX12_runsFrom_85 rfl L_178 (by omega) (by omega) ?_
            rw [(v1.2.2 i (by omega) he).2.2.1]
            refine S.callVi (pc' := 89) dX12_runsFrom_86 rfl cX12_257 (rk_X12_visits2 (by omega) v1 d1 m1 hPq hg hvo (by omega) hvi.2.2.1) rfl L_177 (by decide) rfl (Nat.le_of_ble_eq_true rfl) (fun z86 M86 q86 => ?_)
            refine S.pop (pc' := 90) dX12_runsFrom_89 rfl rfl ?_
            refine S.iinc (pc' := 93) (LL' := [_, _, _, _]) dX12_runsFrom_90 rfl (by decide) rfl rfl rfl ?_
            refine S.goto (pc' := 37) dX12_runsFrom_93 (by decide) ?_
            exact hnext M47 _ _ q47 rfl q86.2.1 q86.2.2
          · exact absurd rfl h61
    · have e : i = vs.length := by omega
      rw [e, Int.toNat_natCast] at hT
      refine S.iload_n (pc' := 38) dX12_runsFrom_37 rfl rfl rfl ?_
      refine S.aload_n (pc' := 39) dX12_runsFrom_38 rfl rfl rfl ?_
      refine S.callVe (pc' := 42) dX12_runsFrom_39 rfl cX12_225 ok_X12_visits rfl L_177 (by decide) rfl (Nat.le_of_ble_eq_true rfl) ?_
      rw [h95]
      refine S.icmp_ge (pc' := 45) (tgt := 96) dX12_runsFrom_42 (by decide) rfl (by unfold fp_rng; omega) (by unfold fp_rng; omega) (fun h42 => ?_) (fun h42 => ?_)
      · refine S.vret dX12_runsFrom_96 rfl ?_
        exact ⟨hf, hT, fun j j0 j1 => hlv j j0 (by omega)⟩
      · exfalso; omega
theorem rk_X12_runsFrom {p f : Int} {cs : Int → Int} (hg : gOk g) (hP : pgOk g pg) (hvo : vsOk g vs) (hp : 0 ≤ p ∧ p < 4) (hcs : ∀ j, 0 ≤ cs j ∧ cs j < g.2.1) (hv : mvIs M vs) (hd : mdIs M g) (hch : ∀ j : Int, 0 ≤ j → j < vs.length → M 190 j.toNat = cs j) (hf : 0 ≤ f ∧ f ≤ vs.length) (hlv : ∀ j : Int, 0 ≤ j → j ≤ f → mqRow (M 189) (40 * j) g (aPgs g vs p pg cs j.toNat)) : fp_Ok l G 4 kX12_runsFrom [rV G 177, iV p, iV f] M (qV fun N => frV M N ∧ trIs N g (aPgs g vs p pg cs vs.length) ∧ ∀ j : Int, 0 ≤ j → j < vs.length → mqRow (N 189) (40 * j) g (aPgs g vs p pg cs j.toNat)) := by
  have hl := hv.2.1
  refine fp_Ok.of (r := 1) rfl (Nat.le_of_ble_eq_true rfl) rfl ?_
  have hL : ∀ (r : Nat) (k : Int) (N : fp_Mem), (40 - k).toNat < r → 0 ≤ k → k ≤ 40 → (∀ c, c ≠ 178 → N c = M c) → (∀ j : Nat, N 178 j = if 360 ≤ (j : Int) ∧ (j : Int) < 360 + k then M 189 (40 * f + ((j : Int) - 360)).toNat else M 178 j) → fp_S l G 4 kX12_runsFrom 2 [some (rV G 177), some (iV p), some (iV f), some (iV k)] [] N (qV fun N => frV M N ∧ trIs N g (aPgs g vs p pg cs vs.length) ∧ ∀ j : Int, 0 ≤ j → j < vs.length → mqRow (N 189) (40 * j) g (aPgs g vs p pg cs j.toNat)) := by
    intro r
    induction r with
    | zero => intro k N hr; omega
    | succ r ih =>
      intro k N hr k0 k1 h8 hR
      by_cases hk : k < 40
      · refine S.iload_n (pc' := 3) dX12_runsFrom_2 rfl rfl rfl ?_
        refine S.bipush (pc' := 5) dX12_runsFrom_3 rfl (by decide) ?_
        refine S.icmp_ge (pc' := 8) (tgt := 35) dX12_runsFrom_5 (by decide) rfl (by unfold fp_rng; omega) (by unfold fp_rng; omega) (fun h5 => ?_) (fun h5 => ?_)
        · exfalso; omega
        · refine S.aload_n (pc' := 9) dX12_runsFrom_8 rfl rfl rfl ?_
          refine S.getR (pc' := 12) dX12_runsFrom_9 rfl fX12_7 L_177 rf_177_0 ?_
          refine S.sipush (pc' := 15) dX12_runsFrom_12 rfl (by decide) ?_
          refine S.iload_n (pc' := 16) dX12_runsFrom_15 rfl rfl rfl ?_
          refine S.iadd (pc' := 17) dX12_runsFrom_16 rfl ?_
          refine S.aload_n (pc' := 18) dX12_runsFrom_17 rfl rfl rfl ?_
          refine S.getR (pc' := 21) dX12_runsFrom_18 rfl fX12_47 L_177 rf_177_29 ?_
          refine S.bipush (pc' := 23) dX12_runsFrom_21 rfl (by decide) ?_
          refine S.iload_n (pc' := 24) dX12_runsFrom_23 rfl rfl rfl ?_
          refine S.imul (pc' := 25) dX12_runsFrom_24 rfl ?_
          refine S.iload_n (pc' := 26) dX12_runsFrom_25 rfl rfl rfl ?_
          refine S.iadd (pc' := 27) dX12_runsFrom_26 rfl ?_
          refine S.iald (pc' := 28) dX12_runsFrom_27 rfl L_189 (by omega) (by omega) ?_
          refine S.iast (pc' := 29) dX12_runsFrom_28 rfl L_178 (by omega) (by omega) ?_
          refine S.iinc (pc' := 32) (LL' := [_, _, _, _]) dX12_runsFrom_29 rfl (by decide) rfl rfl rfl ?_
          refine S.goto (pc' := 2) dX12_runsFrom_32 (by decide) ?_
          refine ih (k + 1) _ (by omega) (by omega) (by omega) (fun c hc => by rw [fp_up_ne hc]; exact h8 c hc) (fun j => ?_)
          rw [fp_up_at, h8 189 (by decide)]
          by_cases e : j = (360 + k).toNat
          · rw [if_pos (by omega), e, fp_upf_at]; congr 1; omega
          · rw [fp_upf_ne e, hR j]
            by_cases e2 : 360 ≤ (j : Int) ∧ (j : Int) < 360 + k
            · rw [if_pos e2, if_pos (by omega)]
            · rw [if_neg e2, if_neg (by omega)]
      · have e : k = 40 := by omega
        subst e
        refine S.iload_n (pc' := 3) dX12_runsFrom_2 rfl rfl rfl ?_
        refine S.bipush (pc' := 5) dX12_runsFrom_3 rfl (by decide) ?_
        refine S.icmp_ge (pc' := 8) (tgt := 35) dX12_runsFrom_5 (by decide) rfl (by unfold fp_rng; omega) (by unfold fp_rng; omega) (fun h5 => ?_) (fun h5 => ?_)
        · refine S.iload_n (pc' := 36) dX12_runsFrom_35 rfl rfl rfl ?_
          refine S.istore_n (pc' := 37) (LL' := [_, _, _, _]) dX12_runsFrom_36 rfl (by decide) rfl rfl rfl ?_
          refine runsFrom_loop hg hP hvo hp hcs hv hd hch hf.1 (vs.length + 1) f N (by omega) (by omega) hf.2 ⟨fun c h1 _ => h8 c h1, fun j hj => by rw [hR j, if_neg (by omega)]⟩ ⟨_, ((hlv f hf.1 (by omega)).mov (h := N 178) (b := 360) hg (aPgs_ok (p := p) hg hvo hcs hP f.toNat (by omega)) (fun j j0 j1 => ?_)).mp⟩ (fun j j0 j1 => by rw [h8 189 (by decide)]; exact hlv j j0 (by omega))
          rw [hR, if_pos (by omega)]; congr 1; omega
        · exfalso; omega
  refine S.iconst (pc' := 1) dX12_runsFrom_0 rfl ?_
  refine S.istore_n (pc' := 2) (LL' := [_, _, _, _]) dX12_runsFrom_1 rfl (by decide) rfl rfl rfl ?_
  exact hL 41 0 M (by omega) (by omega) (by omega) (fun _ _ => rfl) (fun j => by rw [if_neg (by omega)])
theorem next_loop {p : Int} (hg : gOk g) (hvo : vsOk g vs) (hp : fp_rng p) (hv : mvIs M vs) (h5 : M 177 5 = g.2.1) : ∀ (n : Nat) (i : Int) (cs : Int → Int) (N : fp_Mem), i + 1 = (n : Int) → n ≤ vs.length → (∀ j, 0 ≤ cs j ∧ cs j < g.2.1) → (∀ j : Int, 0 ≤ j → j < vs.length → N 190 j.toNat = cs j) → (∀ c, c ≠ 190 → N c = M c) →
    fp_S l G 1 kX12_nextLines 7 [some (rV G 177), some (iV p), some (iV i)] [] N (qI fun z O => z = (nxD vs p g.2.1 n cs).1 ∧ (∀ j : Int, 0 ≤ j → j < vs.length → O 190 j.toNat = (nxD vs p g.2.1 n cs).2 j) ∧ ∀ c, c ≠ 190 → O c = M c) := by
  have hl := hv.2.1
  have hg2 := hg.2.1
  intro n
  induction n with
  | zero =>
    intro i cs N hi hn hcs hch hf
    refine S.iload_n (pc' := 8) dX12_nextLines_7 rfl rfl rfl ?_
    refine S.if_lt (pc' := 11) (tgt := 58) dX12_nextLines_8 (by decide) rfl (by unfold fp_rng; omega) (fun h8 => ?_) (fun h8 => ?_)
    · refine S.bipush (pc' := 60) dX12_nextLines_58 rfl (by decide) ?_
      refine S.iret dX12_nextLines_60 rfl ?_
      exact ⟨rfl, hch, hf⟩
    · exfalso; omega
  | succ n ih =>
    intro i cs N hi hn hcs hch hf
    have e : i = (n : Int) := by omega
    subst e
    have vN : mvIs N vs := hv.kept (fun j _ _ => by rw [hf 178 (by decide)])
    have cO := rk_X12_isOwn (l := l) (G := G) (p := p) vN hvo hg hp ⟨by omega, show (n : Int) < (vs.length : Int) by omega⟩
    have hcn := hch (n : Int) (by omega) (by omega)
    have hcr := hcs (n : Int)
    by_cases ho : aOwn vs p (n : Int) = true
    · rw [if_pos ho] at cO
      have e5 : ∀ z, fp_up N 190 ((n : Int)).toNat z 177 5 = g.2.1 := fun z => by rw [fp_up_ne (by decide), hf 177 (by decide)]; exact h5
      have ec : ∀ z, fp_up N 190 ((n : Int)).toNat z 190 ((n : Int)).toNat = z := fun z => by rw [fp_up_at, fp_upf_at]
      by_cases h2 : cs (n : Int) + 1 < g.2.1
      · have ex : nxD vs p g.2.1 (n + 1) cs = ((n : Int), fp_ui cs (n : Int) (cs (n : Int) + 1)) := by rw [nxD, if_pos ho, if_pos h2]
        rw [ex]
        refine S.iload_n (pc' := 8) dX12_nextLines_7 rfl rfl rfl ?_
        refine S.if_lt (pc' := 11) (tgt := 58) dX12_nextLines_8 (by decide) rfl (by unfold fp_rng; omega) (fun h8 => ?_) (fun h8 => ?_)
        · exfalso; omega
        · refine S.aload_n (pc' := 12) dX12_nextLines_11 rfl rfl rfl ?_
          refine S.iload_n (pc' := 13) dX12_nextLines_12 rfl rfl rfl ?_
          refine S.iload_n (pc' := 14) dX12_nextLines_13 rfl rfl rfl ?_
          refine S.callVe (pc' := 17) dX12_nextLines_14 rfl cX12_280 cO rfl L_177 (by decide) rfl (Nat.le_of_ble_eq_true rfl) ?_
          refine S.if_eq (pc' := 20) (tgt := 52) dX12_nextLines_17 (by decide) rfl (by unfold fp_rng; omega) (fun h17 => ?_) (fun h17 => ?_)
          · exact absurd h17 (by decide)
          · refine S.aload_n (pc' := 21) dX12_nextLines_20 rfl rfl rfl ?_
            refine S.getR (pc' := 24) dX12_nextLines_21 rfl fX12_50 L_177 rf_177_30 ?_
            refine S.iload_n (pc' := 25) dX12_nextLines_24 rfl rfl rfl ?_
            refine S.dup2 (pc' := 26) dX12_nextLines_25 rfl rfl rfl ?_
            refine S.iald (pc' := 27) dX12_nextLines_26 rfl L_190 (by omega) (by omega) ?_
            rw [hcn]
            refine S.iconst (pc' := 28) dX12_nextLines_27 rfl ?_
            refine S.iadd (pc' := 29) dX12_nextLines_28 rfl ?_
            refine S.iast (pc' := 30) dX12_nextLines_29 rfl L_190 (by omega) (by omega) ?_
            refine S.aload_n (pc' := 31) dX12_nextLines_30 rfl rfl rfl ?_
            refine S.getR (pc' := 34) dX12_nextLines_31 rfl fX12_50 L_177 rf_177_30 ?_
            refine S.iload_n (pc' := 35) dX12_nextLines_34 rfl rfl rfl ?_
            refine S.iald (pc' := 36) dX12_nextLines_35 rfl L_190 (by omega) (by omega) ?_
            rw [ec]
            refine S.aload_n (pc' := 37) dX12_nextLines_36 rfl rfl rfl ?_
            refine S.getI (pc' := 40) dX12_nextLines_37 rfl fX12_184 L_177 ?_
            rw [e5]
            refine S.icmp_ge (pc' := 43) (tgt := 45) dX12_nextLines_40 (by decide) rfl (by unfold fp_rng; omega) (by unfold fp_rng; omega) (fun h40 => ?_) (fun h40 => ?_)
            · exfalso; omega
            · refine S.iload_n (pc' := 44) dX12_nextLines_43 rfl rfl rfl ?_
              refine S.iret dX12_nextLines_44 rfl ?_
              refine ⟨rfl, fun j j0 j1 => ?_, fun c hc => by rw [fp_up_ne hc]; exact hf c hc⟩
              rw [fp_up_at]
              show _ = fp_ui cs (n : Int) _ j
              by_cases e : j = (n : Int)
              · subst e; rw [fp_upf_at, fp_ui_at]
              · rw [fp_upf_ne (by omega), fp_ui_ne e]; exact hch j j0 j1
      · have ex : nxD vs p g.2.1 (n + 1) cs = nxD vs p g.2.1 n (fp_ui cs (n : Int) 0) := by rw [nxD, if_pos ho, if_neg h2]
        rw [ex]
        have h52 : fp_S l G 1 kX12_nextLines 52 [some (rV G 177), some (iV p), some (iV (n : Int))] [] (fp_up (fp_up N 190 ((n : Int)).toNat (cs (n : Int) + 1)) 190 ((n : Int)).toNat 0) (qI fun z O => z = (nxD vs p g.2.1 n (fp_ui cs (n : Int) 0)).1 ∧ (∀ j : Int, 0 ≤ j → j < vs.length → O 190 j.toNat = (nxD vs p g.2.1 n (fp_ui cs (n : Int) 0)).2 j) ∧ ∀ c, c ≠ 190 → O c = M c) := by
          refine S.iinc (pc' := 55) (LL' := [_, _, _]) dX12_nextLines_52 rfl (by decide) rfl rfl rfl ?_
          refine S.goto (pc' := 7) dX12_nextLines_55 (by decide) ?_
          refine ih _ (fp_ui cs (n : Int) 0) _ (by omega) (by omega) (fun j => ?_) (fun j j0 j1 => ?_) (fun c hc => by rw [fp_up_ne hc, fp_up_ne hc]; exact hf c hc)
          · by_cases e : j = (n : Int)
            · subst e; rw [fp_ui_at]; omega
            · rw [fp_ui_ne e]; exact hcs j
          · rw [fp_up_at]
            by_cases e : j = (n : Int)
            · subst e; rw [fp_upf_at, fp_ui_at]
            · rw [fp_upf_ne (by omega), fp_up_at, fp_upf_ne (by omega), fp_ui_ne e]; exact hch j j0 j1
        refine S.iload_n (pc' := 8) dX12_nextLines_7 rfl rfl rfl ?_
        refine S.if_lt (pc' := 11) (tgt := 58) dX12_nextLines_8 (by decide) rfl (by unfold fp_rng; omega) (fun h8 => ?_) (fun h8 => ?_)
        · exfalso; omega
        · refine S.aload_n (pc' := 12) dX12_nextLines_11 rfl rfl rfl ?_
          refine S.iload_n (pc' := 13) dX12_nextLines_12 rfl rfl rfl ?_
          refine S.iload_n (pc' := 14) dX12_nextLines_13 rfl rfl rfl ?_
          refine S.callVe (pc' := 17) dX12_nextLines_14 rfl cX12_280 cO rfl L_177 (by decide) rfl (Nat.le_of_ble_eq_true rfl) ?_
          refine S.if_eq (pc' := 20) (tgt := 52) dX12_nextLines_17 (by decide) rfl (by unfold fp_rng; omega) (fun h17 => ?_) (fun h17 => ?_)
          · first
            | exact absurd h17 (by decide)
            | exact h52
          · refine S.aload_n (pc' := 21) dX12_nextLines_20 rfl rfl rfl ?_
            refine S.getR (pc' := 24) dX12_nextLines_21 rfl fX12_50 L_177 rf_177_30 ?_
            refine S.iload_n (pc' := 25) dX12_nextLines_24 rfl rfl rfl ?_
            refine S.dup2 (pc' := 26) dX12_nextLines_25 rfl rfl rfl ?_
            refine S.iald (pc' := 27) dX12_nextLines_26 rfl L_190 (by omega) (by omega) ?_
            rw [hcn]
            refine S.iconst (pc' := 28) dX12_nextLines_27 rfl ?_
            refine S.iadd (pc' := 29) dX12_nextLines_28 rfl ?_
            refine S.iast (pc' := 30) dX12_nextLines_29 rfl L_190 (by omega) (by omega) ?_
            refine S.aload_n (pc' := 31) dX12_nextLines_30 rfl rfl rfl ?_
            refine S.getR (pc' := 34) dX12_nextLines_31 rfl fX12_50 L_177 rf_177_30 ?_
            refine S.iload_n (pc' := 35) dX12_nextLines_34 rfl rfl rfl ?_
            refine S.iald (pc' := 36) dX12_nextLines_35 rfl L_190 (by omega) (by omega) ?_
            rw [ec]
            refine S.aload_n (pc' := 37) dX12_nextLines_36 rfl rfl rfl ?_
            refine S.getI (pc' := 40) dX12_nextLines_37 rfl fX12_184 L_177 ?_
            rw [e5]
            refine S.icmp_ge (pc' := 43) (tgt := 45) dX12_nextLines_40 (by decide) rfl (by unfold fp_rng; omega) (by unfold fp_rng; omega) (fun h40 => ?_) (fun h40 => ?_)
            · refine S.aload_n (pc' := 46) dX12_nextLines_45 rfl rfl rfl ?_
              refine S.getR (pc' := 49) dX12_nextLines_46 rfl fX12_50 L_177 rf_177_30 ?_
              refine S.iload_n (pc' := 50) dX12_nextLines_49 rfl rfl rfl ?_
              refine S.iconst (pc' := 51) dX12_nextLines_50 rfl ?_
              refine S.iast (pc' := 52) dX12_nextLines_51 rfl L_190 (by omega) (by omega) ?_
              first
              | exact absurd h17 (by decide)
              | exact h52
            · exfalso; omega
    · rw [if_neg ho] at cO
      have ex : nxD vs p g.2.1 (n + 1) cs = nxD vs p g.2.1 n cs := by rw [nxD, if_neg ho]
      rw [ex]
      refine S.iload_n (pc' := 8) dX12_nextLines_7 rfl rfl rfl ?_
      refine S.if_lt (pc' := 11) (tgt := 58) dX12_nextLines_8 (by decide) rfl (by unfold fp_rng; omega) (fun h8 => ?_) (fun h8 => ?_)
      · exfalso; omega
      · refine S.aload_n (pc' := 12) dX12_nextLines_11 rfl rfl rfl ?_
        refine S.iload_n (pc' := 13) dX12_nextLines_12 rfl rfl rfl ?_
        refine S.iload_n (pc' := 14) dX12_nextLines_13 rfl rfl rfl ?_
        refine S.callVe (pc' := 17) dX12_nextLines_14 rfl cX12_280 cO rfl L_177 (by decide) rfl (Nat.le_of_ble_eq_true rfl) ?_
        refine S.if_eq (pc' := 20) (tgt := 52) dX12_nextLines_17 (by decide) rfl (by unfold fp_rng; omega) (fun h17 => ?_) (fun h17 => ?_)
        · refine S.iinc (pc' := 55) (LL' := [_, _, _]) dX12_nextLines_52 rfl (by decide) rfl rfl rfl ?_
          refine S.goto (pc' := 7) dX12_nextLines_55 (by decide) ?_
          exact ih _ cs N (by omega) (by omega) hcs hch hf
        · exact absurd rfl h17
theorem rk_X12_nextLines {p : Int} {cs : Int → Int} (hg : gOk g) (hvo : vsOk g vs) (hp : fp_rng p) (hv : mvIs M vs) (hd : mdIs M g) (hcs : ∀ j, 0 ≤ cs j ∧ cs j < g.2.1) (hch : ∀ j : Int, 0 ≤ j → j < vs.length → M 190 j.toNat = cs j) : fp_Ok l G 1 kX12_nextLines [rV G 177, iV p] M (qI fun z O => z = (nxD vs p g.2.1 vs.length cs).1 ∧ (∀ j : Int, 0 ≤ j → j < vs.length → O 190 j.toNat = (nxD vs p g.2.1 vs.length cs).2 j) ∧ ∀ c, c ≠ 190 → O c = M c) := by
  have h95 : M 178 95 = (vs.length : Int) := hv.1
  refine fp_Ok.of (r := 1) rfl (Nat.le_of_ble_eq_true rfl) rfl ?_
  refine S.aload_n (pc' := 1) dX12_nextLines_0 rfl rfl rfl ?_
  refine S.callVe (pc' := 4) dX12_nextLines_1 rfl cX12_225 ok_X12_visits rfl L_177 (by decide) rfl (Nat.le_of_ble_eq_true rfl) ?_
  rw [h95]
  refine S.iconst (pc' := 5) dX12_nextLines_4 rfl ?_
  refine S.isub (pc' := 6) dX12_nextLines_5 rfl ?_
  refine S.istore_n (pc' := 7) (LL' := [_, _, _]) dX12_nextLines_6 rfl (by decide) rfl rfl rfl ?_
  exact next_loop hg hvo hp hv hd.2.1 vs.length _ cs M (by omega) (Nat.le_refl _) hcs hch (fun _ _ => rfl)
end MMD
