/-! duel: the reference, one row of moves, exactly (p29 alone) -/
/-- one line of the trial's page holds a list -/
def tIs (f : Nat → Int) (x : Int) (L : List Int) : Prop := f (360 + 10 + 9 * x).toNat = L.length ∧ ∀ i : Int, 0 ≤ i → i < L.length → f (360 + 10 + 9 * x + 1 + i).toNat = L.getD i.toNat 0
theorem tIs.lay {f : Nat → Int} {x t : Int} {L : List Int} (h : tIs f x L) (hx : 0 ≤ x ∧ x < 3) : tIs (md_lay f (360 + 10 + 9 * x) t (f (360 + 10 + 9 * x).toNat)) x (L ++ [t]) := by
  have h0 := h.1
  have el : ((L ++ [t]).length : Int) = L.length + 1 := by rw [List.length_append]; rfl
  refine ⟨?_, fun i i0 i1 => ?_⟩
  · rw [el]; unfold md_lay; rw [if_pos (by omega)]; omega
  · rw [el] at i1
    unfold md_lay
    rw [if_neg (by omega)]
    by_cases e : i = L.length
    · rw [if_pos (by omega), List.getD_eq_getElem?_getD, List.getElem?_append_right (by omega), show i.toNat - L.length = 0 by omega]
      rfl
    · rw [if_neg (by omega), if_neg (by omega), h.2 i i0 (by omega), List.getD_eq_getElem?_getD, List.getD_eq_getElem?_getD, List.getElem?_append_left (by omega)]
theorem tIs.take {f : Nat → Int} {x s : Int} {L : List Int} (h : tIs f x L) (hx : 0 ≤ x ∧ x < 3) (hs : 0 ≤ s ∧ s < L.length) : tIs (md_take f (360 + 10 + 9 * x) s) x (L.eraseIdx s.toNat) := by
  have h0 := h.1
  have el : ((L.eraseIdx s.toNat).length : Int) = L.length - 1 := by rw [List.length_eraseIdx_of_lt (by omega)]; omega
  refine ⟨?_, fun i i0 i1 => ?_⟩
  · rw [el]; unfold md_take; rw [if_pos (by omega)]; omega
  · rw [el] at i1
    unfold md_take
    rw [if_neg (by omega), fp_eraD]
    by_cases e : i.toNat < s.toNat
    · rw [if_neg (by omega), if_pos e]; exact h.2 i i0 (by omega)
    · rw [if_pos (by omega), if_neg e, show (360 + 10 + 9 * x + 1 + i).toNat + 1 = (360 + 10 + 9 * x + 1 + (i + 1)).toNat by omega, h.2 (i + 1) (by omega) (by omega), show (i + 1).toNat = i.toNat + 1 by omega]
theorem mW_is {M : fp_Mem} {g : aGd} {t : Int} (hg : gOk g) (hd : mdIs M g) (ht : (0 ≤ t ∧ t < g.1) ∨ t = 10) : M 179 t.toNat = dW g t := by
  have h10 := hg.1
  unfold dW
  split
  · rename_i e; rw [e]; exact hd.2.2.2.2.1
  · exact hd.2.2.2.1 t (by omega) (by omega)
theorem mV_is {M : fp_Mem} {g : aGd} {t p : Int} (hd : mdIs M g) (ht : (0 ≤ t ∧ t < g.1) ∨ t = 10) (hp : 0 ≤ p ∧ p < 4) : M 180 (4 * t + p).toNat = dV g t p := by
  unfold dV
  split
  · rename_i e; rw [e, show (4 : Int) * 10 + p = 40 + p by omega]; exact hd.2.2.2.2.2.2.1 p hp.1 hp.2
  · exact hd.2.2.2.2.2.1 t p (by omega) (by omega) hp.1 hp.2
theorem mSel_is {M : fp_Mem} {g : aGd} {x : Int} {L : List Int} (hg : gOk g) (hd : mdIs M g) (hx : 0 ≤ x ∧ x < g.2.1) (h : tIs (M 178) x L) (hel : ∀ t, t ∈ L → (0 ≤ t ∧ t < g.1) ∨ t = 10) (hne : L ≠ []) : md_sel M 360 x = dSel g (g.2.2.2.2.2 x) L := by
  have hlp : 0 < L.length := List.length_pos_iff.mpr hne
  unfold md_sel dSel
  rw [h.1, if_neg (by omega), hd.2.2.2.2.2.2.2.1 x hx.1 hx.2]
  refine fp_giv_congr (by omega) (fun i i0 i1 => ?_)
  unfold md_w
  rw [h.2 i i0 i1]
  exact mW_is hg hd (hel _ (fp_getD_mem (by omega)))
theorem dNext_put0 {g : aGd} {kind d : Int} {s : dSt} (h : d = 1) : dNext g kind d 0 s = (s.1 ++ [10], s.2.1 - 1, s.2.2) := by
  unfold dNext
  rw [if_pos h, if_pos rfl, if_pos rfl]
theorem dNext_put1 {g : aGd} {kind d : Int} {s : dSt} (h : d = 1) : dNext g kind d 1 s = (s.1 ++ [10], s.2.1, s.2.2 - 1) := by
  unfold dNext
  rw [if_pos h, if_neg (by decide), if_neg (by decide)]
theorem pow3_s (j : Nat) : (3 : Int) ^ (j + 1) = 3 ^ j * 3 := Int.pow_succ 3 j
section MDX
variable {l : Launch} {G : fp_WG} {M N : fp_Mem} {g : aGd} {pg : aPg} {vs : List aVt}
def dPl (g : aGd) (kind p q : Int) (s0 : dSt) (n : Nat) (v : Int) : Int := match dPfx g kind p q s0 n v with
  | none => -9999
  | some r => r.1
theorem dFld_n {g : aGd} {kind p q : Int} {s0 : dSt} {n : Nat} {v : Int} : dFld g kind p q s0 n n v = dPl g kind p q s0 n v := by
  unfold dFld dPl
  cases dPfx g kind p q s0 n v with
  | none => rfl
  | some r =>
    simp only
    rw [Nat.sub_self]
    show r.1 + 0 = r.1
    omega
/-- once no move, always none -/
theorem dPfx_dead {g : aGd} {kind p q : Int} {s0 : dSt} {v : Int} : ∀ (d k : Nat), dPfx g kind p q s0 k (v / 3 ^ d) = none → dPfx g kind p q s0 (k + d) v = none
  | 0, k, h => by simpa using h
  | d + 1, k, h => by
    have e : v / 3 ^ (d + 1) = v / 3 ^ d / 3 := by rw [pow3_s, ← Int.ediv_ediv_of_nonneg (Int.pow_nonneg (by decide))]
    have h1 : dPfx g kind p q s0 (k + 1) (v / 3 ^ d) = none := by rw [dPfx, ← e, h]
    have := dPfx_dead d (k + 1) h1
    rw [show k + (d + 1) = k + 1 + d by omega]
    exact this
theorem xplays_loop {x p q r n mv : Int} {s0 : dSt} (hg : gOk g) (hxg : 0 ≤ x ∧ x < g.2.1) (hp : 0 ≤ p ∧ p < 4) (hq : 0 ≤ q ∧ q < 4) (hn : 1 ≤ n ∧ n ≤ 6) (hmv : 0 ≤ mv ∧ mv ≤ 728) (hd : mdIs M g) (hs0 : dOkS g s0) : ∀ (d : Nat) (k : Nat) (of : Int) (r9 : Int × dSt) (N : fp_Mem) (o12 o13 o14 : Option Value), (k : Int) + d = n → (0 < d → of = 3 ^ (d - 1)) → 1 ≤ of ∧ of ≤ 729 → dPfx g (g.2.2.2.2.2 x) p q s0 k (mv / 3 ^ d) = some r9 → frT M N → tIs (N 178) x r9.2.1 →
    fp_S l G 2 kX12_plays 47 [some (rV G 177), some (iV x), some (iV p), some (iV q), some (iV r), some (iV n), some (iV mv), some (iV of), some (iV r9.1), some (iV r9.2.2.1), some (iV r9.2.2.2), some (iV (k : Int)), o12, o13, o14] [] N (qI fun z O => z = dPl g (g.2.2.2.2.2 x) p q s0 n.toNat mv ∧ frT M O) := by
  have hg2 := hg.2.1
  have hx : 0 ≤ x ∧ x < 3 := by omega
  intro d
  induction d with
  | zero =>
    intro k of r9 N o12 o13 o14 hkd hof0 hof he hf hT
    have ek : (k : Int) = n := by omega
    have hb := dPfx_ok (kind := g.2.2.2.2.2 x) hg hs0 hp hq k _ r9 he
    have er : r9.1 = dPl g (g.2.2.2.2.2 x) p q s0 n.toNat mv := by
      unfold dPl
      rw [show (3 : Int) ^ 0 = 1 from rfl, Int.ediv_one] at he
      rw [show n.toNat = k by omega, he]
    refine S.iload (pc' := 49) dX12_plays_47 rfl rfl ?_
    refine S.iload (pc' := 51) dX12_plays_49 rfl rfl ?_
    refine S.icmp_ge (pc' := 54) (tgt := 258) dX12_plays_51 (by decide) rfl (by unfold fp_rng; omega) (by unfold fp_rng; omega) (fun h51 => ?_) (fun h51 => ?_)
    · refine S.iload (pc' := 260) dX12_plays_258 rfl rfl ?_
      refine S.iret dX12_plays_260 rfl ?_
      exact ⟨er, hf⟩
    · exfalso; omega
  | succ d ih =>
    intro k of r9 N o12 o13 o14 hkd hof0 hof he hf hT
    have dN : mdIs N g := by
      unfold mdIs md_ok at hd ⊢
      rw [hf.1 177 (by decide), hf.1 179 (by decide), hf.1 180 (by decide), hf.1 181 (by decide)]; exact hd
    have dM : md_ok N := dN.2.2.2.2.2.2.2.2
    have hb := dPfx_ok (kind := g.2.2.2.2.2 x) hg hs0 hp hq k _ r9 he
    obtain ⟨hsum, hsk⟩ := hb
    obtain ⟨hL8, hel, hown, hoth⟩ := hsk
    have hT0 := hT.1
    have hT1 : 0 ≤ N 178 (360 + 10 + 9 * x).toNat ∧ N 178 (360 + 10 + 9 * x).toNat ≤ 8 := by omega
    have hT2 : ∀ i : Int, 0 ≤ i → i < N 178 (360 + 10 + 9 * x).toNat → 0 ≤ N 178 (360 + 10 + 9 * x + 1 + i).toNat ∧ N 178 (360 + 10 + 9 * x + 1 + i).toNat ≤ 10 := fun i i0 i1 => by
      rw [hT.2 i i0 (by omega)]
      have h10 := hg.1
      have := hel _ (fp_getD_mem (L := r9.2.1) (i := i.toNat) (by omega))
      omega
    have hofe : of = 3 ^ d := by have := hof0 (by omega); simpa using this
    have e3 : mv / 3 ^ (d + 1) = mv / 3 ^ d / 3 := by rw [pow3_s, ← Int.ediv_ediv_of_nonneg (Int.pow_nonneg (by decide))]
    have hdv : 0 ≤ mv / of ∧ mv / of ≤ mv := ⟨Int.ediv_nonneg hmv.1 (by omega), Int.ediv_le_self of hmv.1⟩
    have hpf : dPfx g (g.2.2.2.2.2 x) p q s0 (k + 1) (mv / 3 ^ d) = if dCan (mv / of % 3) ((k : Int) % 2) r9.2 then some (r9.1 + dGain g (g.2.2.2.2.2 x) p q (mv / of % 3) ((k : Int) % 2) r9.2, dNext g (g.2.2.2.2.2 x) (mv / of % 3) ((k : Int) % 2) r9.2) else none := by
      rw [dPfx, ← e3, he, hofe]
    have hmo : 0 ≤ mv / of % 3 ∧ mv / of % 3 ≤ 2 := by omega
    generalize hmoe : mv / of % 3 = mo at *
    have hdead : ¬ dCan mo ((k : Int) % 2) r9.2 → -9999 = dPl g (g.2.2.2.2.2 x) p q s0 n.toNat mv := fun hc => by
      rw [if_neg hc] at hpf
      have := dPfx_dead d (k + 1) hpf
      unfold dPl
      rw [show n.toNat = k + 1 + d by omega, this]
    have h252 : ∀ (of2 sum own other fi : Int) (O : fp_Mem) (o14 : Option Value) (s2 : dSt), dCan mo ((k : Int) % 2) r9.2 → s2 = dNext g (g.2.2.2.2.2 x) mo ((k : Int) % 2) r9.2 → sum = r9.1 + dGain g (g.2.2.2.2.2 x) p q mo ((k : Int) % 2) r9.2 → own = s2.2.1 → other = s2.2.2 → (0 < d → of2 = 3 ^ (d - 1)) → 1 ≤ of2 ∧ of2 ≤ 729 → frT M O → tIs (O 178) x s2.1 → fp_S l G 2 kX12_plays 252 [some (rV G 177), some (iV x), some (iV p), some (iV q), some (iV r), some (iV n), some (iV mv), some (iV of2), some (iV sum), some (iV own), some (iV other), some (iV (k : Int)), some (iV fi), some (iV mo), o14] [] O (qI fun z O => z = dPl g (g.2.2.2.2.2 x) p q s0 n.toNat mv ∧ frT M O) := by
      intro of2 sum own other fi O o14 s2 hc es esum eown eoth ho1 ho2 a5 a6
      rw [if_pos hc, ← es, ← esum] at hpf
      have ih9 := ih (k + 1) of2 (sum, s2) O (some (iV fi)) (some (iV mo)) o14 (by omega) ho1 ho2 hpf a5 a6
      rw [show ((k + 1 : Nat) : Int) = (k : Int) + 1 by omega] at ih9
      rw [eown, eoth]
      refine S.iinc (pc' := 255) (LL' := [_, _, _, _, _, _, _, _, _, _, _, _, _, _, _]) dX12_plays_252 rfl (by decide) rfl rfl rfl ?_
      refine S.goto (pc' := 47) dX12_plays_255 (by decide) ?_
      exact ih9
    have h93 : ∀ (of2 fi : Int) (o14 : Option Value), (0 < d → of2 = 3 ^ (d - 1)) → 1 ≤ of2 ∧ of2 ≤ 729 → ((fi = 0 ∧ (k : Int) % 2 = 1) ∨ (fi = 1 ∧ (k : Int) % 2 = 0)) → fp_S l G 2 kX12_plays 93 [some (rV G 177), some (iV x), some (iV p), some (iV q), some (iV r), some (iV n), some (iV mv), some (iV of2), some (iV r9.1), some (iV r9.2.2.1), some (iV r9.2.2.2), some (iV (k : Int)), some (iV fi), some (iV mo), o14] [] N (qI fun z O => z = dPl g (g.2.2.2.2.2 x) p q s0 n.toNat mv ∧ frT M O) := by
      intro of2 fi o14 a0 a1 hfi
      have hsel := md_sel_in (M := N) (at_ := 360) (x := x) hT1
      have frlay : N 178 (360 + 10 + 9 * x).toNat < 8 → frT M (fp_upM N 178 (md_lay (N 178) (360 + 10 + 9 * x) 10 (N 178 (360 + 10 + 9 * x).toNat))) := fun hl => ⟨fun c hc => by rw [fp_upM_ne hc]; exact hf.1 c hc, fun j hj => by rw [fp_upM_at]; unfold md_lay; rw [if_neg (by omega), if_neg (by omega), if_neg (by omega)]; exact hf.2 j hj⟩
      have frtake : ∀ s, 0 ≤ s → frT M (fp_upM N 178 (md_take (N 178) (360 + 10 + 9 * x) s)) := fun s hs => ⟨fun c hc => by rw [fp_upM_ne hc]; exact hf.1 c hc, fun j hj => by rw [fp_upM_at]; unfold md_take; rw [if_neg (by omega), if_neg (by omega)]; exact hf.2 j hj⟩
      have tlay : tIs (fp_upM N 178 (md_lay (N 178) (360 + 10 + 9 * x) 10 (N 178 (360 + 10 + 9 * x).toNat)) 178) x (r9.2.1 ++ [10]) := by rw [fp_upM_at]; exact hT.lay hx
      have hS : r9.2.1 ≠ [] → md_sel N 360 x = dSel g (g.2.2.2.2.2 x) r9.2.1 := fun hne => mSel_is hg dN hxg hT hel hne
      have ttake : r9.2.1 ≠ [] → tIs (fp_upM N 178 (md_take (N 178) (360 + 10 + 9 * x) (md_sel N 360 x)) 178) x (r9.2.1.eraseIdx (dSel g (g.2.2.2.2.2 x) r9.2.1).toNat) := fun hne => by
        rw [fp_upM_at, hS hne]
        have := dSel_in (g := g) (kind := g.2.2.2.2.2 x) hne
        exact hT.take hx this
      have hemp : N 178 (360 + 10 + 9 * x).toNat = 0 → r9.2.1 = [] := fun e => List.length_eq_zero_iff.mp (by omega)
      have hnem : 0 < N 178 (360 + 10 + 9 * x).toNat → r9.2.1 ≠ [] := fun e e2 => by rw [e2, List.length_nil] at hT0; omega
      have hval : ∀ pp : Int, 0 ≤ pp ∧ pp < 4 → r9.2.1 ≠ [] → N 180 (4 * N 178 (360 + 10 + 9 * x + 1 + md_sel N 360 x).toNat + pp).toNat = dV g (r9.2.1.getD (dSel g (g.2.2.2.2.2 x) r9.2.1).toNat 0) pp := fun pp hpp hne => by
        have h9 := dSel_in (g := g) (kind := g.2.2.2.2.2 x) hne
        rw [hS hne, hT.2 _ h9.1 h9.2]
        exact mV_is dN (hel _ (dSel_mem hne)) hpp
      have hvin : ∀ pp : Int, 0 ≤ pp ∧ pp < 4 → r9.2.1 ≠ [] → 0 ≤ dV g (r9.2.1.getD (dSel g (g.2.2.2.2.2 x) r9.2.1).toNat 0) pp ∧ dV g (r9.2.1.getD (dSel g (g.2.2.2.2.2 x) r9.2.1).toNat 0) pp ≤ 20 := fun pp hpp hne => dV_in hg (hel _ (dSel_mem hne)) hpp
      rcases hfi with ⟨rfl, hk2⟩ | ⟨rfl, hk2⟩
      · rw [hk2] at h252 hdead
        refine S.iload (pc' := 95) dX12_plays_93 rfl rfl ?_
        refine S.iconst (pc' := 96) dX12_plays_95 rfl ?_
        refine S.icmp_ne (pc' := 99) (tgt := 182) dX12_plays_96 (by decide) rfl (by unfold fp_rng; omega) (by unfold fp_rng; omega) (fun h96 => ?_) (fun h96 => ?_)
        · refine S.iload (pc' := 184) dX12_plays_182 rfl rfl ?_
          refine S.if_ne (pc' := 187) (tgt := 252) dX12_plays_184 (by decide) rfl (by unfold fp_rng; omega) (fun h184 => ?_) (fun h184 => ?_)
          · first
            | exact h252 _ _ _ _ _ _ _ _ (fun e => by omega) rfl (by unfold dGain; rw [if_neg (fun h => by have := h.1; omega)]; omega) (by unfold dNext; rw [if_neg (by omega), if_neg (fun h => by have := h.1; omega)]) (by unfold dNext; rw [if_neg (by omega), if_neg (fun h => by have := h.1; omega)]) a0 a1 hf (by unfold dNext; rw [if_neg (by omega), if_neg (fun h => by have := h.1; omega)]; exact hT)
            | exact h252 _ _ _ _ _ _ _ _ (fun e => by omega) rfl (by unfold dGain; rw [if_neg (fun h => h.2 (hemp (by omega)))]; omega) (by unfold dNext; rw [if_neg (by omega), if_neg (fun h => h.2 (hemp (by omega)))]) (by unfold dNext; rw [if_neg (by omega), if_neg (fun h => h.2 (hemp (by omega)))]) a0 a1 hf (by unfold dNext; rw [if_neg (by omega), if_neg (fun h => h.2 (hemp (by omega)))]; exact hT)
            | exact h252 _ _ _ _ _ _ _ _ (fun e => ⟨by rw [if_neg (by decide)]; omega, by omega⟩) rfl (by unfold dGain; rw [if_neg (fun h => by have := h.1; omega)]; omega) (by rw [dNext_put1 (by omega)]; show _ = r9.2.2.1; omega) (by rw [dNext_put1 (by omega)]) a0 a1 (frlay (by omega)) (by unfold dNext; rw [if_pos (by omega)]; exact tlay)
            | exact h252 _ _ _ _ _ _ _ _ (fun e => by omega) rfl (by unfold dGain; rw [if_pos ⟨by omega, hne⟩, if_neg (by decide)] <;> omega) (by unfold dNext; rw [if_neg (by omega), if_pos ⟨by omega, hne⟩]) (by unfold dNext; rw [if_neg (by omega), if_pos ⟨by omega, hne⟩]) a0 a1 (frtake _ (by omega)) (by unfold dNext; rw [if_neg (by omega), if_pos ⟨by omega, hne⟩]; exact ttake hne)
          · refine S.aload_n (pc' := 188) dX12_plays_187 rfl rfl rfl ?_
            refine S.sipush (pc' := 191) dX12_plays_188 rfl (by decide) ?_
            refine S.iload_n (pc' := 192) dX12_plays_191 rfl rfl rfl ?_
            refine S.callVe (pc' := 195) dX12_plays_192 rfl cX12_198 (ok_X12_lie (by omega) (by omega) hx) rfl L_177 (by decide) rfl (Nat.le_of_ble_eq_true rfl) ?_
            refine S.if_le (pc' := 198) (tgt := 252) dX12_plays_195 (by decide) rfl (by unfold fp_rng; omega) (fun h195 => ?_) (fun h195 => ?_)
            · first
              | exact h252 _ _ _ _ _ _ _ _ (fun e => by omega) rfl (by unfold dGain; rw [if_neg (fun h => by have := h.1; omega)]; omega) (by unfold dNext; rw [if_neg (by omega), if_neg (fun h => by have := h.1; omega)]) (by unfold dNext; rw [if_neg (by omega), if_neg (fun h => by have := h.1; omega)]) a0 a1 hf (by unfold dNext; rw [if_neg (by omega), if_neg (fun h => by have := h.1; omega)]; exact hT)
              | exact h252 _ _ _ _ _ _ _ _ (fun e => by omega) rfl (by unfold dGain; rw [if_neg (fun h => h.2 (hemp (by omega)))]; omega) (by unfold dNext; rw [if_neg (by omega), if_neg (fun h => h.2 (hemp (by omega)))]) (by unfold dNext; rw [if_neg (by omega), if_neg (fun h => h.2 (hemp (by omega)))]) a0 a1 hf (by unfold dNext; rw [if_neg (by omega), if_neg (fun h => h.2 (hemp (by omega)))]; exact hT)
              | exact h252 _ _ _ _ _ _ _ _ (fun e => ⟨by rw [if_neg (by decide)]; omega, by omega⟩) rfl (by unfold dGain; rw [if_neg (fun h => by have := h.1; omega)]; omega) (by rw [dNext_put1 (by omega)]; show _ = r9.2.2.1; omega) (by rw [dNext_put1 (by omega)]) a0 a1 (frlay (by omega)) (by unfold dNext; rw [if_pos (by omega)]; exact tlay)
              | exact h252 _ _ _ _ _ _ _ _ (fun e => by omega) rfl (by unfold dGain; rw [if_pos ⟨by omega, hne⟩, if_neg (by decide)] <;> omega) (by unfold dNext; rw [if_neg (by omega), if_pos ⟨by omega, hne⟩]) (by unfold dNext; rw [if_neg (by omega), if_pos ⟨by omega, hne⟩]) a0 a1 (frtake _ (by omega)) (by unfold dNext; rw [if_neg (by omega), if_pos ⟨by omega, hne⟩]; exact ttake hne)
            · refine S.aload_n (pc' := 199) dX12_plays_198 rfl rfl rfl ?_
              refine S.sipush (pc' := 202) dX12_plays_199 rfl (by decide) ?_
              refine S.iload_n (pc' := 203) dX12_plays_202 rfl rfl rfl ?_
              refine S.aload_n (pc' := 204) dX12_plays_203 rfl rfl rfl ?_
              refine S.sipush (pc' := 207) dX12_plays_204 rfl (by decide) ?_
              refine S.iload_n (pc' := 208) dX12_plays_207 rfl rfl rfl ?_
              refine S.callVe (pc' := 211) dX12_plays_208 rfl cX12_216 (ok_X12_givesAt (by omega) (by omega) hx dM hT1 hT2) rfl L_177 (by decide) rfl (Nat.le_of_ble_eq_true rfl) ?_
              refine S.callVe (pc' := 214) dX12_plays_211 rfl cX12_241 (ok_X12_takesOut (by omega) (by omega) hx (by omega) (by omega)) rfl L_177 (by decide) rfl (Nat.le_of_ble_eq_true rfl) ?_
              have hsv := hT2 (md_sel N 360 x) (by omega) (by omega)
              have hne := hnem (by omega)
              have hvq := hval q hq hne
              have hvi := hvin q hq hne
              refine S.istore (pc' := 216) (LL' := [_, _, _, _, _, _, _, _, _, _, _, _, _, _, _]) dX12_plays_214 rfl (by decide) rfl rfl ?_
              refine S.iload (pc' := 218) dX12_plays_216 rfl rfl ?_
              refine S.iload (pc' := 220) dX12_plays_218 rfl rfl ?_
              refine S.if_eq (pc' := 223) (tgt := 237) dX12_plays_220 (by decide) rfl (by unfold fp_rng; omega) (fun h220 => ?_) (fun h220 => ?_)
              · refine S.aload_n (pc' := 238) dX12_plays_237 rfl rfl rfl ?_
                refine S.getR (pc' := 241) dX12_plays_238 rfl fX12_16 L_177 rf_177_2 ?_
                refine S.iconst (pc' := 242) dX12_plays_241 rfl ?_
                refine S.iload (pc' := 244) dX12_plays_242 rfl rfl ?_
                refine S.imul (pc' := 245) dX12_plays_244 rfl ?_
                refine S.iload_n (pc' := 246) dX12_plays_245 rfl rfl rfl ?_
                refine S.iadd (pc' := 247) dX12_plays_246 rfl ?_
                refine S.iald (pc' := 248) dX12_plays_247 rfl L_180 (by omega) (by omega) ?_
                rw [fp_upM_ne (show 180 ≠ 178 by decide), hvq]
                refine S.ineg (pc' := 249) dX12_plays_248 rfl ?_
                refine S.iadd (pc' := 250) dX12_plays_249 rfl ?_
                refine S.istore (pc' := 252) (LL' := [_, _, _, _, _, _, _, _, _, _, _, _, _, _, _]) dX12_plays_250 rfl (by decide) rfl rfl ?_
                first
                | exact h252 _ _ _ _ _ _ _ _ (fun e => by omega) rfl (by unfold dGain; rw [if_neg (fun h => by have := h.1; omega)]; omega) (by unfold dNext; rw [if_neg (by omega), if_neg (fun h => by have := h.1; omega)]) (by unfold dNext; rw [if_neg (by omega), if_neg (fun h => by have := h.1; omega)]) a0 a1 hf (by unfold dNext; rw [if_neg (by omega), if_neg (fun h => by have := h.1; omega)]; exact hT)
                | exact h252 _ _ _ _ _ _ _ _ (fun e => by omega) rfl (by unfold dGain; rw [if_neg (fun h => h.2 (hemp (by omega)))]; omega) (by unfold dNext; rw [if_neg (by omega), if_neg (fun h => h.2 (hemp (by omega)))]) (by unfold dNext; rw [if_neg (by omega), if_neg (fun h => h.2 (hemp (by omega)))]) a0 a1 hf (by unfold dNext; rw [if_neg (by omega), if_neg (fun h => h.2 (hemp (by omega)))]; exact hT)
                | exact h252 _ _ _ _ _ _ _ _ (fun e => ⟨by rw [if_neg (by decide)]; omega, by omega⟩) rfl (by unfold dGain; rw [if_neg (fun h => by have := h.1; omega)]; omega) (by rw [dNext_put1 (by omega)]; show _ = r9.2.2.1; omega) (by rw [dNext_put1 (by omega)]) a0 a1 (frlay (by omega)) (by unfold dNext; rw [if_pos (by omega)]; exact tlay)
                | exact h252 _ _ _ _ _ _ _ _ (fun e => by omega) rfl (by unfold dGain; rw [if_pos ⟨by omega, hne⟩, if_neg (by decide)] <;> omega) (by unfold dNext; rw [if_neg (by omega), if_pos ⟨by omega, hne⟩]) (by unfold dNext; rw [if_neg (by omega), if_pos ⟨by omega, hne⟩]) a0 a1 (frtake _ (by omega)) (by unfold dNext; rw [if_neg (by omega), if_pos ⟨by omega, hne⟩]; exact ttake hne)
              · exact absurd rfl h220
        · refine S.iload (pc' := 101) dX12_plays_99 rfl rfl ?_
          refine S.if_eq (pc' := 104) (tgt := 109) dX12_plays_101 (by decide) rfl (by unfold fp_rng; omega) (fun h101 => ?_) (fun h101 => ?_)
          · refine S.iload (pc' := 111) dX12_plays_109 rfl rfl ?_
            refine S.if_eq (pc' := 114) (tgt := 127) dX12_plays_111 (by decide) rfl (by unfold fp_rng; omega) (fun h111 => ?_) (fun h111 => ?_)
            · refine S.sipush (pc' := 130) dX12_plays_127 rfl (by decide) ?_
              refine S.iret dX12_plays_130 rfl ?_
              exact ⟨hdead (fun hc => by have := hc (by omega); rw [if_neg (by decide)] at this; omega), hf⟩
            · refine S.aload_n (pc' := 115) dX12_plays_114 rfl rfl rfl ?_
              refine S.sipush (pc' := 118) dX12_plays_115 rfl (by decide) ?_
              refine S.iload_n (pc' := 119) dX12_plays_118 rfl rfl rfl ?_
              refine S.callVe (pc' := 122) dX12_plays_119 rfl cX12_198 (ok_X12_lie (by omega) (by omega) hx) rfl L_177 (by decide) rfl (Nat.le_of_ble_eq_true rfl) ?_
              refine S.bipush (pc' := 124) dX12_plays_122 rfl (by decide) ?_
              refine S.icmp_ne (pc' := 127) (tgt := 131) dX12_plays_124 (by decide) rfl (by unfold fp_rng; omega) (by unfold fp_rng; omega) (fun h124 => ?_) (fun h124 => ?_)
              · refine S.iload (pc' := 133) dX12_plays_131 rfl rfl ?_
                refine S.iload (pc' := 135) dX12_plays_133 rfl rfl ?_
                refine S.if_eq (pc' := 138) (tgt := 142) dX12_plays_135 (by decide) rfl (by unfold fp_rng; omega) (fun h135 => ?_) (fun h135 => ?_)
                · refine S.iconst (pc' := 143) dX12_plays_142 rfl ?_
                  refine S.isub (pc' := 144) dX12_plays_143 rfl ?_
                  refine S.istore (pc' := 146) (LL' := [_, _, _, _, _, _, _, _, _, _, _, _, _, _, _]) dX12_plays_144 rfl (by decide) rfl rfl ?_
                  refine S.iload (pc' := 148) dX12_plays_146 rfl rfl ?_
                  refine S.iload (pc' := 150) dX12_plays_148 rfl rfl ?_
                  refine S.if_eq (pc' := 153) (tgt := 157) dX12_plays_150 (by decide) rfl (by unfold fp_rng; omega) (fun h150 => ?_) (fun h150 => ?_)
                  · refine S.iconst (pc' := 158) dX12_plays_157 rfl ?_
                    refine S.isub (pc' := 159) dX12_plays_158 rfl ?_
                    refine S.istore (pc' := 161) (LL' := [_, _, _, _, _, _, _, _, _, _, _, _, _, _, _]) dX12_plays_159 rfl (by decide) rfl rfl ?_
                    refine S.aload_n (pc' := 162) dX12_plays_161 rfl rfl rfl ?_
                    refine S.sipush (pc' := 165) dX12_plays_162 rfl (by decide) ?_
                    refine S.bipush (pc' := 167) dX12_plays_165 rfl (by decide) ?_
                    refine S.iload_n (pc' := 168) dX12_plays_167 rfl rfl rfl ?_
                    refine S.aload_n (pc' := 169) dX12_plays_168 rfl rfl rfl ?_
                    refine S.sipush (pc' := 172) dX12_plays_169 rfl (by decide) ?_
                    refine S.iload_n (pc' := 173) dX12_plays_172 rfl rfl rfl ?_
                    refine S.callVe (pc' := 176) dX12_plays_173 rfl cX12_198 (ok_X12_lie (by omega) (by omega) hx) rfl L_177 (by decide) rfl (Nat.le_of_ble_eq_true rfl) ?_
                    refine S.callVw (pc' := 179) dX12_plays_176 rfl cX12_237 (ok_X12_laysIn (by omega) (by omega) hx (by omega) (by omega)) rfl L_177 (by decide) rfl (Nat.le_of_ble_eq_true rfl) ?_
                    refine S.goto (pc' := 252) dX12_plays_179 (by decide) ?_
                    first
                    | exact h252 _ _ _ _ _ _ _ _ (fun e => by omega) rfl (by unfold dGain; rw [if_neg (fun h => by have := h.1; omega)]; omega) (by unfold dNext; rw [if_neg (by omega), if_neg (fun h => by have := h.1; omega)]) (by unfold dNext; rw [if_neg (by omega), if_neg (fun h => by have := h.1; omega)]) a0 a1 hf (by unfold dNext; rw [if_neg (by omega), if_neg (fun h => by have := h.1; omega)]; exact hT)
                    | exact h252 _ _ _ _ _ _ _ _ (fun e => by omega) rfl (by unfold dGain; rw [if_neg (fun h => h.2 (hemp (by omega)))]; omega) (by unfold dNext; rw [if_neg (by omega), if_neg (fun h => h.2 (hemp (by omega)))]) (by unfold dNext; rw [if_neg (by omega), if_neg (fun h => h.2 (hemp (by omega)))]) a0 a1 hf (by unfold dNext; rw [if_neg (by omega), if_neg (fun h => h.2 (hemp (by omega)))]; exact hT)
                    | exact h252 _ _ _ _ _ _ _ _ (fun e => ⟨by rw [if_neg (by decide)]; omega, by omega⟩) rfl (by unfold dGain; rw [if_neg (fun h => by have := h.1; omega)]; omega) (by rw [dNext_put1 (by omega)]; show _ = r9.2.2.1; omega) (by rw [dNext_put1 (by omega)]) a0 a1 (frlay (by omega)) (by unfold dNext; rw [if_pos (by omega)]; exact tlay)
                    | exact h252 _ _ _ _ _ _ _ _ (fun e => by omega) rfl (by unfold dGain; rw [if_pos ⟨by omega, hne⟩, if_neg (by decide)] <;> omega) (by unfold dNext; rw [if_neg (by omega), if_pos ⟨by omega, hne⟩]) (by unfold dNext; rw [if_neg (by omega), if_pos ⟨by omega, hne⟩]) a0 a1 (frtake _ (by omega)) (by unfold dNext; rw [if_neg (by omega), if_pos ⟨by omega, hne⟩]; exact ttake hne)
                  · exact absurd rfl h150
                · exact absurd rfl h135
              · refine S.sipush (pc' := 130) dX12_plays_127 rfl (by decide) ?_
                refine S.iret dX12_plays_130 rfl ?_
                exact ⟨hdead (fun hc => by have := hc (by omega); rw [if_neg (by decide)] at this; omega), hf⟩
          · exact absurd rfl h101
      · rw [hk2] at h252 hdead
        refine S.iload (pc' := 95) dX12_plays_93 rfl rfl ?_
        refine S.iconst (pc' := 96) dX12_plays_95 rfl ?_
        refine S.icmp_ne (pc' := 99) (tgt := 182) dX12_plays_96 (by decide) rfl (by unfold fp_rng; omega) (by unfold fp_rng; omega) (fun h96 => ?_) (fun h96 => ?_)
        · refine S.iload (pc' := 184) dX12_plays_182 rfl rfl ?_
          refine S.if_ne (pc' := 187) (tgt := 252) dX12_plays_184 (by decide) rfl (by unfold fp_rng; omega) (fun h184 => ?_) (fun h184 => ?_)
          · first
            | exact h252 _ _ _ _ _ _ _ _ (fun e => by omega) rfl (by unfold dGain; rw [if_neg (fun h => by have := h.1; omega)]; omega) (by unfold dNext; rw [if_neg (by omega), if_neg (fun h => by have := h.1; omega)]) (by unfold dNext; rw [if_neg (by omega), if_neg (fun h => by have := h.1; omega)]) a0 a1 hf (by unfold dNext; rw [if_neg (by omega), if_neg (fun h => by have := h.1; omega)]; exact hT)
            | exact h252 _ _ _ _ _ _ _ _ (fun e => by omega) rfl (by unfold dGain; rw [if_neg (fun h => h.2 (hemp (by omega)))]; omega) (by unfold dNext; rw [if_neg (by omega), if_neg (fun h => h.2 (hemp (by omega)))]) (by unfold dNext; rw [if_neg (by omega), if_neg (fun h => h.2 (hemp (by omega)))]) a0 a1 hf (by unfold dNext; rw [if_neg (by omega), if_neg (fun h => h.2 (hemp (by omega)))]; exact hT)
            | exact h252 _ _ _ _ _ _ _ _ (fun e => ⟨by rw [if_pos rfl]; omega, by omega⟩) rfl (by unfold dGain; rw [if_neg (fun h => by have := h.1; omega)]; omega) (by rw [dNext_put0 (by omega)]) (by rw [dNext_put0 (by omega)]; show _ = r9.2.2.2; omega) a0 a1 (frlay (by omega)) (by unfold dNext; rw [if_pos (by omega)]; exact tlay)
            | exact h252 _ _ _ _ _ _ _ _ (fun e => by omega) rfl (by unfold dGain; rw [if_pos ⟨by omega, hne⟩, if_pos rfl] <;> omega) (by unfold dNext; rw [if_neg (by omega), if_pos ⟨by omega, hne⟩]) (by unfold dNext; rw [if_neg (by omega), if_pos ⟨by omega, hne⟩]) a0 a1 (frtake _ (by omega)) (by unfold dNext; rw [if_neg (by omega), if_pos ⟨by omega, hne⟩]; exact ttake hne)
          · refine S.aload_n (pc' := 188) dX12_plays_187 rfl rfl rfl ?_
            refine S.sipush (pc' := 191) dX12_plays_188 rfl (by decide) ?_
            refine S.iload_n (pc' := 192) dX12_plays_191 rfl rfl rfl ?_
            refine S.callVe (pc' := 195) dX12_plays_192 rfl cX12_198 (ok_X12_lie (by omega) (by omega) hx) rfl L_177 (by decide) rfl (Nat.le_of_ble_eq_true rfl) ?_
            refine S.if_le (pc' := 198) (tgt := 252) dX12_plays_195 (by decide) rfl (by unfold fp_rng; omega) (fun h195 => ?_) (fun h195 => ?_)
            · first
              | exact h252 _ _ _ _ _ _ _ _ (fun e => by omega) rfl (by unfold dGain; rw [if_neg (fun h => by have := h.1; omega)]; omega) (by unfold dNext; rw [if_neg (by omega), if_neg (fun h => by have := h.1; omega)]) (by unfold dNext; rw [if_neg (by omega), if_neg (fun h => by have := h.1; omega)]) a0 a1 hf (by unfold dNext; rw [if_neg (by omega), if_neg (fun h => by have := h.1; omega)]; exact hT)
              | exact h252 _ _ _ _ _ _ _ _ (fun e => by omega) rfl (by unfold dGain; rw [if_neg (fun h => h.2 (hemp (by omega)))]; omega) (by unfold dNext; rw [if_neg (by omega), if_neg (fun h => h.2 (hemp (by omega)))]) (by unfold dNext; rw [if_neg (by omega), if_neg (fun h => h.2 (hemp (by omega)))]) a0 a1 hf (by unfold dNext; rw [if_neg (by omega), if_neg (fun h => h.2 (hemp (by omega)))]; exact hT)
              | exact h252 _ _ _ _ _ _ _ _ (fun e => ⟨by rw [if_pos rfl]; omega, by omega⟩) rfl (by unfold dGain; rw [if_neg (fun h => by have := h.1; omega)]; omega) (by rw [dNext_put0 (by omega)]) (by rw [dNext_put0 (by omega)]; show _ = r9.2.2.2; omega) a0 a1 (frlay (by omega)) (by unfold dNext; rw [if_pos (by omega)]; exact tlay)
              | exact h252 _ _ _ _ _ _ _ _ (fun e => by omega) rfl (by unfold dGain; rw [if_pos ⟨by omega, hne⟩, if_pos rfl] <;> omega) (by unfold dNext; rw [if_neg (by omega), if_pos ⟨by omega, hne⟩]) (by unfold dNext; rw [if_neg (by omega), if_pos ⟨by omega, hne⟩]) a0 a1 (frtake _ (by omega)) (by unfold dNext; rw [if_neg (by omega), if_pos ⟨by omega, hne⟩]; exact ttake hne)
            · refine S.aload_n (pc' := 199) dX12_plays_198 rfl rfl rfl ?_
              refine S.sipush (pc' := 202) dX12_plays_199 rfl (by decide) ?_
              refine S.iload_n (pc' := 203) dX12_plays_202 rfl rfl rfl ?_
              refine S.aload_n (pc' := 204) dX12_plays_203 rfl rfl rfl ?_
              refine S.sipush (pc' := 207) dX12_plays_204 rfl (by decide) ?_
              refine S.iload_n (pc' := 208) dX12_plays_207 rfl rfl rfl ?_
              refine S.callVe (pc' := 211) dX12_plays_208 rfl cX12_216 (ok_X12_givesAt (by omega) (by omega) hx dM hT1 hT2) rfl L_177 (by decide) rfl (Nat.le_of_ble_eq_true rfl) ?_
              refine S.callVe (pc' := 214) dX12_plays_211 rfl cX12_241 (ok_X12_takesOut (by omega) (by omega) hx (by omega) (by omega)) rfl L_177 (by decide) rfl (Nat.le_of_ble_eq_true rfl) ?_
              have hsv := hT2 (md_sel N 360 x) (by omega) (by omega)
              have hne := hnem (by omega)
              have hvq := hval p hp hne
              have hvi := hvin p hp hne
              refine S.istore (pc' := 216) (LL' := [_, _, _, _, _, _, _, _, _, _, _, _, _, _, _]) dX12_plays_214 rfl (by decide) rfl rfl ?_
              refine S.iload (pc' := 218) dX12_plays_216 rfl rfl ?_
              refine S.iload (pc' := 220) dX12_plays_218 rfl rfl ?_
              refine S.if_eq (pc' := 223) (tgt := 237) dX12_plays_220 (by decide) rfl (by unfold fp_rng; omega) (fun h220 => ?_) (fun h220 => ?_)
              · exact absurd h220 (by decide)
              · refine S.aload_n (pc' := 224) dX12_plays_223 rfl rfl rfl ?_
                refine S.getR (pc' := 227) dX12_plays_224 rfl fX12_16 L_177 rf_177_2 ?_
                refine S.iconst (pc' := 228) dX12_plays_227 rfl ?_
                refine S.iload (pc' := 230) dX12_plays_228 rfl rfl ?_
                refine S.imul (pc' := 231) dX12_plays_230 rfl ?_
                refine S.iload_n (pc' := 232) dX12_plays_231 rfl rfl rfl ?_
                refine S.iadd (pc' := 233) dX12_plays_232 rfl ?_
                refine S.iald (pc' := 234) dX12_plays_233 rfl L_180 (by omega) (by omega) ?_
                rw [fp_upM_ne (show 180 ≠ 178 by decide), hvq]
                refine S.goto (pc' := 249) dX12_plays_234 (by decide) ?_
                refine S.iadd (pc' := 250) dX12_plays_249 rfl ?_
                refine S.istore (pc' := 252) (LL' := [_, _, _, _, _, _, _, _, _, _, _, _, _, _, _]) dX12_plays_250 rfl (by decide) rfl rfl ?_
                first
                | exact h252 _ _ _ _ _ _ _ _ (fun e => by omega) rfl (by unfold dGain; rw [if_neg (fun h => by have := h.1; omega)]; omega) (by unfold dNext; rw [if_neg (by omega), if_neg (fun h => by have := h.1; omega)]) (by unfold dNext; rw [if_neg (by omega), if_neg (fun h => by have := h.1; omega)]) a0 a1 hf (by unfold dNext; rw [if_neg (by omega), if_neg (fun h => by have := h.1; omega)]; exact hT)
                | exact h252 _ _ _ _ _ _ _ _ (fun e => by omega) rfl (by unfold dGain; rw [if_neg (fun h => h.2 (hemp (by omega)))]; omega) (by unfold dNext; rw [if_neg (by omega), if_neg (fun h => h.2 (hemp (by omega)))]) (by unfold dNext; rw [if_neg (by omega), if_neg (fun h => h.2 (hemp (by omega)))]) a0 a1 hf (by unfold dNext; rw [if_neg (by omega), if_neg (fun h => h.2 (hemp (by omega)))]; exact hT)
                | exact h252 _ _ _ _ _ _ _ _ (fun e => ⟨by rw [if_pos rfl]; omega, by omega⟩) rfl (by unfold dGain; rw [if_neg (fun h => by have := h.1; omega)]; omega) (by rw [dNext_put0 (by omega)]) (by rw [dNext_put0 (by omega)]; show _ = r9.2.2.2; omega) a0 a1 (frlay (by omega)) (by unfold dNext; rw [if_pos (by omega)]; exact tlay)
                | exact h252 _ _ _ _ _ _ _ _ (fun e => by omega) rfl (by unfold dGain; rw [if_pos ⟨by omega, hne⟩, if_pos rfl] <;> omega) (by unfold dNext; rw [if_neg (by omega), if_pos ⟨by omega, hne⟩]) (by unfold dNext; rw [if_neg (by omega), if_pos ⟨by omega, hne⟩]) a0 a1 (frtake _ (by omega)) (by unfold dNext; rw [if_neg (by omega), if_pos ⟨by omega, hne⟩]; exact ttake hne)
        · refine S.iload (pc' := 101) dX12_plays_99 rfl rfl ?_
          refine S.if_eq (pc' := 104) (tgt := 109) dX12_plays_101 (by decide) rfl (by unfold fp_rng; omega) (fun h101 => ?_) (fun h101 => ?_)
          · exact absurd h101 (by decide)
          · refine S.iload (pc' := 106) dX12_plays_104 rfl rfl ?_
            refine S.goto (pc' := 111) dX12_plays_106 (by decide) ?_
            refine S.if_eq (pc' := 114) (tgt := 127) dX12_plays_111 (by decide) rfl (by unfold fp_rng; omega) (fun h111 => ?_) (fun h111 => ?_)
            · refine S.sipush (pc' := 130) dX12_plays_127 rfl (by decide) ?_
              refine S.iret dX12_plays_130 rfl ?_
              exact ⟨hdead (fun hc => by have := hc (by omega); rw [if_pos rfl] at this; omega), hf⟩
            · refine S.aload_n (pc' := 115) dX12_plays_114 rfl rfl rfl ?_
              refine S.sipush (pc' := 118) dX12_plays_115 rfl (by decide) ?_
              refine S.iload_n (pc' := 119) dX12_plays_118 rfl rfl rfl ?_
              refine S.callVe (pc' := 122) dX12_plays_119 rfl cX12_198 (ok_X12_lie (by omega) (by omega) hx) rfl L_177 (by decide) rfl (Nat.le_of_ble_eq_true rfl) ?_
              refine S.bipush (pc' := 124) dX12_plays_122 rfl (by decide) ?_
              refine S.icmp_ne (pc' := 127) (tgt := 131) dX12_plays_124 (by decide) rfl (by unfold fp_rng; omega) (by unfold fp_rng; omega) (fun h124 => ?_) (fun h124 => ?_)
              · refine S.iload (pc' := 133) dX12_plays_131 rfl rfl ?_
                refine S.iload (pc' := 135) dX12_plays_133 rfl rfl ?_
                refine S.if_eq (pc' := 138) (tgt := 142) dX12_plays_135 (by decide) rfl (by unfold fp_rng; omega) (fun h135 => ?_) (fun h135 => ?_)
                · exact absurd h135 (by decide)
                · refine S.iconst (pc' := 139) dX12_plays_138 rfl ?_
                  refine S.goto (pc' := 143) dX12_plays_139 (by decide) ?_
                  refine S.isub (pc' := 144) dX12_plays_143 rfl ?_
                  refine S.istore (pc' := 146) (LL' := [_, _, _, _, _, _, _, _, _, _, _, _, _, _, _]) dX12_plays_144 rfl (by decide) rfl rfl ?_
                  refine S.iload (pc' := 148) dX12_plays_146 rfl rfl ?_
                  refine S.iload (pc' := 150) dX12_plays_148 rfl rfl ?_
                  refine S.if_eq (pc' := 153) (tgt := 157) dX12_plays_150 (by decide) rfl (by unfold fp_rng; omega) (fun h150 => ?_) (fun h150 => ?_)
                  · exact absurd h150 (by decide)
                  · refine S.iconst (pc' := 154) dX12_plays_153 rfl ?_
                    refine S.goto (pc' := 158) dX12_plays_154 (by decide) ?_
                    refine S.isub (pc' := 159) dX12_plays_158 rfl ?_
                    refine S.istore (pc' := 161) (LL' := [_, _, _, _, _, _, _, _, _, _, _, _, _, _, _]) dX12_plays_159 rfl (by decide) rfl rfl ?_
                    refine S.aload_n (pc' := 162) dX12_plays_161 rfl rfl rfl ?_
                    refine S.sipush (pc' := 165) dX12_plays_162 rfl (by decide) ?_
                    refine S.bipush (pc' := 167) dX12_plays_165 rfl (by decide) ?_
                    refine S.iload_n (pc' := 168) dX12_plays_167 rfl rfl rfl ?_
                    refine S.aload_n (pc' := 169) dX12_plays_168 rfl rfl rfl ?_
                    refine S.sipush (pc' := 172) dX12_plays_169 rfl (by decide) ?_
                    refine S.iload_n (pc' := 173) dX12_plays_172 rfl rfl rfl ?_
                    refine S.callVe (pc' := 176) dX12_plays_173 rfl cX12_198 (ok_X12_lie (by omega) (by omega) hx) rfl L_177 (by decide) rfl (Nat.le_of_ble_eq_true rfl) ?_
                    refine S.callVw (pc' := 179) dX12_plays_176 rfl cX12_237 (ok_X12_laysIn (by omega) (by omega) hx (by omega) (by omega)) rfl L_177 (by decide) rfl (Nat.le_of_ble_eq_true rfl) ?_
                    refine S.goto (pc' := 252) dX12_plays_179 (by decide) ?_
                    first
                    | exact h252 _ _ _ _ _ _ _ _ (fun e => by omega) rfl (by unfold dGain; rw [if_neg (fun h => by have := h.1; omega)]; omega) (by unfold dNext; rw [if_neg (by omega), if_neg (fun h => by have := h.1; omega)]) (by unfold dNext; rw [if_neg (by omega), if_neg (fun h => by have := h.1; omega)]) a0 a1 hf (by unfold dNext; rw [if_neg (by omega), if_neg (fun h => by have := h.1; omega)]; exact hT)
                    | exact h252 _ _ _ _ _ _ _ _ (fun e => by omega) rfl (by unfold dGain; rw [if_neg (fun h => h.2 (hemp (by omega)))]; omega) (by unfold dNext; rw [if_neg (by omega), if_neg (fun h => h.2 (hemp (by omega)))]) (by unfold dNext; rw [if_neg (by omega), if_neg (fun h => h.2 (hemp (by omega)))]) a0 a1 hf (by unfold dNext; rw [if_neg (by omega), if_neg (fun h => h.2 (hemp (by omega)))]; exact hT)
                    | exact h252 _ _ _ _ _ _ _ _ (fun e => ⟨by rw [if_pos rfl]; omega, by omega⟩) rfl (by unfold dGain; rw [if_neg (fun h => by have := h.1; omega)]; omega) (by rw [dNext_put0 (by omega)]) (by rw [dNext_put0 (by omega)]; show _ = r9.2.2.2; omega) a0 a1 (frlay (by omega)) (by unfold dNext; rw [if_pos (by omega)]; exact tlay)
                    | exact h252 _ _ _ _ _ _ _ _ (fun e => by omega) rfl (by unfold dGain; rw [if_pos ⟨by omega, hne⟩, if_pos rfl] <;> omega) (by unfold dNext; rw [if_neg (by omega), if_pos ⟨by omega, hne⟩]) (by unfold dNext; rw [if_neg (by omega), if_pos ⟨by omega, hne⟩]) a0 a1 (frtake _ (by omega)) (by unfold dNext; rw [if_neg (by omega), if_pos ⟨by omega, hne⟩]; exact ttake hne)
              · refine S.sipush (pc' := 130) dX12_plays_127 rfl (by decide) ?_
                refine S.iret dX12_plays_130 rfl ?_
                exact ⟨hdead (fun hc => by have := hc (by omega); rw [if_pos rfl] at this; omega), hf⟩
    have hof3 : 3 ≤ of → 0 < d ∧ of / 3 = 3 ^ (d - 1) := fun h3 => by
      rw [hofe] at h3 ⊢
      cases d with
      | zero => simp at h3
      | succ d' => exact ⟨by omega, by rw [pow3_s]; exact Int.mul_ediv_cancel _ (by decide)⟩
    have hof1 : ¬ 3 ≤ of → d = 0 := fun h3 => by
      cases d with
      | zero => rfl
      | succ d' =>
        exfalso
        rw [hofe, pow3_s] at h3
        have := pow3_in (show d' < 7 by omega)
        omega
    have h66 : ∀ fi, ((fi = 0 ∧ (k : Int) % 2 = 1) ∨ (fi = 1 ∧ (k : Int) % 2 = 0)) → fp_S l G 2 kX12_plays 66 [some (rV G 177), some (iV x), some (iV p), some (iV q), some (iV r), some (iV n), some (iV mv), some (iV of), some (iV r9.1), some (iV r9.2.2.1), some (iV r9.2.2.2), some (iV (k : Int)), o12, o13, o14] [iV fi] N (qI fun z O => z = dPl g (g.2.2.2.2.2 x) p q s0 n.toNat mv ∧ frT M O) := by
      intro fi hfi
      refine S.istore (pc' := 68) (LL' := [_, _, _, _, _, _, _, _, _, _, _, _, _, _, _]) dX12_plays_66 rfl (by decide) rfl rfl ?_
      refine S.iload (pc' := 70) dX12_plays_68 rfl rfl ?_
      refine S.iload (pc' := 72) dX12_plays_70 rfl rfl ?_
      refine S.idiv (pc' := 73) dX12_plays_72 rfl (fp_ine (by omega)) (fp_idiv (by omega) (by omega)) ?_
      refine S.iconst (pc' := 74) dX12_plays_73 rfl ?_
      refine S.irem (pc' := 75) dX12_plays_74 rfl (by decide) (fp_irem (by omega) (by omega)) ?_
      rw [hmoe]
      refine S.istore (pc' := 77) (LL' := [_, _, _, _, _, _, _, _, _, _, _, _, _, _, _]) dX12_plays_75 rfl (by decide) rfl rfl ?_
      refine S.iload (pc' := 79) dX12_plays_77 rfl rfl ?_
      refine S.iconst (pc' := 80) dX12_plays_79 rfl ?_
      refine S.icmp_lt (pc' := 83) (tgt := 90) dX12_plays_80 (by decide) rfl (by unfold fp_rng; omega) (by unfold fp_rng; omega) (fun h80 => ?_) (fun h80 => ?_)
      · refine S.iconst (pc' := 91) dX12_plays_90 rfl ?_
        refine S.istore (pc' := 93) (LL' := [_, _, _, _, _, _, _, _, _, _, _, _, _, _, _]) dX12_plays_91 rfl (by decide) rfl rfl ?_
        first
        | exact h93 _ _ _ (fun _ => (hof3 (by omega)).2) (by omega) hfi
        | exact h93 _ _ _ (fun hd0 => by have := hof1 (by omega); omega) (by omega) hfi
      · refine S.iload (pc' := 85) dX12_plays_83 rfl rfl ?_
        refine S.iconst (pc' := 86) dX12_plays_85 rfl ?_
        refine S.idiv (pc' := 87) dX12_plays_86 rfl (by decide) (fp_idiv (by omega) (by omega)) ?_
        refine S.goto (pc' := 91) dX12_plays_87 (by decide) ?_
        refine S.istore (pc' := 93) (LL' := [_, _, _, _, _, _, _, _, _, _, _, _, _, _, _]) dX12_plays_91 rfl (by decide) rfl rfl ?_
        first
        | exact h93 _ _ _ (fun _ => (hof3 (by omega)).2) (by omega) hfi
        | exact h93 _ _ _ (fun hd0 => by have := hof1 (by omega); omega) (by omega) hfi
    refine S.iload (pc' := 49) dX12_plays_47 rfl rfl ?_
    refine S.iload (pc' := 51) dX12_plays_49 rfl rfl ?_
    refine S.icmp_ge (pc' := 54) (tgt := 258) dX12_plays_51 (by decide) rfl (by unfold fp_rng; omega) (by unfold fp_rng; omega) (fun h51 => ?_) (fun h51 => ?_)
    · exfalso; omega
    · refine S.iload (pc' := 56) dX12_plays_54 rfl rfl ?_
      refine S.iconst (pc' := 57) dX12_plays_56 rfl ?_
      refine S.irem (pc' := 58) dX12_plays_57 rfl (by decide) (fp_irem (by omega) (by omega)) ?_
      refine S.if_ne (pc' := 61) (tgt := 65) dX12_plays_58 (by decide) rfl (by unfold fp_rng; omega) (fun h58 => ?_) (fun h58 => ?_)
      · refine S.iconst (pc' := 66) dX12_plays_65 rfl ?_
        first
        | exact h66 _ (Or.inl ⟨rfl, by omega⟩)
        | exact h66 _ (Or.inr ⟨rfl, by omega⟩)
      · refine S.iconst (pc' := 62) dX12_plays_61 rfl ?_
        refine S.goto (pc' := 66) dX12_plays_62 (by decide) ?_
        first
        | exact h66 _ (Or.inl ⟨rfl, by omega⟩)
        | exact h66 _ (Or.inr ⟨rfl, by omega⟩)
end MDX
