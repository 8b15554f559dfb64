/-! RUNS: the reference's copies, runs, holdsAt, worthAt, placeOf -/
def aRun (g : aGd) (pg : aPg) (vs : List aVt) : Nat → aPg
  | 0 => pg
  | n + 1 => (aHapI g (aRun g pg vs n) vs n).2
/-- bits of those in vain -/
def aVn (g : aGd) (pg : aPg) (vs : List aVt) : Nat → Int
  | 0 => 0
  | n + 1 => if (aHapI g (aRun g pg vs n) vs n).1 = 0 then fp_or (aVn g pg vs n) (2 ^ n) else aVn g pg vs n
theorem aRun_ok {g : aGd} {pg : aPg} {vs : List aVt} (hg : gOk g) (h : pgOk g pg) (hv : vsOk g vs) : ∀ n, pgOk g (aRun g pg vs n)
  | 0 => h
  | n + 1 => aHapI_ok hg (aRun_ok hg h hv n) hv
theorem aRun_succ {g : aGd} {pg : aPg} {vs : List aVt} {i : Int} (h : 0 ≤ i) : aRun g pg vs (i + 1).toNat = (aHapI g (aRun g pg vs i.toNat) vs i).2 := by
  have e1 : (i + 1).toNat = i.toNat + 1 := by omega
  rw [e1]
  show (aHapI g (aRun g pg vs i.toNat) vs ((i.toNat : Nat) : Int)).2 = _
  rw [Int.toNat_of_nonneg h]
theorem aVn_succ {g : aGd} {pg : aPg} {vs : List aVt} {i : Int} (h : 0 ≤ i) : aVn g pg vs (i + 1).toNat = if (aHapI g (aRun g pg vs i.toNat) vs i).1 = 0 then fp_or (aVn g pg vs i.toNat) (2 ^ i.toNat) else aVn g pg vs i.toNat := by
  have e1 : (i + 1).toNat = i.toNat + 1 := by omega
  rw [e1]
  show (if (aHapI g (aRun g pg vs i.toNat) vs ((i.toNat : Nat) : Int)).1 = 0 then _ else _) = _
  rw [Int.toNat_of_nonneg h]
theorem aVn_lt (g : aGd) (pg : aPg) (vs : List aVt) : ∀ n : Nat, 0 ≤ aVn g pg vs n ∧ aVn g pg vs n < 2 ^ n
  | 0 => by unfold aVn; decide
  | n + 1 => by
    have h := aVn_lt g pg vs n
    have h2 : (2 : Int) ^ (n + 1) = 2 * 2 ^ n := by rw [Int.pow_succ]; omega
    have h3 : (0 : Int) < 2 ^ n := Int.pow_pos (by decide)
    unfold aVn
    split
    · exact ⟨fp_or_nn _ _, fp_or_lt (by omega) (by omega)⟩
    · omega
theorem fp_or0 {a : Int} (h : 0 ≤ a) : fp_or a 0 = a := by
  unfold fp_or
  simp
  omega
/-- the trial's page alone differs -/
def frT (M N : fp_Mem) : Prop := (∀ c, c ≠ 178 → N c = M c) ∧ ∀ j : Nat, (j < 360 ∨ 410 ≤ j) → N 178 j = M 178 j
theorem frT.refl (M : fp_Mem) : frT M M := ⟨fun _ _ => rfl, fun _ _ => rfl⟩
theorem frT.trans {M N O : fp_Mem} (h1 : frT M N) (h2 : frT N O) : frT M O := ⟨fun c hc => (h2.1 c hc).trans (h1.1 c hc), fun j hj => (h2.2 j hj).trans (h1.2 j hj)⟩
theorem frM.toT {M N : fp_Mem} (h : frM M N 360) : frT M N := ⟨h.1, fun j hj => h.2 j (by omega)⟩
theorem frT.md {M N : fp_Mem} {g : aGd} (h : frT M N) (hd : mdIs M g) : mdIs N g := hd.kept h.1
theorem frT.mv {M N : fp_Mem} {vs : List aVt} (h : frT M N) (hd : mvIs M vs) : mvIs N vs := hd.kept (fun j h1 h2 => h.2 j (by omega))
theorem frT.mp0 {M N : fp_Mem} {g : aGd} {pg : aPg} (h : frT M N) (hg : gOk g) (hP : pgOk g pg) (hd : mpIs M 0 g pg) : mpIs N 0 g pg := hd.kept hg hP (by omega) (fun j h1 h2 => h.2 j (by omega))
section MRN
variable {l : Launch} {G : fp_WG} {M : fp_Mem} {g : aGd} {pg : aPg} {vs : List aVt}
theorem copies_loop : ∀ (n : Nat) (k : Int) (N : fp_Mem), (50 - k).toNat < n → 0 ≤ k → k ≤ 50 → N = fp_upM M 178 (fun j : Nat => if 360 ≤ j ∧ (j : Int) < 360 + k then M 178 (j - 360) else M 178 j) →
    fp_S l G 0 kX12_copies 2 [some (rV G 177), some (iV 0), some (iV 360), some (iV k)] [] N (qW (fp_upM M 178 (fun j : Nat => if 360 ≤ j ∧ (j : Int) < 360 + 50 then M 178 (j - 360) else M 178 j))) := by
  intro n
  induction n with
  | zero => intro k N h; omega
  | succ n ih =>
    intro k N h k0 k1 hN
    refine S.iload_n dX12_copies_2 rfl rfl rfl ?_
    refine S.bipush dX12_copies_3 rfl (by decide) ?_
    refine S.icmp_ge (tgt := 30) dX12_copies_5 (by decide) rfl (by unfold fp_rng; omega) (by unfold fp_rng; omega) (fun h5 => ?_) (fun h5 => ?_)
    · refine S.vret dX12_copies_30 rfl ?_
      show _ = _
      rw [hN, show k = 50 by omega]
    · refine S.aload_n dX12_copies_8 rfl rfl rfl ?_
      refine S.getR dX12_copies_9 rfl fX12_7 L_177 rf_177_0 ?_
      refine S.iload_n dX12_copies_12 rfl rfl rfl ?_
      refine S.iload_n dX12_copies_13 rfl rfl rfl ?_
      refine S.iadd dX12_copies_14 rfl ?_
      refine S.aload_n dX12_copies_15 rfl rfl rfl ?_
      refine S.getR dX12_copies_16 rfl fX12_7 L_177 rf_177_0 ?_
      refine S.iload_n dX12_copies_19 rfl rfl rfl ?_
      refine S.iload_n dX12_copies_20 rfl rfl rfl ?_
      refine S.iadd dX12_copies_21 rfl ?_
      refine S.iald dX12_copies_22 rfl L_178 (by omega) (by omega) ?_
      refine S.iast dX12_copies_23 rfl L_178 (by omega) (by omega) ?_
      refine S.iinc (LL' := [_, _, _, _]) dX12_copies_24 rfl (by decide) rfl rfl rfl ?_
      refine S.goto (pc' := 2) dX12_copies_27 (by decide) ?_
      refine ih _ _ (by omega) (by omega) (by omega) ?_
      rw [hN, fp_up_same]
      refine congrArg (fp_upM _ 178) (funext fun j => ?_)
      rw [fp_upM_at]
      dsimp only [fp_upf]
      (repeat' split) <;> first | (exfalso; omega) | (refine congrArg (M 178) ?_; omega)
theorem rk_X12_copies (hc : mpIs M 0 g pg := by assumption) (hP : pgOk g pg := by assumption) (hg : gOk g := by assumption) : fp_Ok l G 0 kX12_copies [rV G 177, iV 0, iV 360] M (qV fun N => mpIs N 360 g pg ∧ frT M N) := by
  have hg1 := hg.1
  have hb : fp_Ok l G 0 kX12_copies [rV G 177, iV 0, iV 360] M (qW (fp_upM M 178 (fun j : Nat => if 360 ≤ j ∧ (j : Int) < 360 + 50 then M 178 (j - 360) else M 178 j))) := by
    refine fp_Ok.of (r := 1) rfl (Nat.le_of_ble_eq_true rfl) rfl ?_
    refine S.iconst dX12_copies_0 rfl ?_
    refine S.istore_n (LL' := [_, _, _, _]) dX12_copies_1 rfl (by decide) rfl rfl rfl ?_
    refine copies_loop 51 0 M (by omega) (by omega) (by omega) ?_
    rw [show (fun j : Nat => if 360 ≤ j ∧ (j : Int) < 360 + 0 then M 178 (j - 360) else M 178 j) = M 178 from funext fun j => by rw [if_neg (by omega)], fp_upM_self]
  refine hb.toV ⟨?_, fun c hc => fp_upM_ne hc, fun j hj => by rw [fp_upM_at, if_neg (by omega)]⟩
  unfold mpIs
  rw [fp_upM_at]
  obtain ⟨c1, c2, c3⟩ := hc
  refine ⟨fun t t0 t1 => ?_, fun t t0 t1 t2 => ?_, fun x x0 x3 => ?_⟩
  · show (if 360 ≤ (360 + t).toNat ∧ _ then _ else _) = _
    rw [if_pos (by omega), ← c1 t t0 t1]; refine congrArg (M 178) ?_; omega
  · show (if 360 ≤ (360 + 37 + t).toNat ∧ _ then _ else _) = _
    rw [if_pos (by omega), ← c2 t t0 t1 t2]; refine congrArg (M 178) ?_; omega
  · obtain ⟨q1, q2⟩ := c3 x x0 x3
    have hl := (hP.2.1 x x0 x3).1
    refine ⟨?_, fun i i0 i1 => ?_⟩
    · show (if 360 ≤ (360 + 10 + 9 * x).toNat ∧ _ then _ else _) = _
      rw [if_pos (by omega), ← q1]; refine congrArg (M 178) ?_; omega
    · show (if 360 ≤ (360 + 10 + 9 * x + 1 + i).toNat ∧ _ then _ else _) = _
      rw [if_pos (by omega), ← q2 i i0 i1]; refine congrArg (M 178) ?_; omega
theorem runs_loop {m9 : Int} (hP : pgOk g pg) (hg : gOk g) (hvo : vsOk g vs) (hv : mvIs M vs) (hd : mdIs M g) (hm : 0 ≤ m9 ∧ m9 ≤ vs.length) : ∀ (n : Nat) (i : Int) (N : fp_Mem), (m9 - i).toNat < n → 0 ≤ i → i ≤ m9 → frT M N → mpIs N 360 g (aRun g pg vs i.toNat) →
    fp_S l G 5 kX12_runs 12 [some (rV G 177), some (iV m9), some (iV (aVn g pg vs i.toNat)), some (iV i)] [] N (qI fun z O => z = aVn g pg vs m9.toNat ∧ mpIs O 360 g (aRun g pg vs m9.toNat) ∧ frT M O) := by
  have hl := hv.2.1
  intro n
  induction n with
  | zero => intro i N h; omega
  | succ n ih =>
    intro i N h i0 i1 hf hc
    have hb := aVn_lt g pg vs i.toNat
    have es := aVn_succ (g := g) (pg := pg) (vs := vs) i0
    have er := aRun_succ (g := g) (pg := pg) (vs := vs) i0
    have hPi := aRun_ok hg hP hvo i.toNat
    have hv' := hf.mv hv
    have hd' := hf.md hd
    have hpw := fp_pow_le (i := i) (n := 12) (by omega)
    refine S.iload_n dX12_runs_12 rfl rfl rfl ?_
    refine S.iload_n dX12_runs_13 rfl rfl rfl ?_
    refine S.icmp_ge (tgt := 44) dX12_runs_14 (by decide) rfl (by unfold fp_rng; omega) (by unfold fp_rng; omega) (fun h14 => ?_) (fun h14 => ?_)
    · refine S.iload_n dX12_runs_44 rfl rfl rfl ?_
      refine S.iret dX12_runs_45 rfl ?_
      rw [show m9 = i by omega]; exact ⟨rfl, hc, hf⟩
    · refine S.iload_n dX12_runs_17 rfl rfl rfl ?_
      refine S.aload_n dX12_runs_18 rfl rfl rfl ?_
      refine S.sipush dX12_runs_19 rfl (by decide) ?_
      refine S.iload_n dX12_runs_22 rfl rfl rfl ?_
      refine S.callVi dX12_runs_23 rfl cX12_261 (rk_X12_happens (g := g) (pg := aRun g pg vs i.toNat) (vs := vs)) rfl L_177 (by decide) rfl (Nat.le_of_ble_eq_true rfl) (fun z23 M23 q23 => ?_)
      have h01 := aHapI_01 g (aRun g pg vs i.toNat) vs i
      obtain ⟨rfl, c23, f23⟩ := q23
      refine S.if_eq (tgt := 33) dX12_runs_26 (by decide) rfl (by unfold fp_rng; omega) (fun h26 => ?_) (fun h26 => ?_)
      · refine S.iconst dX12_runs_33 rfl ?_
        refine S.iload_n dX12_runs_34 rfl rfl rfl ?_
        refine S.ishl dX12_runs_35 rfl (fp_shl1 (by omega) (by omega)) ?_
        refine S.ior dX12_runs_36 rfl (fp_ior hb.1 (by omega)) ?_
        refine S.istore_n (LL' := [_, _, _, _]) dX12_runs_37 rfl (by decide) rfl rfl rfl ?_
        refine S.iinc (LL' := [_, _, _, _]) dX12_runs_38 rfl (by decide) rfl rfl rfl ?_
        refine S.goto (pc' := 12) dX12_runs_41 (by decide) ?_
        first | (rw [if_neg h26] at es; rw [fp_or0 hb.1, ← es]; rw [← er] at c23; exact ih _ _ (by omega) (by omega) (by omega) (hf.trans f23.toT) c23) | (rw [if_pos h26] at es; rw [← es]; rw [← er] at c23; exact ih _ _ (by omega) (by omega) (by omega) (hf.trans f23.toT) c23)
      · refine S.iconst dX12_runs_29 rfl ?_
        refine S.goto (pc' := 36) dX12_runs_30 (by decide) ?_
        refine S.ior dX12_runs_36 rfl (fp_ior hb.1 (by omega)) ?_
        refine S.istore_n (LL' := [_, _, _, _]) dX12_runs_37 rfl (by decide) rfl rfl rfl ?_
        refine S.iinc (LL' := [_, _, _, _]) dX12_runs_38 rfl (by decide) rfl rfl rfl ?_
        refine S.goto (pc' := 12) dX12_runs_41 (by decide) ?_
        first | (rw [if_neg h26] at es; rw [fp_or0 hb.1, ← es]; rw [← er] at c23; exact ih _ _ (by omega) (by omega) (by omega) (hf.trans f23.toT) c23) | (rw [if_pos h26] at es; rw [← es]; rw [← er] at c23; exact ih _ _ (by omega) (by omega) (by omega) (hf.trans f23.toT) c23)
theorem rk_X12_runs {m9 : Int} (hc : mpIs M 0 g pg := by assumption) (hP : pgOk g pg := by assumption) (hg : gOk g := by assumption) (hvo : vsOk g vs := by assumption) (hv : mvIs M vs := by assumption) (hd : mdIs M g := by assumption) (hm : 0 ≤ m9 ∧ m9 ≤ vs.length := by first | assumption | omega) : fp_Ok l G 5 kX12_runs [rV G 177, iV m9] M (qI fun z O => z = aVn g pg vs m9.toNat ∧ mpIs O 360 g (aRun g pg vs m9.toNat) ∧ frT M O) := by
  refine fp_Ok.of (r := 2) rfl (Nat.le_of_ble_eq_true rfl) rfl ?_
  refine S.aload_n dX12_runs_0 rfl rfl rfl ?_
  refine S.iconst dX12_runs_1 rfl ?_
  refine S.sipush dX12_runs_2 rfl (by decide) ?_
  refine S.callVv dX12_runs_5 rfl cX12_265 (rk_X12_copies (g := g) (pg := pg)) rfl L_177 (by decide) rfl (Nat.le_of_ble_eq_true rfl) (fun M5 q5 => ?_)
  refine S.iconst dX12_runs_8 rfl ?_
  refine S.istore_n (LL' := [_, _, _, _]) dX12_runs_9 rfl (by decide) rfl rfl rfl ?_
  refine S.iconst dX12_runs_10 rfl ?_
  refine S.istore_n (LL' := [_, _, _, _]) dX12_runs_11 rfl (by decide) rfl rfl rfl ?_
  exact runs_loop hP hg hvo hv hd hm (m9.toNat + 1) 0 _ (by omega) (by omega) (by omega) q5.2 q5.1
end MRN
