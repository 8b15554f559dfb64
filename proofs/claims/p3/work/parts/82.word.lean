/-! THE CLASS HOLDS A NAME AGAINST A WORD -/
/-- from h to e stands the word w -/
def wdIs (tp : List Int) (h e : Int) (w : List Int) : Prop := e - h = (w.length : Int) ∧ ∀ i : Int, 0 ≤ i → i < (w.length : Int) → aBy tp (h + i) = w.getD i.toNat 0
def wdOk (w : List Int) : Prop := w.length ≤ 100 ∧ ∀ i : Int, 0 ≤ i → i < (w.length : Int) → 0 ≤ w.getD i.toNat 0 ∧ w.getD i.toNat 0 < 128
theorem fp_wd_ok : ∀ i, i < 8 → wdOk (fp_wd i) := by
  intro i hi
  have q : ∀ i, i < 8 → (fp_wd i).length ≤ 100 ∧ ∀ v ∈ fp_wd i, 0 ≤ v ∧ v < 128 := by decide +kernel
  refine ⟨(q i hi).1, fun j j0 j1 => (q i hi).2 _ ?_⟩
  rw [List.getD_eq_getElem?_getD, List.getElem?_eq_getElem (by omega)]
  exact List.getElem_mem _
theorem bm_w {b v : Int} (h : 0 ≤ b ∧ b < 256) (hv : 0 ≤ v ∧ v < 128) : b.bmod 256 = v ↔ b = v := by
  rw [by_bm h]
  split <;> omega
section WRD
variable {l : Launch} {G : fp_WG} {M : fp_Mem} {tp : List Int}
theorem w_loop {a : Nat} {w : List Int} {h e : Int} (ht : tpOk tp) (hm : rdT M tp) (h9 : M 2 9 = h) (hh : 0 ≤ h) (he : e ≤ (tp.length : Int)) (hs : fp_St G a w) (hw : wdOk w) (hl : e - h = (w.length : Int)) : ∀ (n : Nat) (i : Int), ((w.length : Int) - i).toNat = n → 0 ≤ i → i ≤ (w.length : Int) → (∀ k : Int, 0 ≤ k → k < i → aBy tp (h + k) = w.getD k.toNat 0) →
    fp_S l G 4 kX6_isWord 28 [some (rV G 2), some (.ref a), some (iV i)] [] M (qI fun z N => ((z = 1 ∧ wdIs tp h e w) ∨ (z = 0 ∧ ¬ wdIs tp h e w)) ∧ M = N) := by
  have hO := hs.choose_spec.1
  have hn := ht.1
  have hw1 := hw.1
  intro n
  induction n with
  | zero =>
    intro i hi i0 i1 hk
    refine S.iload_n (pc' := 29) dX6_isWord_28 rfl rfl rfl ?_
    refine S.aload_n (pc' := 30) dX6_isWord_29 rfl rfl rfl ?_
    refine S.callO (pc' := 33) (Z := kJ0_length_8abf5) hO dX6_isWord_30 rfl (List.mem_of_getElem? (i := 538) (by decide +kernel)) mJ0_length_8abf5 vJ0_length_8abf5 (jd_length hs hw1) rfl (by decide) rfl (Nat.le_of_ble_eq_true rfl) ?_
    refine S.icmp_ge (tgt := 63) (pc' := 36) dX6_isWord_33 (by decide) rfl (by unfold fp_rng; omega) (by unfold fp_rng; omega) (fun _ => ?_) (fun q => absurd (by omega) q)
    refine S.iconst (pc' := 64) dX6_isWord_63 rfl ?_
    refine S.zret dX6_isWord_64 rfl (Or.inr rfl) ?_
    exact ⟨Or.inl ⟨rfl, hl, fun k k0 k1 => hk k k0 (by omega)⟩, rfl⟩
  | succ n ih =>
    intro i hi i0 i1 hk
    refine S.iload_n (pc' := 29) dX6_isWord_28 rfl rfl rfl ?_
    refine S.aload_n (pc' := 30) dX6_isWord_29 rfl rfl rfl ?_
    refine S.callO (pc' := 33) (Z := kJ0_length_8abf5) hO dX6_isWord_30 rfl (List.mem_of_getElem? (i := 538) (by decide +kernel)) mJ0_length_8abf5 vJ0_length_8abf5 (jd_length hs hw1) rfl (by decide) rfl (Nat.le_of_ble_eq_true rfl) ?_
    refine S.icmp_ge (tgt := 63) (pc' := 36) dX6_isWord_33 (by decide) rfl (by unfold fp_rng; omega) (by unfold fp_rng; omega) (fun q => absurd q (by omega)) (fun _ => ?_)
    have hb := ht.2 (h + i) (by omega) (by omega)
    have hwi := hw.2 i i0 (by omega)
    refine S.aload_n (pc' := 37) dX6_isWord_36 rfl rfl rfl ?_
    refine S.getT (t := 1) (pc' := 40) dX6_isWord_37 rfl fX6_32 L_2 rf_2_5 hm.1 ?_
    refine S.aload_n (pc' := 41) dX6_isWord_40 rfl rfl rfl ?_
    refine S.getI (pc' := 44) dX6_isWord_41 rfl fX6_76 L_2 ?_
    refine S.iload_n (pc' := 45) dX6_isWord_44 rfl rfl rfl ?_
    refine S.iadd (pc' := 46) dX6_isWord_45 rfl ?_
    rw [h9]
    refine S.bald (pc' := 47) dX6_isWord_46 rfl L_1 (by omega) (by omega) ?_
    rw [hm.2.2 (h + i) (by omega) (by omega)]
    refine S.aload_n (pc' := 48) dX6_isWord_47 rfl rfl rfl ?_
    refine S.iload_n (pc' := 49) dX6_isWord_48 rfl rfl rfl ?_
    refine S.callO (pc' := 52) (Z := kJ0_charAt_5068e) hO dX6_isWord_49 rfl (List.mem_of_getElem? (i := 548) (by decide +kernel)) mJ0_charAt_5068e vJ0_charAt_5068e (jd_charAt hs hw1 i0 (by omega) hwi) rfl (by decide) rfl (Nat.le_of_ble_eq_true rfl) ?_
    refine S.icmp_eq (tgt := 57) (pc' := 55) dX6_isWord_52 (by decide) rfl (bm_rng hb) (by unfold fp_rng; omega) (fun q => ?_) (fun q => ?_)
    · refine S.iinc (LL' := [_, _, some (iV (i + 1))]) (pc' := 60) dX6_isWord_57 rfl (by decide) rfl rfl rfl ?_
      refine S.goto (pc' := 28) dX6_isWord_60 (by decide) ?_
      refine ih (i + 1) (by omega) (by omega) (by omega) (fun k k0 k1 => ?_)
      by_cases e9 : k = i
      · subst e9; exact (bm_w hb hwi).mp q
      · exact hk k k0 (by omega)
    · refine S.iconst (pc' := 56) dX6_isWord_55 rfl ?_
      refine S.zret dX6_isWord_56 rfl (Or.inl rfl) ?_
      exact ⟨Or.inr ⟨rfl, fun x => q ((bm_w hb hwi).mpr (x.2 i i0 (by omega)))⟩, rfl⟩
theorem rk_X6_isWord {a : Nat} {w : List Int} {h e : Int} (ht : tpOk tp) (hm : rdT M tp) (hk : fp_rng (M 2 8)) (h9 : M 2 9 = h) (h7 : M 2 7 = e) (hh : 0 ≤ h) (hhe : h ≤ e) (he : e ≤ (tp.length : Int)) (hs : fp_St G a w) (hw : wdOk w) : fp_Ok l G 4 kX6_isWord [rV G 2, .ref a] M (qI fun z N => ((z = 1 ∧ (M 2 8 = 1 ∧ wdIs tp h e w)) ∨ (z = 0 ∧ ¬ (M 2 8 = 1 ∧ wdIs tp h e w))) ∧ M = N) := by
  have hO := hs.choose_spec.1
  have hn := ht.1
  have hw1 := hw.1
  refine fp_Ok.of (r := 1) rfl (Nat.le_of_ble_eq_true rfl) rfl ?_
  refine S.aload_n (pc' := 1) dX6_isWord_0 rfl rfl rfl ?_
  refine S.getI (pc' := 4) dX6_isWord_1 rfl fX6_64 L_2 ?_
  refine S.iconst (pc' := 5) dX6_isWord_4 rfl ?_
  refine S.icmp_ne (tgt := 24) (pc' := 8) dX6_isWord_5 (by decide) rfl hk (by unfold fp_rng; omega) (fun q => ?_) (fun q => ?_)
  · refine S.iconst (pc' := 25) dX6_isWord_24 rfl ?_
    refine S.zret dX6_isWord_25 rfl (Or.inl rfl) ?_
    exact ⟨Or.inr ⟨rfl, fun x => q x.1⟩, rfl⟩
  refine S.aload_n (pc' := 9) dX6_isWord_8 rfl rfl rfl ?_
  refine S.getI (pc' := 12) dX6_isWord_9 rfl fX6_40 L_2 ?_
  refine S.aload_n (pc' := 13) dX6_isWord_12 rfl rfl rfl ?_
  refine S.getI (pc' := 16) dX6_isWord_13 rfl fX6_76 L_2 ?_
  refine S.isub (pc' := 17) dX6_isWord_16 rfl ?_
  rw [h9, h7]
  refine S.aload_n (pc' := 18) dX6_isWord_17 rfl rfl rfl ?_
  refine S.callO (pc' := 21) (Z := kJ0_length_8abf5) hO dX6_isWord_18 rfl (List.mem_of_getElem? (i := 538) (by decide +kernel)) mJ0_length_8abf5 vJ0_length_8abf5 (jd_length hs hw1) rfl (by decide) rfl (Nat.le_of_ble_eq_true rfl) ?_
  refine S.icmp_eq (tgt := 26) (pc' := 24) dX6_isWord_21 (by decide) rfl (by unfold fp_rng; omega) (by unfold fp_rng; omega) (fun q2 => ?_) (fun q2 => ?_)
  · refine S.iconst (pc' := 27) dX6_isWord_26 rfl ?_
    refine S.istore_n (LL' := [_, _, some (iV 0)]) (pc' := 28) dX6_isWord_27 rfl (by decide) rfl rfl rfl ?_
    refine (w_loop ht hm h9 hh he hs hw q2 _ 0 rfl (by omega) (by omega) (fun k k0 k1 => absurd k1 (by omega))).wI (fun z N x => ⟨?_, x.2⟩)
    rcases x.1 with x | x
    · exact Or.inl ⟨x.1, q, x.2⟩
    · exact Or.inr ⟨x.1, fun y => x.2 y.2⟩
  · refine S.iconst (pc' := 25) dX6_isWord_24 rfl ?_
    refine S.zret dX6_isWord_25 rfl (Or.inl rfl) ?_
    exact ⟨Or.inr ⟨rfl, fun x => q2 x.2.1⟩, rfl⟩
end WRD
