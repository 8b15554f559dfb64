/-! BEHIND ALL: are the THINGS and LINES there; the class -/
def stOk (D : pD) : Prop := (∀ x t, 0 ≤ x → x < 3 → t ∈ D.2.2.1 x → t < D.1.1) ∧ ∀ v ∈ D.2.2.2.2.2, (v.2.2.2 = -4 ∨ v.2.2.2 < D.1.1) ∧ v.2.2.1 < D.1.2.1
def seF (M N : fp_Mem) : Prop := (∀ a, a ≠ 2 → a ≠ 8 → a ≠ 9 → N a = M a) ∧ ∀ j, j ≠ 3 → j ≠ 4 → N 2 j = M 2 j
theorem seF.refl (M : fp_Mem) : seF M M := ⟨fun _ _ _ _ => rfl, fun _ _ _ => rfl⟩
section SET
variable {l : Launch} {G : fp_WG} {M N : fp_Mem} {tp : List Int} {D : pD}
theorem seF.refuse {w x : Int} (h : seF M N) : seF M (fp_up (fp_up N 2 3 w) 2 4 x) := by
  refine ⟨fun a q2 q8 q9 => by rw [fp_up_ne q2, fp_up_ne q2]; exact h.1 a q2 q8 q9, fun j q3 q4 => ?_⟩
  rw [fp_up_at, fp_upf_ne q4, fp_up_at, fp_upf_ne q3]
  exact h.2 j q3 q4
theorem seF.set {t v w : Int} (h : seF M N) : seF M (fp_up (fp_up N 9 t.toNat v) 8 t.toNat w) := ⟨fun a q2 q8 q9 => by rw [fp_up_ne q8, fp_up_ne q9]; exact h.1 a q2 q8 q9, fun j q3 q4 => by rw [fp_up_ne (by decide), fp_up_ne (by decide)]; exact h.2 j q3 q4⟩
theorem rk_X6_settleThing {t x n : Int} (ht : 0 ≤ t ∧ t < 10) (hx : 0 ≤ x ∧ x < 3) (h0 : M 3 0 = n) (hn : 0 ≤ n ∧ n ≤ 10) : fp_Ok l G 1 kX6_settleThing [rV G 2, iV t, iV x] M (qV fun N => (t < n ∧ N = fp_up (fp_up M 9 t.toNat (M 8 t.toNat)) 8 t.toNat (10 + x)) ∨ (¬ t < n ∧ N = fp_up (fp_up M 2 3 6) 2 4 (M 2 6))) := by
  refine fp_Ok.of (r := 0) rfl (Nat.le_of_ble_eq_true rfl) rfl ?_
  have hok := (ok_X1_hasThing (l := l) (G := G) (M := M) (t := t) gd3 (by unfold fp_rng; omega) (by rw [h0]; unfold fp_rng; omega))
  rw [h0] at hok
  by_cases hc : t < n
  · rw [if_pos (by omega)] at hok
    refine S.aload_n (pc' := 1) dX6_settleThing_0 rfl rfl rfl ?_
    refine S.getR (pc' := 4) dX6_settleThing_1 rfl fX6_12 L_2 rf_2_0 ?_
    refine S.iload_n (pc' := 5) dX6_settleThing_4 rfl rfl rfl ?_
    refine S.callVe (pc' := 8) dX6_settleThing_5 rfl cX6_190 hok rfl (gd_lay gd3) (by decide) rfl (Nat.le_of_ble_eq_true rfl) ?_
    refine S.if_ne (pc' := 11) (tgt := 23) dX6_settleThing_8 (by decide) rfl (by unfold fp_rng; omega) (fun h8 => ?_) (fun h8 => ?_)
    · refine S.aload_n (pc' := 24) dX6_settleThing_23 rfl rfl rfl ?_
      refine S.getR (pc' := 27) dX6_settleThing_24 rfl fX6_21 L_2 rf_2_1 ?_
      refine S.getR (pc' := 30) dX6_settleThing_27 rfl fX6_199 (pl_lay pl7) (pl_r1 pl7) ?_
      refine S.iload_n (pc' := 31) dX6_settleThing_30 rfl rfl rfl ?_
      refine S.aload_n (pc' := 32) dX6_settleThing_31 rfl rfl rfl ?_
      refine S.getR (pc' := 35) dX6_settleThing_32 rfl fX6_21 L_2 rf_2_1 ?_
      refine S.getR (pc' := 38) dX6_settleThing_35 rfl fX6_135 (pl_lay pl7) (pl_r0 pl7) ?_
      refine S.iload_n (pc' := 39) dX6_settleThing_38 rfl rfl rfl ?_
      refine S.iald (pc' := 40) dX6_settleThing_39 rfl (pl_a0 pl7) (by omega) (by omega) ?_
      refine S.iast (pc' := 41) dX6_settleThing_40 rfl (pl_a1 pl7) (by omega) (by omega) ?_
      refine S.aload_n (pc' := 42) dX6_settleThing_41 rfl rfl rfl ?_
      refine S.getR (pc' := 45) dX6_settleThing_42 rfl fX6_21 L_2 rf_2_1 ?_
      refine S.getR (pc' := 48) dX6_settleThing_45 rfl fX6_135 (pl_lay pl7) (pl_r0 pl7) ?_
      refine S.iload_n (pc' := 49) dX6_settleThing_48 rfl rfl rfl ?_
      refine S.bipush (pc' := 51) dX6_settleThing_49 rfl (by decide) ?_
      refine S.iload_n (pc' := 52) dX6_settleThing_51 rfl rfl rfl ?_
      refine S.iadd (pc' := 53) dX6_settleThing_52 rfl ?_
      refine S.iast (pc' := 54) dX6_settleThing_53 rfl (pl_a0 pl7) (by omega) (by omega) ?_
      refine S.vret dX6_settleThing_54 rfl ?_
      exact Or.inl ⟨hc, rfl⟩
    · exact absurd h8 (by decide)
  · rw [if_neg (by omega)] at hok
    refine S.aload_n (pc' := 1) dX6_settleThing_0 rfl rfl rfl ?_
    refine S.getR (pc' := 4) dX6_settleThing_1 rfl fX6_12 L_2 rf_2_0 ?_
    refine S.iload_n (pc' := 5) dX6_settleThing_4 rfl rfl rfl ?_
    refine S.callVe (pc' := 8) dX6_settleThing_5 rfl cX6_190 hok rfl (gd_lay gd3) (by decide) rfl (Nat.le_of_ble_eq_true rfl) ?_
    refine S.if_ne (pc' := 11) (tgt := 23) dX6_settleThing_8 (by decide) rfl (by unfold fp_rng; omega) (fun h8 => ?_) (fun h8 => ?_)
    · exact absurd rfl h8
    · refine S.aload_n (pc' := 12) dX6_settleThing_11 rfl rfl rfl ?_
      refine S.bipush (pc' := 14) dX6_settleThing_12 rfl (by decide) ?_
      refine S.aload_n (pc' := 15) dX6_settleThing_14 rfl rfl rfl ?_
      refine S.getI (pc' := 18) dX6_settleThing_15 rfl fX6_36 L_2 ?_
      refine S.callVe (pc' := 21) dX6_settleThing_18 rfl cX6_89 ok_X6_refuse rfl L_2 (by decide) rfl (Nat.le_of_ble_eq_true rfl) ?_
      refine S.pop (pc' := 22) dX6_settleThing_21 rfl rfl ?_
      refine S.vret dX6_settleThing_22 rfl ?_
      exact Or.inr ⟨hc, rfl⟩
/-- rows in which the first i of LINE x, and all of those before it, are settled -/
def seR (D : pD) (M N : fp_Mem) (x i : Int) : Prop := (∀ y t, 0 ≤ y → y < x → t ∈ D.2.2.1 y → t < D.1.1 ∧ N 8 t.toNat = 10 + y ∧ N 9 t.toNat = D.2.1 t) ∧ (∀ t ∈ (D.2.2.1 x).take i.toNat, t < D.1.1 ∧ N 8 t.toNat = 10 + x ∧ N 9 t.toNat = D.2.1 t) ∧ ∀ t : Int, 0 ≤ t → t < 10 → (∀ y, 0 ≤ y → y < x → t ∉ D.2.2.1 y) → t ∉ (D.2.2.1 x).take i.toNat → N 8 t.toNat = M 8 t.toNat ∧ N 9 t.toNat = -4
def seI (tp : List Int) (D : pD) (M N : fp_Mem) (x i : Int) : Prop := seF M N ∧ ((N 2 3 = 0 ∧ seR D M N x i) ∨ ((∃ y t, (0 ≤ y ∧ y < 3) ∧ t ∈ D.2.2.1 y ∧ ¬ t < D.1.1) ∧ flt N (tp.length : Int)))
theorem take_mem {L : List Int} {i : Nat} {t : Int} (h : i < L.length) : t ∈ L.take (i + 1) ↔ (t ∈ L.take i ∨ t = L.getD i 0) := by
  rw [List.take_add_one, List.mem_append, List.getElem?_eq_getElem h, List.getD_eq_getElem?_getD, List.getElem?_eq_getElem h]
  show (t ∈ L.take i ∨ t ∈ [L[i]]) ↔ (t ∈ L.take i ∨ t = L[i])
  rw [List.mem_singleton]
theorem take_not {L : List Int} {i : Nat} (hn : L.Nodup) (h : i < L.length) : L.getD i 0 ∉ L.take i := by
  intro hm
  rw [List.getD_eq_getElem?_getD, List.getElem?_eq_getElem h] at hm
  have hm : L[i] ∈ L.take i := hm
  obtain ⟨j, hj, e⟩ := List.getElem_of_mem hm
  rw [List.length_take] at hj
  have hj2 : j < L.length := by omega
  rw [List.getElem_take] at e
  exact (List.pairwise_iff_getElem.mp hn j i hj2 h (by omega)) e
theorem seI_next {x : Int} (hx : 0 ≤ x) (h : seI tp D M N x ((D.2.2.1 x).length : Int)) : seI tp D M N (x + 1) 0 := by
  obtain ⟨hf, hc⟩ := h
  refine ⟨hf, ?_⟩
  rcases hc with ⟨c1, r1, r2, r3⟩ | hc
  · rw [Int.toNat_natCast, List.take_length] at r2 r3
    refine Or.inl ⟨c1, fun y t y0 y1 hy => ?_, fun t ht => ?_, fun t t0 t1 hn1 hn2 => ?_⟩
    · by_cases e : y = x
      · subst e; exact r2 t hy
      · exact r1 y t y0 (by omega) hy
    · simp at ht
    · exact r3 t t0 t1 (fun y y0 y1 => hn1 y y0 (by omega)) (hn1 x hx (by omega))
  · exact Or.inr hc
theorem seI_step {x i : Int} {O : fp_Mem} (hd : rdD M D) (hD : dOk D) (hx : 0 ≤ x ∧ x < 3) (hi : 0 ≤ i) (hl : i < ((D.2.2.1 x).length : Int)) (h : seI tp D M N x i) (h6 : N 2 6 = (tp.length : Int))
    (q : ((D.2.2.1 x).getD i.toNat 0 < D.1.1 ∧ O = fp_up (fp_up N 9 ((D.2.2.1 x).getD i.toNat 0).toNat (N 8 ((D.2.2.1 x).getD i.toNat 0).toNat)) 8 ((D.2.2.1 x).getD i.toNat 0).toNat (10 + x)) ∨ (¬ (D.2.2.1 x).getD i.toNat 0 < D.1.1 ∧ O = fp_up (fp_up N 2 3 6) 2 4 (N 2 6))) : seI tp D M O x (i + 1) := by
  have hlt : i.toNat < (D.2.2.1 x).length := by omega
  have hmem : (D.2.2.1 x).getD i.toNat 0 ∈ D.2.2.1 x := by
    rw [List.getD_eq_getElem?_getD, List.getElem?_eq_getElem hlt]
    exact List.getElem_mem _
  have hnt := take_not (hD.2.2.1 x hx.1 hx.2).2.1 hlt
  have htk : ∀ t, t ∈ (D.2.2.1 x).take (i + 1).toNat ↔ (t ∈ (D.2.2.1 x).take i.toNat ∨ t = (D.2.2.1 x).getD i.toNat 0) := by
    intro t
    rw [show (i + 1).toNat = i.toNat + 1 by omega]
    exact take_mem hlt
  have hrg := ((hD.2.2.1 x hx.1 hx.2).2.2.2 _ hmem).1
  have hby : ∀ y, 0 ≤ y → y < x → (D.2.2.1 x).getD i.toNat 0 ∉ D.2.2.1 y := fun y y0 y1 hy => hD.2.2.2.1 y x _ y0 (by omega) hx.1 hx.2 (by omega) hy hmem
  generalize he : (D.2.2.1 x).getD i.toNat 0 = t0 at *
  obtain ⟨hf, hc⟩ := h
  rcases q with ⟨q1, rfl⟩ | ⟨q1, rfl⟩
  · refine ⟨hf.set, ?_⟩
    rcases hc with ⟨c1, r1, r2, r3⟩ | ⟨c1, c2⟩
    · refine Or.inl ⟨c1, fun y t y0 y1 hy => ?_, fun t htt => ?_, fun t t0' t1' hn1 hn2 => ?_⟩
      · have hne : t ≠ t0 := fun e => hby y y0 y1 (e ▸ hy)
        have ht := ((hD.2.2.1 y y0 (by omega)).2.2.2 t hy).1
        obtain ⟨k1, k2, k3⟩ := r1 y t y0 y1 hy
        rw [fp_up_at, fp_upf_ne (by omega), fp_up_ne (by decide), fp_up_ne (by decide), fp_up_at, fp_upf_ne (by omega)]
        exact ⟨k1, k2, k3⟩
      · rcases (htk t).mp htt with ht | ht
        · have hne : t ≠ t0 := fun e => hnt (e ▸ ht)
          have hmt := ((hD.2.2.1 x hx.1 hx.2).2.2.2 t (List.mem_of_mem_take ht)).1
          obtain ⟨k1, k2, k3⟩ := r2 t ht
          rw [fp_up_at, fp_upf_ne (by omega), fp_up_ne (by decide), fp_up_ne (by decide), fp_up_at, fp_upf_ne (by omega)]
          exact ⟨k1, k2, k3⟩
        · subst ht
          obtain ⟨k1, k2⟩ := r3 t hrg.1 hrg.2 hby hnt
          rw [fp_up_at, fp_upf_at, fp_up_ne (by decide), fp_up_at, fp_upf_at, k1]
          exact ⟨q1, rfl, hd.2.1.1 t hrg.1 q1⟩
      · have hn3 : t ∉ (D.2.2.1 x).take i.toNat := fun z => hn2 ((htk t).mpr (Or.inl z))
        have hne : t ≠ t0 := fun z => hn2 ((htk t).mpr (Or.inr z))
        rw [fp_up_at, fp_upf_ne (by omega), fp_up_ne (by decide), fp_up_ne (by decide), fp_up_at, fp_upf_ne (by omega)]
        exact r3 t t0' t1' hn1 hn3
    · exact Or.inr ⟨c1, c2⟩
  · exact ⟨hf.refuse, Or.inr ⟨⟨x, t0, hx, hmem, q1⟩, by rw [h6]; exact flt_refuse (by omega)⟩⟩
theorem se_in {Q : fp_Q} {x : Int} (hm : rdT M tp) (hd : rdD M D) (hD : dOk D) (hx : 0 ≤ x ∧ x < 3) (hxl : x < D.1.2.1) (K : ∀ N : fp_Mem, seI tp D M N x ((D.2.2.1 x).length : Int) → fp_S l G 2 kX6_settle 53 [some (rV G 2), some (iV x), some (iV ((D.2.2.1 x).length : Int))] [] N Q) : ∀ (k : Nat) (i : Int) (N : fp_Mem), (((D.2.2.1 x).length : Int) - i).toNat = k → 0 ≤ i → i ≤ ((D.2.2.1 x).length : Int) → seI tp D M N x i →
    fp_S l G 2 kX6_settle 15 [some (rV G 2), some (iV x), some (iV i)] [] N Q := by
  obtain ⟨p4, p5⟩ := hd.2.1.2.2.2 x hx.1 hx.2
  have hl8 := (hD.2.2.1 x hx.1 hx.2).1
  have hg1 := hD.1.1
  intro k
  induction k with
  | zero =>
    intro i N hk i0 i1 hI
    have : i = ((D.2.2.1 x).length : Int) := by omega
    subst this
    have e10 : N 10 x.toNat = ((D.2.2.1 x).length : Int) := by rw [hI.1.1 10 (by decide) (by decide) (by decide)]; exact p4
    refine S.iload_n (pc' := 16) dX6_settle_15 rfl rfl rfl ?_
    refine S.aload_n (pc' := 17) dX6_settle_16 rfl rfl rfl ?_
    refine S.getR (pc' := 20) dX6_settle_17 rfl fX6_21 L_2 rf_2_1 ?_
    refine S.getR (pc' := 23) dX6_settle_20 rfl fX6_166 (pl_lay pl7) (pl_r2 pl7) ?_
    refine S.iload_n (pc' := 24) dX6_settle_23 rfl rfl rfl ?_
    refine S.iald (pc' := 25) dX6_settle_24 rfl (pl_a2 pl7) (by omega) (by omega) ?_
    rw [e10]
    refine S.icmp_ge (pc' := 28) (tgt := 53) dX6_settle_25 (by decide) rfl (by unfold fp_rng; omega) (by unfold fp_rng; omega) (fun h25 => ?_) (fun h25 => ?_)
    · exact K N hI
    · exfalso; omega
  | succ k ih =>
    intro i N hk i0 i1 hI
    have e10 : N 10 x.toNat = ((D.2.2.1 x).length : Int) := by rw [hI.1.1 10 (by decide) (by decide) (by decide)]; exact p4
    have e11 : N 11 (x * 8 + i).toNat = (D.2.2.1 x).getD i.toNat 0 := by rw [hI.1.1 11 (by decide) (by decide) (by decide)]; exact p5 i i0 (by omega)
    have e30 : N 3 0 = D.1.1 := by rw [hI.1.1 3 (by decide) (by decide) (by decide)]; exact hd.1.1
    have hmem : (D.2.2.1 x).getD i.toNat 0 ∈ D.2.2.1 x := by
      rw [List.getD_eq_getElem?_getD, List.getElem?_eq_getElem (by omega)]
      exact List.getElem_mem _
    have hrg := ((hD.2.2.1 x hx.1 hx.2).2.2.2 _ hmem).1
    refine S.iload_n (pc' := 16) dX6_settle_15 rfl rfl rfl ?_
    refine S.aload_n (pc' := 17) dX6_settle_16 rfl rfl rfl ?_
    refine S.getR (pc' := 20) dX6_settle_17 rfl fX6_21 L_2 rf_2_1 ?_
    refine S.getR (pc' := 23) dX6_settle_20 rfl fX6_166 (pl_lay pl7) (pl_r2 pl7) ?_
    refine S.iload_n (pc' := 24) dX6_settle_23 rfl rfl rfl ?_
    refine S.iald (pc' := 25) dX6_settle_24 rfl (pl_a2 pl7) (by omega) (by omega) ?_
    rw [e10]
    refine S.icmp_ge (pc' := 28) (tgt := 53) dX6_settle_25 (by decide) rfl (by unfold fp_rng; omega) (by unfold fp_rng; omega) (fun h25 => ?_) (fun h25 => ?_)
    · exfalso; omega
    · refine S.aload_n (pc' := 29) dX6_settle_28 rfl rfl rfl ?_
      refine S.aload_n (pc' := 30) dX6_settle_29 rfl rfl rfl ?_
      refine S.getR (pc' := 33) dX6_settle_30 rfl fX6_21 L_2 rf_2_1 ?_
      refine S.getR (pc' := 36) dX6_settle_33 rfl fX6_168 (pl_lay pl7) (pl_r3 pl7) ?_
      refine S.iload_n (pc' := 37) dX6_settle_36 rfl rfl rfl ?_
      refine S.bipush (pc' := 39) dX6_settle_37 rfl (by decide) ?_
      refine S.imul (pc' := 40) dX6_settle_39 rfl ?_
      refine S.iload_n (pc' := 41) dX6_settle_40 rfl rfl rfl ?_
      refine S.iadd (pc' := 42) dX6_settle_41 rfl ?_
      refine S.iald (pc' := 43) dX6_settle_42 rfl (pl_a3 pl7) (by omega) (by omega) ?_
      rw [e11]
      refine S.iload_n (pc' := 44) dX6_settle_43 rfl rfl rfl ?_
      refine S.callVv (pc' := 47) dX6_settle_44 rfl cX6_180 (rk_X6_settleThing hrg hx e30 hg1) rfl L_2 (by decide) rfl (Nat.le_of_ble_eq_true rfl) (fun M44 q44 => ?_)
      refine S.iinc (pc' := 50) (LL' := [_, _, _]) dX6_settle_47 rfl (by decide) rfl rfl rfl ?_
      refine S.goto (pc' := 15) dX6_settle_50 (by decide) ?_
      exact ih (i + 1) _ (by omega) (by omega) (by omega) (seI_step hd hD hx i0 (by omega) hI (by rw [hI.1.2 6 (by decide) (by decide)]; exact hm.2.1) q44)
theorem se_53 {Q : fp_Q} {x : Int} {o : Option Value} (K : fp_S l G 2 kX6_settle 2 [some (rV G 2), some (iV (x + 1)), o] [] N Q) : fp_S l G 2 kX6_settle 53 [some (rV G 2), some (iV x), o] [] N Q := by
  refine S.iinc (pc' := 56) (LL' := [_, _, _]) dX6_settle_53 rfl (by decide) rfl rfl rfl ?_
  refine S.goto (pc' := 2) dX6_settle_56 (by decide) ?_
  exact K
theorem se_out {Q : fp_Q} (hm : rdT M tp) (hd : rdD M D) (hD : dOk D) (K : ∀ (N : fp_Mem) (o : Option Value), seI tp D M N D.1.2.1 0 → fp_S l G 2 kX6_settle 59 [some (rV G 2), some (iV D.1.2.1), o] [] N Q) : ∀ (k : Nat) (x : Int) (N : fp_Mem) (o : Option Value), (D.1.2.1 - x).toNat = k → 0 ≤ x → x ≤ D.1.2.1 → seI tp D M N x 0 →
    fp_S l G 2 kX6_settle 2 [some (rV G 2), some (iV x), o] [] N Q := by
  have hg2 := hD.1.2.1
  intro k
  induction k with
  | zero =>
    intro x N o hk x0 x1 hI
    have : x = D.1.2.1 := by omega
    subst this
    have e31 : N 3 1 = D.1.2.1 := by rw [hI.1.1 3 (by decide) (by decide) (by decide)]; exact hd.1.2.1
    refine S.iload_n (pc' := 3) dX6_settle_2 rfl rfl rfl ?_
    refine S.aload_n (pc' := 4) dX6_settle_3 rfl rfl rfl ?_
    refine S.getR (pc' := 7) dX6_settle_4 rfl fX6_12 L_2 rf_2_0 ?_
    refine S.getI (pc' := 10) dX6_settle_7 rfl fX6_154 (gd_lay gd3) ?_
    rw [e31]
    refine S.icmp_ge (pc' := 13) (tgt := 59) dX6_settle_10 (by decide) rfl (by unfold fp_rng; omega) (by unfold fp_rng; omega) (fun h10 => ?_) (fun h10 => ?_)
    · exact K N _ hI
    · exfalso; omega
  | succ k ih =>
    intro x N o hk x0 x1 hI
    have e31 : N 3 1 = D.1.2.1 := by rw [hI.1.1 3 (by decide) (by decide) (by decide)]; exact hd.1.2.1
    refine S.iload_n (pc' := 3) dX6_settle_2 rfl rfl rfl ?_
    refine S.aload_n (pc' := 4) dX6_settle_3 rfl rfl rfl ?_
    refine S.getR (pc' := 7) dX6_settle_4 rfl fX6_12 L_2 rf_2_0 ?_
    refine S.getI (pc' := 10) dX6_settle_7 rfl fX6_154 (gd_lay gd3) ?_
    rw [e31]
    refine S.icmp_ge (pc' := 13) (tgt := 59) dX6_settle_10 (by decide) rfl (by unfold fp_rng; omega) (by unfold fp_rng; omega) (fun h10 => ?_) (fun h10 => ?_)
    · exfalso; omega
    · refine S.iconst (pc' := 14) dX6_settle_13 rfl ?_
      refine S.istore_n (pc' := 15) (LL' := [_, _, _]) dX6_settle_14 rfl (by decide) rfl rfl rfl ?_
      exact se_in hm hd hD (by omega) (by omega) (fun O hO => se_53 (ih (x + 1) O _ (by omega) (by omega) (by omega) (seI_next x0 hO))) _ 0 _ rfl (by omega) (by omega) hI
end SET
