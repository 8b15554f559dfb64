-- joined by tools/merge.py: 98.text, 99.bank, 99a.mtok, 99b.mstep, 99c.mname, 99d.mnum, 99e.mdata, 99f.mvisit, 99g.mvisit, 99h.mthing
section
/-! A TEXT, whole: the class; bank -/
section TX3
variable {l : Launch} {G : fp_WG} {M N : fp_Mem} {tp : List Int} {D : pD} {k : Nat}
theorem rk_X1_clear (hk : fp_isgd k) : fp_Ok l G 0 kX1_clear [rV G k] M (qW (fp_up (fp_up (fp_up M k 0 0) k 1 0) k 2 10)) := by
  refine fp_Ok.of (r := 0) rfl (Nat.le_of_ble_eq_true rfl) rfl ?_
  refine S.aload_n (pc' := 1) dX1_clear_0 rfl rfl rfl ?_
  refine S.iconst (pc' := 2) dX1_clear_1 rfl ?_
  refine S.putI (pc' := 5) dX1_clear_2 rfl fX1_25 (gd_lay hk) ?_
  refine S.aload_n (pc' := 6) dX1_clear_5 rfl rfl rfl ?_
  refine S.iconst (pc' := 7) dX1_clear_6 rfl ?_
  refine S.putI (pc' := 10) dX1_clear_7 rfl fX1_28 (gd_lay hk) ?_
  refine S.aload_n (pc' := 11) dX1_clear_10 rfl rfl rfl ?_
  refine S.bipush (pc' := 13) dX1_clear_11 rfl (by decide) ?_
  refine S.putI (pc' := 16) dX1_clear_13 rfl fX1_9 (gd_lay hk) ?_
  refine S.vret dX1_clear_16 rfl ?_
  rfl
theorem rk_X5_clear : fp_Ok l G 1 kX5_clear [rV G 7] M (qV fun N => (∀ a, (a < 8 ∨ 10 < a) → N a = M a) ∧ (∀ t : Int, 0 ≤ t → t < 10 → N 8 t.toNat = -4 ∧ N 9 t.toNat = -4) ∧ ∀ x : Int, 0 ≤ x → x < 3 → N 10 x.toNat = 0) := by
  refine (ok_X5_clear pl7).toV ⟨fun a ha => ?_, fun t t0 t1 => ?_, fun x x0 x1 => ?_⟩
  · unfold fp_spl
    by_cases e : a = 11
    · subst e; simp
    · rw [if_neg (by omega), if_neg (by omega), if_neg (by omega), if_neg (by omega)]
  · unfold fp_spl
    simp
    omega
  · unfold fp_spl
    simp
    omega
theorem se_cl (hd : rdD M D) (hD : dOk D) (hs : stOk D) (hi : rdI M) (hf : seF M N) (hr : seR D M N D.1.2.1 0) : clIs N 7 D.1 (pPg D) := by
  have hg1 := hD.1.1
  have hg2 := hD.1.2.1
  obtain ⟨p1, p2, p3, p4⟩ := hd.2.1
  obtain ⟨r1, r2, r3⟩ := hr
  have hin : ∀ y t, 0 ≤ y → y < 3 → t ∈ D.2.2.1 y → N 8 t.toNat = 10 + y ∧ N 9 t.toNat = D.2.1 t := by
    intro y t y0 y1 ht
    by_cases e : y < D.1.2.1
    · exact (r1 y t y0 e ht).2
    · rw [(hD.2.2.1 y y0 y1).2.2.1 (by omega)] at ht
      exact (List.not_mem_nil ht).elim
  have hout : ∀ t : Int, 0 ≤ t → t < 10 → t ∉ D.2.2.1 0 → t ∉ D.2.2.1 1 → t ∉ D.2.2.1 2 → N 8 t.toNat = M 8 t.toNat ∧ N 9 t.toNat = -4 := by
    intro t t0 t1 n0 n1 n2
    refine r3 t t0 t1 (fun y y0 y1 => ?_) (by simp)
    rcases (show y = 0 ∨ y = 1 ∨ y = 2 by omega) with rfl | rfl | rfl
    · exact n0
    · exact n1
    · exact n2
  have h8 : ∀ t : Int, 0 ≤ t → t < D.1.1 → N 8 t.toNat = (pPg D).1 t ∧ N 9 t.toNat = if (pPg D).1 t < 10 then -4 else D.2.1 t := by
    intro t t0 t1
    show N 8 t.toNat = (if t ∈ D.2.2.1 0 then 10 else if t ∈ D.2.2.1 1 then 11 else if t ∈ D.2.2.1 2 then 12 else D.2.1 t) ∧ N 9 t.toNat = if (if t ∈ D.2.2.1 0 then (10 : Int) else if t ∈ D.2.2.1 1 then 11 else if t ∈ D.2.2.1 2 then 12 else D.2.1 t) < 10 then -4 else D.2.1 t
    by_cases n0 : t ∈ D.2.2.1 0
    · rw [if_pos n0, if_neg (by omega)]
      exact hin 0 t (by omega) (by omega) n0
    · rw [if_neg n0]
      by_cases n1 : t ∈ D.2.2.1 1
      · rw [if_pos n1, if_neg (by omega)]
        exact hin 1 t (by omega) (by omega) n1
      · rw [if_neg n1]
        by_cases n2 : t ∈ D.2.2.1 2
        · rw [if_pos n2, if_neg (by omega)]
          exact hin 2 t (by omega) (by omega) n2
        · rw [if_neg n2]
          have hw := hD.2.1 t t0 t1
          rw [if_pos (by omega)]
          obtain ⟨o1, o2⟩ := hout t t0 (by omega) n0 n1 n2
          exact ⟨by rw [o1]; exact p1 t t0 t1, o2⟩
  have h9 : ∀ t : Int, D.1.1 ≤ t → t < 10 → N 8 t.toNat = -4 := by
    intro t t0 t1
    have hn : ∀ x, 0 ≤ x → x < 3 → t ∉ D.2.2.1 x := fun x x0 x1 hx => by have := hs.1 x t x0 x1 hx; omega
    rw [(hout t (by omega) t1 (hn 0 (by omega) (by omega)) (hn 1 (by omega) (by omega)) (hn 2 (by omega) (by omega))).1]
    exact p2 t t0 t1
  have h1011 : N 10 = M 10 ∧ N 11 = M 11 := ⟨hf.1 10 (by decide) (by decide) (by decide), hf.1 11 (by decide) (by decide) (by decide)⟩
  have hpg : ∀ t : Int, 0 ≤ t → t < D.1.1 → 0 ≤ (pPg D).1 t ∧ (pPg D).1 t ≤ 12 := by
    intro t t0 t1
    have hw := hD.2.1 t t0 t1
    show 0 ≤ (if t ∈ D.2.2.1 0 then (10 : Int) else if t ∈ D.2.2.1 1 then 11 else if t ∈ D.2.2.1 2 then 12 else D.2.1 t) ∧ (if t ∈ D.2.2.1 0 then (10 : Int) else if t ∈ D.2.2.1 1 then 11 else if t ∈ D.2.2.1 2 then 12 else D.2.1 t) ≤ 12
    repeat' split
    all_goals omega
  refine ⟨fun t t0 t1 => (h8 t t0 t1).1, h9, fun t t0 t1 => (h8 t t0 t1).2, fun x x0 x1 => ?_, fun t t0 t1 => ?_, fun x x0 x1 => ?_, fun i i0 i1 => ?_⟩
  · show N 10 x.toNat = _ ∧ ∀ i : Int, 0 ≤ i → i < _ → N 11 (x * 8 + i).toNat = _
    rw [h1011.1, h1011.2]
    exact p4 x x0 x1
  · show -4 ≤ N 8 t.toNat ∧ N 8 t.toNat ≤ 12
    by_cases e : t < D.1.1
    · have := (h8 t t0 e).1
      have := hpg t t0 e
      omega
    · rw [h9 t (by omega) t1]; decide
  · show 0 ≤ N 10 x.toNat ∧ N 10 x.toNat ≤ 8
    rw [h1011.1, (p4 x x0 x1).1]
    have := (hD.2.2.1 x x0 x1).1
    omega
  · show 0 ≤ N 11 i.toNat ∧ N 11 i.toNat ≤ 9
    rw [h1011.2]
    exact hi.2.2.2.2.2 i i0 i1
theorem rt_gd (hd : rdD M D) (hD : dOk D) (hi : rdI M) (hf : seF M N) : gdIs N 3 D.1 := by
  have hd1 := hd.1
  have hi2 : rdI N := hi.kept (hf.1 4 (by decide) (by decide) (by decide)) (hf.1 5 (by decide) (by decide) (by decide)) (hf.1 6 (by decide) (by decide) (by decide)) (hf.1 11 (by decide) (by decide) (by decide))
  refine se_gd ?_ hi2 hD.1
  unfold rdG at *
  rw [hf.1 3 (by decide) (by decide) (by decide), hf.1 4 (by decide) (by decide) (by decide), hf.1 5 (by decide) (by decide) (by decide), hf.1 6 (by decide) (by decide) (by decide)]
  exact hd1
theorem rt_end {z : Int} {o : Option Value} (ht : tpOk tp) (h : txP tp M N (pText tp (tp.length + 1) 0 0 pD0) z) : fp_S l G 8 kX6_readText 99 [some (rV G 2), some (rV G 1), some (iV (tp.length : Int)), some (iV z), o] [] N (qI fun z N => rtP tp M N z) := by
  obtain ⟨f1, f2, f3, f4⟩ := h
  rcases f4 with ⟨h, e1, e2⟩ | ⟨q, e1, e2, e3, e4, e5⟩
  · have e23 := e2.1
    refine S.aload_n (pc' := 100) dX6_readText_99 rfl rfl rfl ?_
    refine S.getI (pc' := 103) dX6_readText_100 rfl fX6_43 L_2 ?_
    refine S.if_ne (pc' := 106) (tgt := 110) dX6_readText_103 (by decide) rfl (by unfold fp_rng; omega) (fun h103 => ?_) (fun h103 => ?_)
    · refine S.iload_n (pc' := 111) dX6_readText_110 rfl rfl rfl ?_
      refine S.iret dX6_readText_111 rfl ?_
      exact ⟨f1, f3, Or.inl ⟨h, e1, e2⟩⟩
    · exfalso; omega
  · subst e2
    refine S.aload_n (pc' := 100) dX6_readText_99 rfl rfl rfl ?_
    refine S.getI (pc' := 103) dX6_readText_100 rfl fX6_43 L_2 ?_
    refine S.if_ne (pc' := 106) (tgt := 110) dX6_readText_103 (by decide) rfl (by rw [e3]; exact fp_rng0) (fun h103 => ?_) (fun h103 => ?_)
    · refine S.iload_n (pc' := 111) dX6_readText_110 rfl rfl rfl ?_
      refine S.iret dX6_readText_111 rfl ?_
      first
      | exact absurd e3 h103
      | (obtain ⟨s1, s2⟩ := q107
         refine ⟨f1.trans (fun a ha => s1.1 a (by omega) (by omega) (by omega)), f3.kept (s1.1 4 (by decide) (by decide) (by decide)) (s1.1 5 (by decide) (by decide) (by decide)) (s1.1 6 (by decide) (by decide) (by decide)) (s1.1 11 (by decide) (by decide) (by decide)), Or.inr ⟨q, e1, rfl, e5, ?_⟩⟩
         rcases s2 with s2 | s2
         · exact Or.inl ⟨s2.1, s2.2.1, rt_gd e4 e5 f3 s1, se_cl e4 e5 s2.1 f3 s1 s2.2.2, e4.2.2.1.kept (fun a q1 q2 => s1.1 a (by omega) (by omega) (by omega))⟩
         · exact Or.inr s2)
    · refine S.aload_n (pc' := 107) dX6_readText_106 rfl rfl rfl ?_
      refine S.callVv (pc' := 110) dX6_readText_107 rfl cX6_70 (rk_X6_settle f2 e3 e4 e5) rfl L_2 (by decide) rfl (Nat.le_of_ble_eq_true rfl) (fun M107 q107 => ?_)
      refine S.iload_n (pc' := 111) dX6_readText_110 rfl rfl rfl ?_
      refine S.iret dX6_readText_111 rfl ?_
      first
      | exact absurd e3 h103
      | (obtain ⟨s1, s2⟩ := q107
         refine ⟨f1.trans (fun a ha => s1.1 a (by omega) (by omega) (by omega)), f3.kept (s1.1 4 (by decide) (by decide) (by decide)) (s1.1 5 (by decide) (by decide) (by decide)) (s1.1 6 (by decide) (by decide) (by decide)) (s1.1 11 (by decide) (by decide) (by decide)), Or.inr ⟨q, e1, rfl, e5, ?_⟩⟩
         rcases s2 with s2 | s2
         · exact Or.inl ⟨s2.1, s2.2.1, rt_gd e4 e5 f3 s1, se_cl e4 e5 s2.1 f3 s1 s2.2.2, e4.2.2.1.kept (fun a q1 q2 => s1.1 a (by omega) (by omega) (by omega))⟩
         · exact Or.inr s2)
theorem rk_X6_readText {n : Int} (hn : n = (tp.length : Int)) (ht : tpOk tp) (h1 : ∀ i : Int, 0 ≤ i → i < (tp.length : Int) → M 1 i.toNat = (aBy tp i).bmod 256) (hi : rdI M) : fp_Ok l G 8 kX6_readText [rV G 2, rV G 1, iV n] M (qI fun z N => rtP tp M N z) := by
  subst hn
  refine fp_Ok.of (r := 2) rfl (Nat.le_of_ble_eq_true rfl) rfl ?_
  have htl := ht.1
  refine S.aload_n (pc' := 1) dX6_readText_0 rfl rfl rfl ?_
  refine S.aload_n (pc' := 2) dX6_readText_1 rfl rfl rfl ?_
  refine S.putT (pc' := 5) dX6_readText_2 rfl fX6_32 L_2 rf_2_5 ?_
  refine S.aload_n (pc' := 6) dX6_readText_5 rfl rfl rfl ?_
  refine S.iload_n (pc' := 7) dX6_readText_6 rfl rfl rfl ?_
  refine S.putI (pc' := 10) dX6_readText_7 rfl fX6_36 L_2 ?_
  refine S.aload_n (pc' := 11) dX6_readText_10 rfl rfl rfl ?_
  refine S.iconst (pc' := 12) dX6_readText_11 rfl ?_
  refine S.putI (pc' := 15) dX6_readText_12 rfl fX6_40 L_2 ?_
  refine S.aload_n (pc' := 16) dX6_readText_15 rfl rfl rfl ?_
  refine S.iconst (pc' := 17) dX6_readText_16 rfl ?_
  refine S.putI (pc' := 20) dX6_readText_17 rfl fX6_43 L_2 ?_
  refine S.aload_n (pc' := 21) dX6_readText_20 rfl rfl rfl ?_
  refine S.iconst (pc' := 22) dX6_readText_21 rfl ?_
  refine S.putI (pc' := 25) dX6_readText_22 rfl fX6_46 L_2 ?_
  refine S.aload_n (pc' := 26) dX6_readText_25 rfl rfl rfl ?_
  refine S.iconst (pc' := 27) dX6_readText_26 rfl ?_
  refine S.putZ (pc' := 30) dX6_readText_27 rfl fX6_49 L_2 (by first | exact Or.inl rfl | exact Or.inr rfl | omega) ?_
  refine S.aload_n (pc' := 31) dX6_readText_30 rfl rfl rfl ?_
  refine S.getR (pc' := 34) dX6_readText_31 rfl fX6_12 L_2 rf_2_0 ?_
  refine S.callVw (pc' := 37) dX6_readText_34 rfl cX6_53 (rk_X1_clear gd3) rfl (gd_lay gd3) (by decide) rfl (Nat.le_of_ble_eq_true rfl) ?_
  refine S.aload_n (pc' := 38) dX6_readText_37 rfl rfl rfl ?_
  refine S.getR (pc' := 41) dX6_readText_38 rfl fX6_21 L_2 rf_2_1 ?_
  refine S.callVv (pc' := 44) dX6_readText_41 rfl cX6_56 rk_X5_clear rfl (pl_lay pl7) (by decide) rfl (Nat.le_of_ble_eq_true rfl) (fun M41 q41 => ?_)
  obtain ⟨b1, b2, b3⟩ := q41
  refine S.aload_n (pc' := 45) dX6_readText_44 rfl rfl rfl ?_
  refine S.getR (pc' := 48) dX6_readText_45 rfl fX6_28 L_2 rf_2_2 ?_
  refine S.iconst (pc' := 49) dX6_readText_48 rfl ?_
  refine S.putI (pc' := 52) dX6_readText_49 rfl fX6_57 (vs_lay vs12) ?_
  refine S.iconst (pc' := 53) dX6_readText_52 rfl ?_
  refine S.istore_n (pc' := 54) (LL' := [_, _, _, _, _]) dX6_readText_53 rfl (by decide) rfl rfl rfl ?_
  refine S.iconst (pc' := 55) dX6_readText_54 rfl ?_
  refine S.istore (pc' := 57) (LL' := [_, _, _, _, _]) dX6_readText_55 rfl (by decide) rfl rfl ?_
  refine tx_loop (M := M) ht (fun O z o hO => rt_end ht hO) (tp.length + 1) 0 0 pD0 _ (by omega) (by omega) (by omega) (by omega) ?_ ?_ ?_ ?_ ?_ pD0_ok ?_ rfl
  · intro a ha
    rw [fp_up_ne (by omega), b1 a (by omega), fp_up_ne (by omega), fp_up_ne (by omega), fp_up_ne (by omega), fp_up_ne (by omega), fp_up_ne (by omega), fp_up_ne (by omega), fp_up_ne (by omega), fp_up_ne (by omega), fp_up_ne (by omega)]
  · refine ⟨?_, ?_, fun i i0 i1 => ?_⟩
    · rw [fp_up_ne (by decide), b1 2 (by omega)]; rfl
    · rw [fp_up_ne (by decide), b1 2 (by omega)]; rfl
    · rw [fp_up_ne (by decide), b1 1 (by omega)]; exact h1 i i0 i1
  · rw [fp_up_ne (by decide), b1 2 (by omega)]; rfl
  · rw [fp_up_ne (by decide), b1 2 (by omega)]; rfl
  · refine ⟨⟨?_, ?_, ?_, fun t t0 t1 => absurd t1 (by show ¬ t < 0; omega), fun t p t0 t1 => absurd t1 (by show ¬ t < 0; omega), fun x x0 x1 => absurd x1 (by show ¬ x < 0; omega)⟩, ⟨fun t t0 t1 => absurd t1 (by show ¬ t < 0; omega), fun t t0 t1 => ?_, fun t t0 t1 => ?_, fun x x0 x1 => ⟨?_, fun i i0 i1 => absurd i1 (by show ¬ i < ((0 : Nat) : Int); omega)⟩⟩, ⟨?_, by decide, fun i i0 i1 => absurd i1 (by show ¬ i < ((0 : Nat) : Int); omega)⟩, ?_, ?_⟩
    · rw [fp_up_ne (by decide), b1 3 (by omega)]; rfl
    · rw [fp_up_ne (by decide), b1 3 (by omega)]; rfl
    · rw [fp_up_ne (by decide), b1 3 (by omega)]; rfl
    · rw [fp_up_ne (by decide)]; exact (b2 t t0 t1).1
    · rw [fp_up_ne (by decide)]; exact (b2 t t0 t1).2
    · rw [fp_up_ne (by decide)]; exact b3 x x0 x1
    · rfl
    · rw [fp_up_ne (by decide), b1 2 (by omega)]; rfl
    · rw [fp_up_ne (by decide), b1 2 (by omega)]; rfl
  · refine hi.kept ?_ ?_ ?_ ?_
    · rw [fp_up_ne (by decide), b1 4 (by omega)]; rfl
    · rw [fp_up_ne (by decide), b1 5 (by omega)]; rfl
    · rw [fp_up_ne (by decide), b1 6 (by omega)]; rfl
    · rw [fp_up_ne (by decide), b1 11 (by omega)]; rfl
end TX3
end
section
/-! bank: the class -/
noncomputable def bkR (tp : List Int) : Int ⊕ (Int × aGd × aPg × List aVt) := match pText tp (tp.length + 1) 0 0 pD0 with
  | .inl h => .inl h
  | .inr q => @ite _ (stOk q.2) (Classical.propDecidable _) (.inr (q.1, q.2.1, pPg q.2, q.2.2.2.2.2.2)) (.inl (tp.length : Int))
theorem pPg_ok {D : pD} (hD : dOk D) (hs : stOk D) : pgOk D.1 (pPg D) := by
  have hg1 := hD.1.1
  have hg2 := hD.1.2.1
  have hcase : ∀ t, (∃ x, (0 ≤ x ∧ x < 3) ∧ t ∈ D.2.2.1 x ∧ (pPg D).1 t = 10 + x) ∨ ((∀ x, 0 ≤ x → x < 3 → t ∉ D.2.2.1 x) ∧ (pPg D).1 t = D.2.1 t) := by
    intro t
    show (∃ x, (0 ≤ x ∧ x < 3) ∧ t ∈ D.2.2.1 x ∧ (if t ∈ D.2.2.1 0 then (10 : Int) else if t ∈ D.2.2.1 1 then 11 else if t ∈ D.2.2.1 2 then 12 else D.2.1 t) = 10 + x) ∨ ((∀ x, 0 ≤ x → x < 3 → t ∉ D.2.2.1 x) ∧ (if t ∈ D.2.2.1 0 then (10 : Int) else if t ∈ D.2.2.1 1 then 11 else if t ∈ D.2.2.1 2 then 12 else D.2.1 t) = D.2.1 t)
    by_cases n0 : t ∈ D.2.2.1 0
    · rw [if_pos n0]; exact Or.inl ⟨0, by omega, n0, rfl⟩
    · rw [if_neg n0]
      by_cases n1 : t ∈ D.2.2.1 1
      · rw [if_pos n1]; exact Or.inl ⟨1, by omega, n1, rfl⟩
      · rw [if_neg n1]
        by_cases n2 : t ∈ D.2.2.1 2
        · rw [if_pos n2]; exact Or.inl ⟨2, by omega, n2, rfl⟩
        · rw [if_neg n2]
          refine Or.inr ⟨fun x x0 x1 => ?_, rfl⟩
          rcases (show x = 0 ∨ x = 1 ∨ x = 2 by omega) with rfl | rfl | rfl
          · exact n0
          · exact n1
          · exact n2
  have hln : ∀ x t, 0 ≤ x → x < 3 → t ∈ D.2.2.1 x → x < D.1.2.1 := by
    intro x t x0 x1 ht
    by_cases e : x < D.1.2.1
    · exact e
    · rw [(hD.2.2.1 x x0 x1).2.2.1 (by omega)] at ht
      exact (List.not_mem_nil ht).elim
  refine ⟨fun t t0 t1 => ?_, fun x x0 x1 => ?_, fun t t0 t1 h10 => ?_⟩
  · rcases hcase t with ⟨x, hx, hm, e⟩ | ⟨_, e⟩
    · have := hln x t hx.1 hx.2 hm
      rw [e]; omega
    · have := hD.2.1 t t0 t1
      rw [e]; omega
  · obtain ⟨k1, k2, k3, k4⟩ := hD.2.2.1 x x0 x1
    refine ⟨k1, k2, k3, fun t ht => ⟨(k4 t ht).1.1, hs.1 x t x0 x1 ht, ?_⟩⟩
    rcases hcase t with ⟨y, hy, hm, e⟩ | ⟨hn, _⟩
    · by_cases exy : x = y
      · rw [e, exy]
      · exact absurd hm (hD.2.2.2.1 x y t x0 x1 hy.1 hy.2 exy ht)
    · exact absurd ht (hn x x0 x1)
  · have hw := hD.2.1 t t0 t1
    rcases hcase t with ⟨y, hy, hm, e⟩ | ⟨_, e⟩
    · rw [e, show 10 + y - 10 = y by omega]
      exact ⟨hm, trivial⟩
    · rw [e] at h10; omega
theorem bkR_ok {tp : List Int} {D : pD} (hD : dOk D) (hs : stOk D) (sh : aSh) (hsh : shOk sh) : OK D.1 (pPg D) D.2.2.2.2.2 [] (fun _ => none) sh := by
  refine ⟨hD.1, pPg_ok hD hs, fun v hv => ?_, ⟨fun t ht => (List.not_mem_nil ht).elim, List.nodup_nil⟩, (fun k x h => by cases h), hsh⟩
  obtain ⟨v1, v2, v3, v4⟩ := hD.2.2.2.2.2.2.2 v hv
  obtain ⟨s1, s2⟩ := hs.2 v hv
  exact ⟨v1, v2, ⟨v3.1, s2⟩, by omega⟩
section BNK
variable {l : Launch} {G : fp_WG} {M N : fp_Mem} {tp : List Int} {fl : Int} {g : aGd} {pg : aPg} {vs : List aVt} {nt : List Int} {im : aIm} {sh : aSh} {tn : Int} {k k2 : Nat}
theorem cp_gd (hd : gdIs M k2 g) (hne : k2 + 3 < k ∨ k + 3 < k2) (e0 : N k 0 = M k2 0) (e1 : N k 1 = M k2 1) (e2 : N k 2 = M k2 2) (r1 : ∀ j, j < 11 → N (k + 1) j = M (k2 + 1) j) (r2 : ∀ j, j < 44 → N (k + 2) j = M (k2 + 2) j) (r3 : ∀ j, j < 3 → N (k + 3) j = M (k2 + 3) j) : gdIs N k g := by
  obtain ⟨d1, d2, d3, d4, d5, d6, d7, d8, q1, q2, q3, q4, q5, q6⟩ := hd
  rw [d1] at q1
  rw [d2] at q2
  refine ⟨by rw [e0]; exact d1, by rw [e1]; exact d2, by rw [e2]; exact d3, fun t t0 t1 => ?_, ?_, fun t p t0 t1 p0 p1 => ?_, fun p p0 p1 => ?_, fun x x0 x1 => ?_, by rw [e0, d1]; exact q1, by rw [e1, d2]; exact q2, by rw [e2]; exact q3, fun i i0 i1 => ?_, fun i i0 i1 => ?_, fun x x0 x1 => ?_⟩
  · rw [r1 _ (by omega)]; exact d4 t t0 t1
  · rw [r1 10 (by decide)]; exact d5
  · rw [r2 _ (by omega)]; exact d6 t p t0 t1 p0 p1
  · rw [r2 _ (by omega)]; exact d7 p p0 p1
  · rw [r3 _ (by omega)]; exact d8 x x0 x1
  · rw [r1 _ (by omega)]; exact q4 i i0 i1
  · rw [r2 _ (by omega)]; exact q5 i i0 i1
  · rw [r3 _ (by omega)]; exact q6 x x0 x1
theorem rk_X1_copyFrom (hk : fp_isgd k) (hk2 : fp_isgd k2) (hne : k2 + 3 < k ∨ k + 3 < k2) (hd : gdIs M k2 g) : fp_Ok l G 1 kX1_copyFrom [rV G k, rV G k2] M (qV fun N => gdIs N k g ∧ ∀ a, (a < k ∨ k + 3 < a) → N a = M a) := by
  refine fp_Ok.of (r := 0) rfl (Nat.le_of_ble_eq_true rfl) rfl ?_
  refine S.aload_n (pc' := 1) dX1_copyFrom_0 rfl rfl rfl ?_
  refine S.aload_n (pc' := 2) dX1_copyFrom_1 rfl rfl rfl ?_
  refine S.getI (pc' := 5) dX1_copyFrom_2 rfl fX1_25 (gd_lay hk2) ?_
  refine S.putI (pc' := 8) dX1_copyFrom_5 rfl fX1_25 (gd_lay hk) ?_
  refine S.aload_n (pc' := 9) dX1_copyFrom_8 rfl rfl rfl ?_
  refine S.aload_n (pc' := 10) dX1_copyFrom_9 rfl rfl rfl ?_
  refine S.getI (pc' := 13) dX1_copyFrom_10 rfl fX1_28 (gd_lay hk2) ?_
  refine S.putI (pc' := 16) dX1_copyFrom_13 rfl fX1_28 (gd_lay hk) ?_
  refine S.aload_n (pc' := 17) dX1_copyFrom_16 rfl rfl rfl ?_
  refine S.aload_n (pc' := 18) dX1_copyFrom_17 rfl rfl rfl ?_
  refine S.getI (pc' := 21) dX1_copyFrom_18 rfl fX1_9 (gd_lay hk2) ?_
  refine S.putI (pc' := 24) dX1_copyFrom_21 rfl fX1_9 (gd_lay hk) ?_
  refine S.aload_n (pc' := 25) dX1_copyFrom_24 rfl rfl rfl ?_
  refine S.getR (pc' := 28) dX1_copyFrom_25 rfl fX1_15 (gd_lay hk2) (gd_r3 hk2) ?_
  refine S.iconst (pc' := 29) dX1_copyFrom_28 rfl ?_
  refine S.aload_n (pc' := 30) dX1_copyFrom_29 rfl rfl rfl ?_
  refine S.getR (pc' := 33) dX1_copyFrom_30 rfl fX1_15 (gd_lay hk) (gd_r3 hk) ?_
  refine S.iconst (pc' := 34) dX1_copyFrom_33 rfl ?_
  refine S.aload_n (pc' := 35) dX1_copyFrom_34 rfl rfl rfl ?_
  refine S.getR (pc' := 38) dX1_copyFrom_35 rfl fX1_15 (gd_lay hk) (gd_r3 hk) ?_
  refine S.alen (pc' := 39) dX1_copyFrom_38 rfl (gd_a3 hk) (by decide) rfl (by first | assumption | decide) ?_
  refine S.copyi (pc' := 42) dX1_copyFrom_39 rfl aX1_31 (gd_a3 hk2) (gd_a3 hk) (by decide) (by decide) (by omega) (by omega) (by omega) (by omega) (by omega) (by decide) (Nat.le_of_ble_eq_true rfl) ?_
  refine S.aload_n (pc' := 43) dX1_copyFrom_42 rfl rfl rfl ?_
  refine S.getR (pc' := 46) dX1_copyFrom_43 rfl fX1_19 (gd_lay hk2) (gd_r4 hk2) ?_
  refine S.iconst (pc' := 47) dX1_copyFrom_46 rfl ?_
  refine S.aload_n (pc' := 48) dX1_copyFrom_47 rfl rfl rfl ?_
  refine S.getR (pc' := 51) dX1_copyFrom_48 rfl fX1_19 (gd_lay hk) (gd_r4 hk) ?_
  refine S.iconst (pc' := 52) dX1_copyFrom_51 rfl ?_
  refine S.aload_n (pc' := 53) dX1_copyFrom_52 rfl rfl rfl ?_
  refine S.getR (pc' := 56) dX1_copyFrom_53 rfl fX1_19 (gd_lay hk) (gd_r4 hk) ?_
  refine S.alen (pc' := 57) dX1_copyFrom_56 rfl (gd_a4 hk) (by decide) rfl (by first | assumption | decide) ?_
  refine S.copyi (pc' := 60) dX1_copyFrom_57 rfl aX1_31 (gd_a4 hk2) (gd_a4 hk) (by decide) (by decide) (by omega) (by omega) (by omega) (by omega) (by omega) (by decide) (Nat.le_of_ble_eq_true rfl) ?_
  refine S.aload_n (pc' := 61) dX1_copyFrom_60 rfl rfl rfl ?_
  refine S.getR (pc' := 64) dX1_copyFrom_61 rfl fX1_22 (gd_lay hk2) (gd_r5 hk2) ?_
  refine S.iconst (pc' := 65) dX1_copyFrom_64 rfl ?_
  refine S.aload_n (pc' := 66) dX1_copyFrom_65 rfl rfl rfl ?_
  refine S.getR (pc' := 69) dX1_copyFrom_66 rfl fX1_22 (gd_lay hk) (gd_r5 hk) ?_
  refine S.iconst (pc' := 70) dX1_copyFrom_69 rfl ?_
  refine S.aload_n (pc' := 71) dX1_copyFrom_70 rfl rfl rfl ?_
  refine S.getR (pc' := 74) dX1_copyFrom_71 rfl fX1_22 (gd_lay hk) (gd_r5 hk) ?_
  refine S.alen (pc' := 75) dX1_copyFrom_74 rfl (gd_a5 hk) (by decide) rfl (by first | assumption | decide) ?_
  refine S.copyi (pc' := 78) dX1_copyFrom_75 rfl aX1_31 (gd_a5 hk2) (gd_a5 hk) (by decide) (by decide) (by omega) (by omega) (by omega) (by omega) (by omega) (by decide) (Nat.le_of_ble_eq_true rfl) ?_
  refine S.vret dX1_copyFrom_78 rfl ?_
  refine ⟨cp_gd hd hne ?_ ?_ ?_ (fun j hj => ?_) (fun j hj => ?_) (fun j hj => ?_), fun a ha => by rw [fp_upM_ne (by omega), fp_upM_ne (by omega), fp_upM_ne (by omega), fp_up_ne (by omega), fp_up_ne (by omega), fp_up_ne (by omega)]⟩
  · rw [fp_upM_ne (by omega), fp_upM_ne (by omega), fp_upM_ne (by omega), fp_up_at, fp_upf_ne (by decide), fp_up_at, fp_upf_ne (by decide), fp_up_at, fp_upf_at]
  · rw [fp_upM_ne (by omega), fp_upM_ne (by omega), fp_upM_ne (by omega), fp_up_at, fp_upf_ne (by decide), fp_up_at, fp_upf_at, fp_up_ne (by omega)]
  · rw [fp_upM_ne (by omega), fp_upM_ne (by omega), fp_upM_ne (by omega), fp_up_at, fp_upf_at, fp_up_ne (by omega), fp_up_ne (by omega)]
  · rw [fp_upM_ne (by omega), fp_upM_ne (by omega), fp_upM_at, fp_up_ne (show k2 + 1 ≠ k by omega), fp_up_ne (show k2 + 1 ≠ k by omega), fp_up_ne (show k2 + 1 ≠ k by omega)]; simp [va_cpy]; intro; omega
  · rw [fp_upM_ne (by omega), fp_upM_at, fp_upM_ne (show k2 + 2 ≠ k + 1 by omega), fp_up_ne (show k2 + 2 ≠ k by omega), fp_up_ne (show k2 + 2 ≠ k by omega), fp_up_ne (show k2 + 2 ≠ k by omega)]; simp [va_cpy]; intro; omega
  · rw [fp_upM_at, fp_upM_ne (show k2 + 3 ≠ k + 2 by omega), fp_upM_ne (show k2 + 3 ≠ k + 1 by omega), fp_up_ne (show k2 + 3 ≠ k by omega), fp_up_ne (show k2 + 3 ≠ k by omega), fp_up_ne (show k2 + 3 ≠ k by omega)]; simp [va_cpy]; intro; omega
theorem bk_img {A : fp_Mem} {z : Int} {Q : fp_Q} (K : ∀ (N : fp_Mem), (∀ a, a ≠ 143 → a ≠ 156 → N a = A a) → N 143 0 = 0 → N 156 0 = 0 → fp_S l G 9 kX11_bank 115 [some (rV G 0), some (iV z), some (iV 2)] [] N Q) : ∀ (n : Nat) (i : Int) (N : fp_Mem), (2 - i).toNat = n → 0 ≤ i → i ≤ 2 → (∀ a, a ≠ 143 → a ≠ 156 → N a = A a) → (0 < i → N 143 0 = 0) → (1 < i → N 156 0 = 0) →
    fp_S l G 9 kX11_bank 94 [some (rV G 0), some (iV z), some (iV i)] [] N Q := by
  intro n
  induction n with
  | zero =>
    intro i N hn h0 h1 hN ha hb
    have : i = 2 := by omega
    subst this
    refine S.iload_n (pc' := 95) dX11_bank_94 rfl rfl rfl ?_
    refine S.iconst (pc' := 96) dX11_bank_95 rfl ?_
    refine S.icmp_ge (pc' := 99) (tgt := 115) dX11_bank_96 (by decide) rfl (by unfold fp_rng; omega) (by unfold fp_rng; omega) (fun h96 => ?_) (fun h96 => ?_)
    · exact K N hN (ha (by omega)) (hb (by omega))
    · exfalso; omega
  | succ n ih =>
    intro i N hn h0 h1 hN ha hb
    have hc : (i = 0 ∧ 143 + 13 * i.toNat = 143) ∨ (i = 1 ∧ 143 + 13 * i.toNat = 156) := by omega
    refine S.iload_n (pc' := 95) dX11_bank_94 rfl rfl rfl ?_
    refine S.iconst (pc' := 96) dX11_bank_95 rfl ?_
    refine S.icmp_ge (pc' := 99) (tgt := 115) dX11_bank_96 (by decide) rfl (by unfold fp_rng; omega) (by unfold fp_rng; omega) (fun h96 => ?_) (fun h96 => ?_)
    · exfalso; omega
    · refine S.aload_n (pc' := 100) dX11_bank_99 rfl rfl rfl ?_
      refine S.getR (pc' := 103) dX11_bank_100 rfl fX11_78 L_0 rf_0_11 ?_
      refine S.iload_n (pc' := 104) dX11_bank_103 rfl rfl rfl ?_
      refine S.aald (pc' := 105) dX11_bank_104 rfl L_141 (by decide) (by decide) (by omega) (by omega) (img_r (by omega) (by omega)) ?_
      refine S.iconst (pc' := 106) dX11_bank_105 rfl ?_
      refine S.putZ (pc' := 109) dX11_bank_106 rfl fX11_122 (im_lay (img_o (by omega) (by omega))) (by first | exact Or.inl rfl | exact Or.inr rfl | omega) ?_
      refine S.iinc (pc' := 112) (LL' := [_, _, _]) dX11_bank_109 rfl (by decide) rfl rfl rfl ?_
      refine S.goto (pc' := 94) dX11_bank_112 (by decide) ?_
      refine ih (i + 1) _ (by omega) (by omega) (by omega) (fun a q1 q2 => by rw [fp_up_ne (by omega)]; exact hN a q1 q2) (fun _ => ?_) (fun _ => ?_)
      · rcases hc with ⟨e, e2⟩ | ⟨e, e2⟩
        · rw [e2, fp_up_at, fp_upf_at]
        · rw [e2, fp_up_ne (by decide)]; exact ha (by omega)
      · rcases hc with ⟨e, e2⟩ | ⟨e, e2⟩
        · omega
        · rw [e2, fp_up_at, fp_upf_at]
theorem bk_go {z : Int} {o : Option Value} {O : fp_Mem} (hc : CS M tp fl g pg vs nt im sh tn) (f1 : fR M O) (f2 : rdI O) (f3 : (∃ h, pText tp (tp.length + 1) 0 0 pD0 = .inl h ∧ flt O h) ∨ ∃ q, pText tp (tp.length + 1) 0 0 pD0 = .inr q ∧ z = q.1 ∧ dOk q.2 ∧ ((stOk q.2 ∧ O 2 3 = 0 ∧ gdIs O 3 q.2.1 ∧ clIs O 7 q.2.1 (pPg q.2) ∧ vsIs O 12 q.2.2.2.2.2.2) ∨ (¬ stOk q.2 ∧ flt O (tp.length : Int)))) : fp_S l G 9 kX11_bank 21 [some (rV G 0), some (iV z), o] [] (fp_up O 0 1 0) (qI fun z N => rdI N ∧ (∀ c, 177 ≤ c → N c = M c) ∧ ((∃ h fl', bkR tp = .inl h ∧ z = -10 - h ∧ CS N [] fl' g pg vs nt im sh tn) ∨ ∃ r, bkR tp = .inr r ∧ z = r.1 ∧ (∀ s9, shOk s9 → OK r.2.1 r.2.2.1 r.2.2.2 [] (fun _ => none) s9) ∧ CS N [] 0 r.2.1 r.2.2.1 r.2.2.2 [] (fun _ => none) sh tn)) := by
  obtain ⟨hA, hG, hP, hV, hN, hI, hS⟩ := hc
  have hcsA : ∀ (N : fp_Mem) (f : Int), N 0 = fp_upf (O 0) 1 0 → N 2 3 = f → 0 ≤ f ∧ f ≤ 6 → csA N [] f tn := by
    intro N f e0 e2 hf
    refine ⟨by rw [e0, fp_upf_at]; rfl, by decide, fun i i0 i1 => absurd i1 (by show ¬ i < ((0 : Nat) : Int); omega), e2, ?_, hf, hA.2.2.2.2.2.2⟩
    rw [e0, fp_upf_ne (by decide), f1 0 (by omega)]
    exact hA.2.2.2.2.1
  have hbad : ∀ h, flt O h → bkR tp = .inl h → fp_S l G 9 kX11_bank 21 [some (rV G 0), some (iV z), o] [] (fp_up O 0 1 0) (qI fun z N => rdI N ∧ (∀ c, 177 ≤ c → N c = M c) ∧ ((∃ h fl', bkR tp = .inl h ∧ z = -10 - h ∧ CS N [] fl' g pg vs nt im sh tn) ∨ ∃ r, bkR tp = .inr r ∧ z = r.1 ∧ (∀ s9, shOk s9 → OK r.2.1 r.2.2.1 r.2.2.2 [] (fun _ => none) s9) ∧ CS N [] 0 r.2.1 r.2.2.1 r.2.2.2 [] (fun _ => none) sh tn)) := by
    intro h hfl hb
    have e23 : fp_up O 0 1 0 2 3 = O 2 3 := rfl
    have e24 : fp_up O 0 1 0 2 4 = h := hfl.2
    have hr := hfl.1
    refine S.aload_n (pc' := 22) dX11_bank_21 rfl rfl rfl ?_
    refine S.getR (pc' := 25) dX11_bank_22 rfl fX11_16 L_0 rf_0_2 ?_
    refine S.getI (pc' := 28) dX11_bank_25 rfl fX11_98 L_2 ?_
    rw [e23]
    refine S.if_eq (pc' := 31) (tgt := 42) dX11_bank_28 (by decide) rfl (by unfold fp_rng; omega) (fun h28 => ?_) (fun h28 => ?_)
    · exfalso; omega
    · refine S.bipush (pc' := 33) dX11_bank_31 rfl (by decide) ?_
      refine S.aload_n (pc' := 34) dX11_bank_33 rfl rfl rfl ?_
      refine S.getR (pc' := 37) dX11_bank_34 rfl fX11_16 L_0 rf_0_2 ?_
      refine S.getI (pc' := 40) dX11_bank_37 rfl fX11_101 L_2 ?_
      rw [e24]
      refine S.isub (pc' := 41) dX11_bank_40 rfl ?_
      refine S.iret dX11_bank_41 rfl ?_
      refine ⟨f2.kept rfl rfl rfl rfl, fun c hc => by rw [fp_up_ne (by omega)]; exact f1 c (by omega), Or.inl ⟨h, O 2 3, hb, rfl, hcsA _ _ (fp_up_at _ _ _ _) rfl (by omega), ?_⟩⟩
      have hk : ∀ a, 17 ≤ a → fp_up O 0 1 0 a = M a := fun a ha => by rw [fp_up_ne (by omega)]; exact f1 a (by omega)
      exact ⟨hG.kept (fun a q1 q2 => hk a (by omega)), hP.kept (fun a q1 q2 => hk a (by omega)), hV.kept (fun a q1 q2 => hk a (by omega)), hN.kept (fun a q1 q2 => hk a (by omega)), hI.kept (fun a q1 q2 => hk a (by omega)), hS.kept (fun a q1 q2 => hk a (by omega))⟩
  rcases f3 with ⟨h, e1, e2⟩ | ⟨q, e1, e2, e3, e4⟩
  · refine hbad h e2 ?_
    unfold bkR
    rw [e1]
  · rcases e4 with ⟨s1, s2, s3, s4, s5⟩ | ⟨s1, s2⟩
    · have hb : bkR tp = .inr (q.1, q.2.1, pPg q.2, q.2.2.2.2.2.2) := by
        unfold bkR
        rw [e1]
        exact if_pos s1
      subst e2
      have hgo := pPg_ok e3 s1
      refine S.aload_n (pc' := 22) dX11_bank_21 rfl rfl rfl ?_
      refine S.getR (pc' := 25) dX11_bank_22 rfl fX11_16 L_0 rf_0_2 ?_
      refine S.getI (pc' := 28) dX11_bank_25 rfl fX11_98 L_2 ?_
      refine S.if_eq (pc' := 31) (tgt := 42) dX11_bank_28 (by decide) rfl (show fp_rng (O 2 3) by rw [s2]; exact fp_rng0) (fun h28 => ?_) (fun h28 => ?_)
      · refine S.aload_n (pc' := 43) dX11_bank_42 rfl rfl rfl ?_
        refine S.getR (pc' := 46) dX11_bank_43 rfl fX11_23 L_0 rf_0_3 ?_
        refine S.aload_n (pc' := 47) dX11_bank_46 rfl rfl rfl ?_
        refine S.getR (pc' := 50) dX11_bank_47 rfl fX11_16 L_0 rf_0_2 ?_
        refine S.getR (pc' := 53) dX11_bank_50 rfl fX11_104 L_2 rf_2_0 ?_
        refine S.callVv (pc' := 56) dX11_bank_53 rfl cX11_105 (rk_X1_copyFrom gd18 gd3 (by omega) (show gdIs (fp_up O 0 1 0) 3 q.2.1 from s3.kept (fun a q1 q2 => fp_up_ne (by omega)))) rfl (gd_lay gd18) (by decide) rfl (Nat.le_of_ble_eq_true rfl) (fun M53 q53 => ?_)
        obtain ⟨c1, c2⟩ := q53
        refine S.aload_n (pc' := 57) dX11_bank_56 rfl rfl rfl ?_
        refine S.getR (pc' := 60) dX11_bank_57 rfl fX11_30 L_0 rf_0_4 ?_
        refine S.aload_n (pc' := 61) dX11_bank_60 rfl rfl rfl ?_
        refine S.getR (pc' := 64) dX11_bank_61 rfl fX11_16 L_0 rf_0_2 ?_
        refine S.getR (pc' := 67) dX11_bank_64 rfl fX11_109 L_2 rf_2_1 ?_
        refine S.callVv (pc' := 70) dX11_bank_67 rfl cX11_112 (rk_X5_copyFrom (g := q.2.1) (pg := pPg q.2) pl22 pl7 (by decide) (s4.kept (fun a q1 q2 => by rw [c2 a (by omega), fp_up_ne (by omega)])) hgo e3.1) rfl (pl_lay pl22) (by decide) rfl (Nat.le_of_ble_eq_true rfl) (fun M67 q67 => ?_)
        obtain ⟨d1, d2⟩ := q67
        refine S.aload_n (pc' := 71) dX11_bank_70 rfl rfl rfl ?_
        refine S.getR (pc' := 74) dX11_bank_71 rfl fX11_37 L_0 rf_0_5 ?_
        refine S.aload_n (pc' := 75) dX11_bank_74 rfl rfl rfl ?_
        refine S.getR (pc' := 78) dX11_bank_75 rfl fX11_16 L_0 rf_0_2 ?_
        refine S.getR (pc' := 81) dX11_bank_78 rfl fX11_115 L_2 rf_2_2 ?_
        refine S.callVv (pc' := 84) dX11_bank_81 rfl cX11_116 (rk_X10_copyFrom (vs := q.2.2.2.2.2.2) vs27 vs12 (by omega) (s5.kept (fun a q1 q2 => by rw [d2 a (by omega), c2 a (by omega), fp_up_ne (by omega)]))) rfl (vs_lay vs27) (by decide) rfl (Nat.le_of_ble_eq_true rfl) (fun M81 q81 => ?_)
        obtain ⟨g1, g2⟩ := q81
        refine S.aload_n (pc' := 85) dX11_bank_84 rfl rfl rfl ?_
        refine S.getR (pc' := 88) dX11_bank_85 rfl fX11_44 L_0 rf_0_6 ?_
        refine S.iconst (pc' := 89) dX11_bank_88 rfl ?_
        refine S.putI (pc' := 92) dX11_bank_89 rfl fX11_119 (nt_lay nt32) ?_
        refine S.iconst (pc' := 93) dX11_bank_92 rfl ?_
        refine S.istore_n (pc' := 94) (LL' := [_, _, _]) dX11_bank_93 rfl (by decide) rfl rfl rfl ?_
        refine bk_img (A := fp_up M81 32 0 0) (fun N n1 n2 n3 => ?_) 2 0 _ rfl (by omega) (by omega) (fun _ _ _ => rfl) (fun h => absurd h (by omega)) (fun h => absurd h (by omega))
        refine S.iload_n (pc' := 116) dX11_bank_115 rfl rfl rfl ?_
        refine S.iret dX11_bank_116 rfl ?_
        have hr : ∀ a, a ≠ 143 → a ≠ 156 → a ≠ 32 → (a < 18 ∨ 31 < a) → N a = fp_up O 0 1 0 a := fun a q1 q2 q3 q4 => by rw [n1 a q1 q2, fp_up_ne q3, g2 a (by omega), d2 a (by omega), c2 a (by omega)]
        have hk : ∀ a, a ≠ 143 → a ≠ 156 → 32 < a → N a = M a := fun a q1 q2 q3 => by rw [hr a q1 q2 (by omega) (by omega), fp_up_ne (by omega)]; exact f1 a (by omega)
        refine ⟨f2.kept (by rw [hr 4 (by decide) (by decide) (by decide) (by omega)]; rfl) (by rw [hr 5 (by decide) (by decide) (by decide) (by omega)]; rfl) (by rw [hr 6 (by decide) (by decide) (by decide) (by omega)]; rfl) (by rw [hr 11 (by decide) (by decide) (by decide) (by omega)]; rfl), fun c hc => hk c (by omega) (by omega) (by omega), Or.inr ⟨_, hb, rfl, fun s9 h9 => bkR_ok (tp := tp) e3 s1 s9 h9, hcsA _ _ (by rw [hr 0 (by decide) (by decide) (by decide) (by omega)]; exact fp_up_at _ _ _ _) (by rw [hr 2 (by decide) (by decide) (by decide) (by omega)]; exact s2) (by omega), ?_, ?_, ?_, ?_, ?_, ?_⟩⟩
        · exact c1.kept (fun a q1 q2 => by rw [n1 a (by omega) (by omega), fp_up_ne (by omega), g2 a (by omega), d2 a (by omega)])
        · exact d1.kept (fun a q1 q2 => by rw [n1 a (by omega) (by omega), fp_up_ne (by omega), g2 a (by omega)])
        · exact g1.kept (fun a q1 q2 => by rw [n1 a (by omega) (by omega), fp_up_ne (by omega)])
        · exact ⟨by rw [n1 32 (by decide) (by decide), fp_up_at, fp_upf_at]; rfl, by decide, fun i i0 i1 => absurd i1 (by show ¬ i < ((0 : Nat) : Int); omega)⟩
        · intro y y0 y1
          refine Or.inl ⟨rfl, ?_⟩
          rcases (show y = 0 ∨ y = 1 by omega) with rfl | rfl
          · exact n2
          · exact n3
        · exact hS.kept (fun a q1 q2 => hk a (by omega) (by omega) (by omega))
      · exact absurd s2 h28
    · refine hbad _ s2 ?_
      unfold bkR
      rw [e1]
      exact if_neg s1
theorem cc_bank (hc : CS M tp fl g pg vs nt im sh tn) (hi : rdI M) : fp_Ok l G 9 kX11_bank [rV G 0] M (qI fun z N => rdI N ∧ (∀ c, 177 ≤ c → N c = M c) ∧ ((∃ h fl', bkR tp = .inl h ∧ z = -10 - h ∧ CS N [] fl' g pg vs nt im sh tn) ∨ ∃ r, bkR tp = .inr r ∧ z = r.1 ∧ (∀ s9, shOk s9 → OK r.2.1 r.2.2.1 r.2.2.2 [] (fun _ => none) s9) ∧ CS N [] 0 r.2.1 r.2.2.1 r.2.2.2 [] (fun _ => none) sh tn)) := by
  obtain ⟨hA, hG, hP, hV, hN, hI, hS⟩ := hc
  have ht : tpOk tp := ⟨hA.2.1, fun i i0 i1 => (hA.2.2.1 i i0 i1).1⟩
  refine fp_Ok.of (r := 2) rfl (Nat.le_of_ble_eq_true rfl) rfl ?_
  refine S.aload_n (pc' := 1) dX11_bank_0 rfl rfl rfl ?_
  refine S.getR (pc' := 4) dX11_bank_1 rfl fX11_16 L_0 rf_0_2 ?_
  refine S.aload_n (pc' := 5) dX11_bank_4 rfl rfl rfl ?_
  refine S.getR (pc' := 8) dX11_bank_5 rfl fX11_9 L_0 rf_0_0 ?_
  refine S.aload_n (pc' := 9) dX11_bank_8 rfl rfl rfl ?_
  refine S.getI (pc' := 12) dX11_bank_9 rfl fX11_90 L_0 ?_
  refine S.callVi (pc' := 15) dX11_bank_12 rfl cX11_94 (rk_X6_readText hA.1 ht (fun i i0 i1 => (hA.2.2.1 i i0 i1).2) hi) rfl L_2 (by decide) rfl (Nat.le_of_ble_eq_true rfl) (fun z12 M12 q12 => ?_)
  obtain ⟨f1, f2, f3⟩ := q12
  refine S.istore_n (pc' := 16) (LL' := [_, _, _]) dX11_bank_15 rfl (by decide) rfl rfl rfl ?_
  refine S.aload_n (pc' := 17) dX11_bank_16 rfl rfl rfl ?_
  refine S.iconst (pc' := 18) dX11_bank_17 rfl ?_
  refine S.putI (pc' := 21) dX11_bank_18 rfl fX11_90 L_0 ?_
  exact bk_go ⟨hA, hG, hP, hV, hN, hI, hS⟩ f1 f2 f3
end BNK
end
section
/-! THE REFERENCE READS A TOKEN -/
def mtT (M : fp_Mem) (tp : List Int) : Prop := M 177 19 = (tp.length : Int) ∧ ∀ i : Int, 0 ≤ i → i < (tp.length : Int) → M 186 i.toNat = aBy tp i
def mB (tp : List Int) (i : Int) : Int := if i < (tp.length : Int) then aBy tp i else -4
theorem mB_in {tp : List Int} {i : Int} (ht : tpOk tp) (h0 : 0 ≤ i) : -4 ≤ mB tp i ∧ mB tp i < 256 := by
  unfold mB
  split
  · have := ht.2 i h0 (by assumption)
    omega
  · omega
theorem aEnd_mB {P : Int → Bool} {tp : List Int} {s : Int} (hP : P (-4) = false) : aEnd P tp s = if P (mB tp s) = true then aEnd P tp (s + 1) else s := by
  by_cases h : s < (tp.length : Int)
  · rw [aEnd_step h]
    unfold mB
    rw [if_pos h]
  · rw [aEnd_out (by omega)]
    unfold mB
    rw [if_neg h, hP]
    rfl
theorem mB_lt {P : Int → Bool} {tp : List Int} {s : Int} (hP : P (-4) = false) (h : P (mB tp s) = true) : s < (tp.length : Int) := by
  by_cases e : s < (tp.length : Int)
  · exact e
  · unfold mB at h
    rw [if_neg e, hP] at h
    exact absurd h (by decide)
theorem isLe_if (b : Int) : (if 97 ≤ b ∧ b ≤ 122 then (1 : Int) else 0) = if isLe b = true then 1 else 0 := by
  unfold isLe
  simp only [decide_eq_true_eq]
theorem isFi_if (b : Int) : (if 48 ≤ b ∧ b ≤ 57 then (1 : Int) else 0) = if isFi b = true then 1 else 0 := by
  unfold isFi
  simp only [decide_eq_true_eq]
theorem fp_up4g (M : fp_Mem) (k a b : Nat) (v s v' s' : Int) : fp_up (fp_up (fp_up (fp_up M k a v) k b s) k a v') k b s' = fp_up (fp_up M k a v') k b s' := by
  funext x y
  simp only [fp_up, fp_upM]
  by_cases hx : x = k
  · subst hx
    by_cases hy : y = b
    · simp [hy, fp_upf]
    · by_cases h0 : y = a
      · simp [h0, fp_upf]
      · simp [hy, h0, fp_upf]
  · simp [hx]
def mV (tp : List Int) (h s : Int) : Int := aDec tp h (min (s - h).toNat 2)
theorem mV_less {tp : List Int} {h s : Int} (h0 : h ≤ s) (h1 : s - h < 2) : 10 * mV tp h s + aBy tp s - 48 = mV tp h (s + 1) := by
  unfold mV
  rw [show min (s + 1 - h).toNat 2 = (s - h).toNat + 1 by omega, show min (s - h).toNat 2 = (s - h).toNat by omega]
  show _ = aDec tp h (s - h).toNat * 10 + aBy tp (h + ((s - h).toNat : Nat)) - 48
  rw [show h + (((s - h).toNat : Nat) : Int) = s by omega]
  omega
theorem mV_more {tp : List Int} {h s : Int} (h1 : ¬ s - h < 2) : mV tp h s = mV tp h (s + 1) := by
  unfold mV
  rw [show min (s + 1 - h).toNat 2 = 2 by omega, show min (s - h).toNat 2 = 2 by omega]
section MTK
variable {l : Launch} {G : fp_WG} {M N : fp_Mem} {tp : List Int}
theorem mtT.up (hm : mtT M tp) {j : Nat} {z : Int} (h : j ≠ 19) : mtT (fp_up M 177 j z) tp := by
  refine ⟨?_, fun i i0 i1 => by rw [fp_up_ne (by decide)]; exact hm.2 i i0 i1⟩
  rw [fp_up_at, fp_upf_ne (fun e => h e.symm)]; exact hm.1
theorem mt_byte {i : Int} (ht : tpOk tp) (hm : mtT M tp) (h0 : 0 ≤ i) (h1 : i ≤ (tp.length : Int)) : fp_Ok l G 0 kX12_byteAt [rV G 177, iV i] M (qE (mB tp i) M) := by
  refine fp_Ok.of (r := 0) rfl (Nat.le_of_ble_eq_true rfl) rfl ?_
  have hn := ht.1
  refine S.iload_n (pc' := 1) dX12_byteAt_0 rfl rfl rfl ?_
  refine S.aload_n (pc' := 2) dX12_byteAt_1 rfl rfl rfl ?_
  refine S.getI (pc' := 5) dX12_byteAt_2 rfl fX12_91 L_177 ?_
  rw [hm.1]
  refine S.icmp_ge (pc' := 8) (tgt := 17) dX12_byteAt_5 (by decide) rfl (by unfold fp_rng; omega) (by unfold fp_rng; omega) (fun h5 => ?_) (fun h5 => ?_)
  · refine S.bipush (pc' := 19) dX12_byteAt_17 rfl (by decide) ?_
    refine S.iret dX12_byteAt_19 rfl ?_
    first
    | exact ⟨by unfold mB; rw [if_neg (by omega)], rfl⟩
    | exact ⟨by unfold mB; rw [if_pos (by omega)]; exact hm.2 i h0 (by omega), rfl⟩
  · refine S.aload_n (pc' := 9) dX12_byteAt_8 rfl rfl rfl ?_
    refine S.getR (pc' := 12) dX12_byteAt_9 rfl fX12_38 L_177 rf_177_18 ?_
    refine S.iload_n (pc' := 13) dX12_byteAt_12 rfl rfl rfl ?_
    refine S.iald (pc' := 14) dX12_byteAt_13 rfl L_186 (by omega) (by omega) ?_
    refine S.goto (pc' := 19) dX12_byteAt_14 (by decide) ?_
    refine S.iret dX12_byteAt_19 rfl ?_
    first
    | exact ⟨by unfold mB; rw [if_neg (by omega)], rfl⟩
    | exact ⟨by unfold mB; rw [if_pos (by omega)]; exact hm.2 i h0 (by omega), rfl⟩
theorem mt_fails0 {w : Int} (h21 : M 177 21 = 0) : fp_Ok l G 0 kX12_fails [rV G 177, iV w] M (qW (fp_up (fp_up M 177 21 w) 177 22 (M 177 24))) := by
  refine fp_Ok.of (r := 0) rfl (Nat.le_of_ble_eq_true rfl) rfl ?_
  refine S.aload_n (pc' := 1) dX12_fails_0 rfl rfl rfl ?_
  refine S.getI (pc' := 4) dX12_fails_1 rfl fX12_98 L_177 ?_
  rw [h21]
  refine S.if_ne (pc' := 7) (tgt := 20) dX12_fails_4 (by decide) rfl (by unfold fp_rng; omega) (fun h4 => ?_) (fun h4 => ?_)
  · refine S.vret dX12_fails_20 rfl ?_
    first
    | exact absurd rfl h4
    | rfl
  · refine S.aload_n (pc' := 8) dX12_fails_7 rfl rfl rfl ?_
    refine S.iload_n (pc' := 9) dX12_fails_8 rfl rfl rfl ?_
    refine S.putI (pc' := 12) dX12_fails_9 rfl fX12_98 L_177 ?_
    refine S.aload_n (pc' := 13) dX12_fails_12 rfl rfl rfl ?_
    refine S.aload_n (pc' := 14) dX12_fails_13 rfl rfl rfl ?_
    refine S.getI (pc' := 17) dX12_fails_14 rfl fX12_101 L_177 ?_
    refine S.putI (pc' := 20) dX12_fails_17 rfl fX12_104 L_177 ?_
    refine S.vret dX12_fails_20 rfl ?_
    first
    | exact absurd rfl h4
    | rfl
theorem mt_fails1 {w : Int} (h21 : 1 ≤ M 177 21 ∧ M 177 21 ≤ 6) : fp_Ok l G 0 kX12_fails [rV G 177, iV w] M (qW M) := by
  refine fp_Ok.of (r := 0) rfl (Nat.le_of_ble_eq_true rfl) rfl ?_
  refine S.aload_n (pc' := 1) dX12_fails_0 rfl rfl rfl ?_
  refine S.getI (pc' := 4) dX12_fails_1 rfl fX12_98 L_177 ?_
  refine S.if_ne (pc' := 7) (tgt := 20) dX12_fails_4 (by decide) rfl (by unfold fp_rng; omega) (fun h4 => ?_) (fun h4 => ?_)
  · refine S.vret dX12_fails_20 rfl ?_
    rfl
  · exfalso; omega
theorem mt_sp {Q : fp_Q} {s0 : Int} (o1 : Option Value) (ht : tpOk tp) (hm : mtT M tp) (K : fp_S l G 1 kX12_step 34 [some (rV G 177), o1] [] (fp_up M 177 23 (tkS tp s0)) Q) : ∀ (r : Nat) (s : Int), ((tp.length : Int) - s).toNat = r → 0 ≤ s → s ≤ (tp.length : Int) → aEnd isSp tp s = tkS tp s0 →
    fp_S l G 1 kX12_step 8 [some (rV G 177), o1] [] (fp_up M 177 23 s) Q := by
  have hn := ht.1
  intro r
  induction r with
  | zero =>
    intro s hr s0' s1 he
    have hb : mB tp s = -4 := by unfold mB; rw [if_neg (by omega)]
    have e23 : fp_up M 177 23 s 177 23 = s := rfl
    rw [aEnd_out (by omega)] at he
    refine S.aload_n (pc' := 9) dX12_step_8 rfl rfl rfl ?_
    refine S.aload_n (pc' := 10) dX12_step_9 rfl rfl rfl ?_
    refine S.getI (pc' := 13) dX12_step_10 rfl fX12_110 L_177 ?_
    rw [e23]
    refine S.callVe (pc' := 16) dX12_step_13 rfl cX12_113 (mt_byte ht (hm.up (by decide)) s0' s1) rfl L_177 (by decide) rfl (Nat.le_of_ble_eq_true rfl) ?_
    rw [hb]
    refine S.bipush (pc' := 18) dX12_step_16 rfl (by decide) ?_
    refine S.icmp_ne (pc' := 21) (tgt := 34) dX12_step_18 (by decide) rfl (by unfold fp_rng; omega) (by unfold fp_rng; omega) (fun h18 => ?_) (fun h18 => ?_)
    · rw [he]; exact K
    · exfalso; omega
  | succ r ih =>
    intro s hr s0' s1 he
    have hb := mB_in ht s0'
    have e23 : fp_up M 177 23 s 177 23 = s := rfl
    rw [aEnd_mB (by decide)] at he
    refine S.aload_n (pc' := 9) dX12_step_8 rfl rfl rfl ?_
    refine S.aload_n (pc' := 10) dX12_step_9 rfl rfl rfl ?_
    refine S.getI (pc' := 13) dX12_step_10 rfl fX12_110 L_177 ?_
    rw [e23]
    refine S.callVe (pc' := 16) dX12_step_13 rfl cX12_113 (mt_byte ht (hm.up (by decide)) s0' s1) rfl L_177 (by decide) rfl (Nat.le_of_ble_eq_true rfl) ?_
    refine S.bipush (pc' := 18) dX12_step_16 rfl (by decide) ?_
    refine S.icmp_ne (pc' := 21) (tgt := 34) dX12_step_18 (by decide) rfl (by unfold fp_rng; omega) (by unfold fp_rng; omega) (fun h18 => ?_) (fun h18 => ?_)
    · rw [if_neg (by unfold isSp; simp only [decide_eq_true_eq]; omega)] at he; rw [he]; exact K
    · refine S.aload_n (pc' := 22) dX12_step_21 rfl rfl rfl ?_
      refine S.dup (pc' := 23) dX12_step_22 rfl rfl ?_
      refine S.getI (pc' := 26) dX12_step_23 rfl fX12_110 L_177 ?_
      refine S.iconst (pc' := 27) dX12_step_26 rfl ?_
      refine S.iadd (pc' := 28) dX12_step_27 rfl ?_
      rw [e23]
      refine S.putI (pc' := 31) dX12_step_28 rfl fX12_110 L_177 ?_
      rw [fp_up_up]
      refine S.goto (pc' := 8) dX12_step_31 (by decide) ?_
      refine ih (s + 1) (by omega) (by omega) (by omega) ?_
      rw [if_pos (by unfold isSp; simp only [decide_eq_true_eq]; omega)] at he
      exact he
theorem mt_le {Q : fp_Q} {e0 : Int} (o1 : Option Value) (ht : tpOk tp) (hm : mtT M tp) (K : fp_S l G 1 kX12_step 118 [some (rV G 177), o1] [] (fp_up M 177 23 e0) Q) : ∀ (r : Nat) (s : Int), ((tp.length : Int) - s).toNat < r → 0 ≤ s → s ≤ (tp.length : Int) → aEnd isLe tp s = e0 →
    fp_S l G 1 kX12_step 84 [some (rV G 177), o1] [] (fp_up M 177 23 s) Q := by
  have hn := ht.1
  intro r
  induction r with
  | zero => intro s hr; omega
  | succ r ih =>
    intro s hr s0' s1 he
    have hb := mB_in ht s0'
    have hif := isLe_if (mB tp s)
    have e23 : fp_up M 177 23 s 177 23 = s := rfl
    rw [aEnd_mB (by decide)] at he
    by_cases hP : isLe (mB tp s) = true
    · rw [if_pos hP] at he hif
      have hlt := mB_lt (P := isLe) (by decide) hP
      refine S.aload_n (pc' := 85) dX12_step_84 rfl rfl rfl ?_
      refine S.aload_n (pc' := 86) dX12_step_85 rfl rfl rfl ?_
      refine S.getI (pc' := 89) dX12_step_86 rfl fX12_110 L_177 ?_
      rw [e23]
      refine S.callVe (pc' := 92) dX12_step_89 rfl cX12_113 (mt_byte ht (hm.up (by decide)) s0' s1) rfl L_177 (by decide) rfl (Nat.le_of_ble_eq_true rfl) ?_
      refine S.i2l (pc' := 93) dX12_step_92 rfl (by unfold fp_rng; omega) ?_
      refine S.ldc2 (pc' := 96) (v := 97) dX12_step_93 rfl lX12_120 (by decide) ?_
      refine S.ldc2 (pc' := 99) (v := 122) dX12_step_96 rfl lX12_122 (by decide) ?_
      refine S.callSe (pc' := 102) dX12_step_99 rfl cX12_94 ok_X12_in rfl (by decide) rfl (Nat.le_of_ble_eq_true rfl) ?_
      rw [hif]
      refine S.if_eq (pc' := 105) (tgt := 118) dX12_step_102 (by decide) rfl (by unfold fp_rng; omega) (fun h102 => ?_) (fun h102 => ?_)
      · exfalso; omega
      · refine S.aload_n (pc' := 106) dX12_step_105 rfl rfl rfl ?_
        refine S.dup (pc' := 107) dX12_step_106 rfl rfl ?_
        refine S.getI (pc' := 110) dX12_step_107 rfl fX12_110 L_177 ?_
        refine S.iconst (pc' := 111) dX12_step_110 rfl ?_
        refine S.iadd (pc' := 112) dX12_step_111 rfl ?_
        rw [e23]
        refine S.putI (pc' := 115) dX12_step_112 rfl fX12_110 L_177 ?_
        rw [fp_up_up]
        refine S.goto (pc' := 84) dX12_step_115 (by decide) ?_
        exact ih (s + 1) (by omega) (by omega) (by omega) he
    · rw [if_neg hP] at he hif
      refine S.aload_n (pc' := 85) dX12_step_84 rfl rfl rfl ?_
      refine S.aload_n (pc' := 86) dX12_step_85 rfl rfl rfl ?_
      refine S.getI (pc' := 89) dX12_step_86 rfl fX12_110 L_177 ?_
      rw [e23]
      refine S.callVe (pc' := 92) dX12_step_89 rfl cX12_113 (mt_byte ht (hm.up (by decide)) s0' s1) rfl L_177 (by decide) rfl (Nat.le_of_ble_eq_true rfl) ?_
      refine S.i2l (pc' := 93) dX12_step_92 rfl (by unfold fp_rng; omega) ?_
      refine S.ldc2 (pc' := 96) (v := 97) dX12_step_93 rfl lX12_120 (by decide) ?_
      refine S.ldc2 (pc' := 99) (v := 122) dX12_step_96 rfl lX12_122 (by decide) ?_
      refine S.callSe (pc' := 102) dX12_step_99 rfl cX12_94 ok_X12_in rfl (by decide) rfl (Nat.le_of_ble_eq_true rfl) ?_
      rw [hif]
      refine S.if_eq (pc' := 105) (tgt := 118) dX12_step_102 (by decide) rfl (by unfold fp_rng; omega) (fun h102 => ?_) (fun h102 => ?_)
      · rw [he]; exact K
      · exact absurd rfl h102
theorem mt_fi {Q : fp_Q} {e0 h : Int} (o1 : Option Value) (ht : tpOk tp) (hm : mtT M tp) (h24 : M 177 24 = h) (K : fp_S l G 1 kX12_step 217 [some (rV G 177), o1] [] (fp_up (fp_up M 177 26 (mV tp h e0)) 177 23 e0) Q) : ∀ (r : Nat) (s : Int), ((tp.length : Int) - s).toNat < r → 0 ≤ h → h ≤ s → s ≤ (tp.length : Int) → aEnd isFi tp s = e0 →
    fp_S l G 1 kX12_step 140 [some (rV G 177), o1] [] (fp_up (fp_up M 177 26 (mV tp h s)) 177 23 s) Q := by
  have hn := ht.1
  intro r
  induction r with
  | zero => intro s hr; omega
  | succ r ih =>
    intro s hr hh0 s0' s1 he
    have hb := mB_in (i := s) ht (by omega)
    have hif := isFi_if (mB tp s)
    have e23 : fp_up (fp_up M 177 26 (mV tp h s)) 177 23 s 177 23 = s := rfl
    have e24 : fp_up (fp_up M 177 26 (mV tp h s)) 177 23 s 177 24 = h := h24
    have e26 : fp_up (fp_up M 177 26 (mV tp h s)) 177 23 s 177 26 = mV tp h s := rfl
    have hm' : mtT (fp_up (fp_up M 177 26 (mV tp h s)) 177 23 s) tp := (hm.up (by decide)).up (by decide)
    rw [aEnd_mB (by decide)] at he
    by_cases hP : isFi (mB tp s) = true
    · rw [if_pos hP] at he hif
      have hlt := mB_lt (P := isFi) (by decide) hP
      have hbb : mB tp s = aBy tp s := by unfold mB; rw [if_pos hlt]
      have e23' : ∀ v w : Int, fp_up (fp_up (fp_up M 177 26 v) 177 23 s) 177 26 w 177 23 = s := fun _ _ => rfl
      refine S.aload_n (pc' := 141) dX12_step_140 rfl rfl rfl ?_
      refine S.aload_n (pc' := 142) dX12_step_141 rfl rfl rfl ?_
      refine S.getI (pc' := 145) dX12_step_142 rfl fX12_110 L_177 ?_
      rw [e23]
      refine S.callVe (pc' := 148) dX12_step_145 rfl cX12_113 (mt_byte ht hm' (by omega) s1) rfl L_177 (by decide) rfl (Nat.le_of_ble_eq_true rfl) ?_
      refine S.i2l (pc' := 149) dX12_step_148 rfl (by unfold fp_rng; omega) ?_
      refine S.ldc2 (pc' := 152) (v := 48) dX12_step_149 rfl lX12_124 (by decide) ?_
      refine S.ldc2 (pc' := 155) (v := 57) dX12_step_152 rfl lX12_126 (by decide) ?_
      refine S.callSe (pc' := 158) dX12_step_155 rfl cX12_94 ok_X12_in rfl (by decide) rfl (Nat.le_of_ble_eq_true rfl) ?_
      rw [hif]
      refine S.if_eq (pc' := 161) (tgt := 217) dX12_step_158 (by decide) rfl (by unfold fp_rng; omega) (fun h158 => ?_) (fun h158 => ?_)
      · exfalso; omega
      · refine S.aload_n (pc' := 162) dX12_step_161 rfl rfl rfl ?_
        refine S.aload_n (pc' := 163) dX12_step_162 rfl rfl rfl ?_
        refine S.getI (pc' := 166) dX12_step_163 rfl fX12_110 L_177 ?_
        refine S.aload_n (pc' := 167) dX12_step_166 rfl rfl rfl ?_
        refine S.getI (pc' := 170) dX12_step_167 rfl fX12_101 L_177 ?_
        refine S.isub (pc' := 171) dX12_step_170 rfl ?_
        refine S.iconst (pc' := 172) dX12_step_171 rfl ?_
        rw [e23, e24]
        refine S.icmp_ge (pc' := 175) (tgt := 197) dX12_step_172 (by decide) rfl (by unfold fp_rng; omega) (by unfold fp_rng; omega) (fun h172 => ?_) (fun h172 => ?_)
        · refine S.aload_n (pc' := 198) dX12_step_197 rfl rfl rfl ?_
          refine S.getI (pc' := 201) dX12_step_198 rfl fX12_117 L_177 ?_
          first | rw [e26, hbb, mV_less s0' (by omega)] | rw [e26, mV_more (by omega)]
          refine S.putI (pc' := 204) dX12_step_201 rfl fX12_117 L_177 ?_
          refine S.aload_n (pc' := 205) dX12_step_204 rfl rfl rfl ?_
          refine S.dup (pc' := 206) dX12_step_205 rfl rfl ?_
          refine S.getI (pc' := 209) dX12_step_206 rfl fX12_110 L_177 ?_
          refine S.iconst (pc' := 210) dX12_step_209 rfl ?_
          refine S.iadd (pc' := 211) dX12_step_210 rfl ?_
          rw [e23']
          refine S.putI (pc' := 214) dX12_step_211 rfl fX12_110 L_177 ?_
          rw [fp_up4g]
          refine S.goto (pc' := 140) dX12_step_214 (by decide) ?_
          exact ih (s + 1) (by omega) hh0 (by omega) (by omega) he
        · refine S.bipush (pc' := 177) dX12_step_175 rfl (by decide) ?_
          refine S.aload_n (pc' := 178) dX12_step_177 rfl rfl rfl ?_
          refine S.getI (pc' := 181) dX12_step_178 rfl fX12_117 L_177 ?_
          refine S.imul (pc' := 182) dX12_step_181 rfl ?_
          refine S.aload_n (pc' := 183) dX12_step_182 rfl rfl rfl ?_
          refine S.aload_n (pc' := 184) dX12_step_183 rfl rfl rfl ?_
          refine S.getI (pc' := 187) dX12_step_184 rfl fX12_110 L_177 ?_
          rw [e23]
          refine S.callVe (pc' := 190) dX12_step_187 rfl cX12_113 (mt_byte ht hm' (by omega) s1) rfl L_177 (by decide) rfl (Nat.le_of_ble_eq_true rfl) ?_
          refine S.iadd (pc' := 191) dX12_step_190 rfl ?_
          refine S.bipush (pc' := 193) dX12_step_191 rfl (by decide) ?_
          refine S.isub (pc' := 194) dX12_step_193 rfl ?_
          refine S.goto (pc' := 201) dX12_step_194 (by decide) ?_
          first | rw [e26, hbb, mV_less s0' (by omega)] | rw [e26, mV_more (by omega)]
          refine S.putI (pc' := 204) dX12_step_201 rfl fX12_117 L_177 ?_
          refine S.aload_n (pc' := 205) dX12_step_204 rfl rfl rfl ?_
          refine S.dup (pc' := 206) dX12_step_205 rfl rfl ?_
          refine S.getI (pc' := 209) dX12_step_206 rfl fX12_110 L_177 ?_
          refine S.iconst (pc' := 210) dX12_step_209 rfl ?_
          refine S.iadd (pc' := 211) dX12_step_210 rfl ?_
          rw [e23']
          refine S.putI (pc' := 214) dX12_step_211 rfl fX12_110 L_177 ?_
          rw [fp_up4g]
          refine S.goto (pc' := 140) dX12_step_214 (by decide) ?_
          exact ih (s + 1) (by omega) hh0 (by omega) (by omega) he
    · rw [if_neg hP] at he hif
      subst he
      refine S.aload_n (pc' := 141) dX12_step_140 rfl rfl rfl ?_
      refine S.aload_n (pc' := 142) dX12_step_141 rfl rfl rfl ?_
      refine S.getI (pc' := 145) dX12_step_142 rfl fX12_110 L_177 ?_
      rw [e23]
      refine S.callVe (pc' := 148) dX12_step_145 rfl cX12_113 (mt_byte ht hm' (by omega) s1) rfl L_177 (by decide) rfl (Nat.le_of_ble_eq_true rfl) ?_
      refine S.i2l (pc' := 149) dX12_step_148 rfl (by unfold fp_rng; omega) ?_
      refine S.ldc2 (pc' := 152) (v := 48) dX12_step_149 rfl lX12_124 (by decide) ?_
      refine S.ldc2 (pc' := 155) (v := 57) dX12_step_152 rfl lX12_126 (by decide) ?_
      refine S.callSe (pc' := 158) dX12_step_155 rfl cX12_94 ok_X12_in rfl (by decide) rfl (Nat.le_of_ble_eq_true rfl) ?_
      rw [hif]
      refine S.if_eq (pc' := 161) (tgt := 217) dX12_step_158 (by decide) rfl (by unfold fp_rng; omega) (fun h158 => ?_) (fun h158 => ?_)
      · exact K
      · exact absurd rfl h158
end MTK
end
section
/-! THE REFERENCE STEPS TO A TOKEN -/
/-- only the fields of the token and of the fault differ -/
def frW (M N : fp_Mem) : Prop := (∀ a, a ≠ 177 → N a = M a) ∧ ∀ j, (j < 21 ∨ 26 < j) → N 177 j = M 177 j
def mtB (N : fp_Mem) (h : Int) : Prop := (1 ≤ N 177 21 ∧ N 177 21 ≤ 6) ∧ N 177 22 = h
theorem frW.refl (M : fp_Mem) : frW M M := ⟨fun _ _ => rfl, fun _ _ => rfl⟩
theorem frW.trans {M N O : fp_Mem} (h : frW M N) (h2 : frW N O) : frW M O := ⟨fun a ha => (h2.1 a ha).trans (h.1 a ha), fun j hj => (h2.2 j hj).trans (h.2 j hj)⟩
theorem frW.up {M N : fp_Mem} (h : frW M N) {j : Nat} {z : Int} (hj : 21 ≤ j ∧ j ≤ 26) : frW M (fp_up N 177 j z) := by
  refine ⟨fun a ha => by rw [fp_up_ne ha]; exact h.1 a ha, fun i hi => ?_⟩
  rw [fp_up_at, fp_upf_ne (by omega)]; exact h.2 i hi
theorem frW.T {M N : fp_Mem} {tp : List Int} (h : frW M N) (hm : mtT M tp) : mtT N tp := by
  refine ⟨by rw [h.2 19 (by omega)]; exact hm.1, fun i i0 i1 => by rw [h.1 186 (by decide)]; exact hm.2 i i0 i1⟩
/-- the token at s is taken up -/
def mtG (tp : List Int) (N : fp_Mem) (s : Int) : Prop := N 177 24 = tkS tp s ∧ N 177 23 = nxt tp s ∧ N 177 25 = tkK tp (tkS tp s)
def mtO (tp : List Int) (N : fp_Mem) (s : Int) : Prop := N 177 21 = 0 ∧ tkOk tp (tkS tp s) ∧ (tkK tp (tkS tp s) = 2 → N 177 26 = num tp s)
/-- what a step brings about -/
def smQ (tp : List Int) (M N : fp_Mem) (h : Int) : Prop := frW M N ∧ (N 177 24 = h ∧ N 177 23 = tkE tp h ∧ N 177 25 = tkK tp h) ∧ ((N 177 21 = 0 ∧ tkOk tp h ∧ (tkK tp h = 2 → N 177 26 = tkV tp h)) ∨ (¬ tkOk tp h ∧ mtB N h))
def smP (tp : List Int) (M N : fp_Mem) (s : Int) : Prop := frW M N ∧ mtG tp N s ∧ (mtO tp N s ∨ (¬ tkOk tp (tkS tp s) ∧ mtB N (tkS tp s)))
section MST
variable {l : Launch} {G : fp_WG} {M N : fp_Mem} {tp : List Int}
theorem mt_step1 (h21 : 1 ≤ M 177 21 ∧ M 177 21 ≤ 6) : fp_Ok l G 1 kX12_step [rV G 177] M (qW M) := by
  refine fp_Ok.of (r := 1) rfl (Nat.le_of_ble_eq_true rfl) rfl ?_
  refine S.aload_n (pc' := 1) dX12_step_0 rfl rfl rfl ?_
  refine S.getI (pc' := 4) dX12_step_1 rfl fX12_98 L_177 ?_
  refine S.if_le (pc' := 7) (tgt := 8) dX12_step_4 (by decide) rfl (by unfold fp_rng; omega) (fun h4 => ?_) (fun h4 => ?_)
  · exfalso; omega
  · refine S.vret dX12_step_7 rfl ?_
    rfl
theorem sm_out {v h : Int} (hj : frW M N) : frW M (fp_up (fp_up N 177 21 v) 177 22 h) := (hj.up (by omega)).up (by omega)
theorem mt_step {s : Int} (ht : tpOk tp) (hm : mtT M tp) (h21 : M 177 21 = 0) (hs : M 177 23 = s) (h0 : 0 ≤ s) (h1 : s ≤ (tp.length : Int)) : fp_Ok l G 1 kX12_step [rV G 177] M (qV fun N => smP tp M N s) := by
  refine fp_Ok.of (r := 1) rfl (Nat.le_of_ble_eq_true rfl) rfl ?_
  have hn := ht.1
  have hl := tkS_le h1
  have hE := tkE_le hl.2
  have hK : fp_S l G 1 kX12_step 34 [some (rV G 177), none] [] (fp_up M 177 23 (tkS tp s)) (qV fun N => smQ tp M N (tkS tp s)) := by
    generalize hh : tkS tp s = h at *
    unfold smQ
    have hb := mB_in (i := h) ht (by omega)
    have hifL := isLe_if (mB tp h)
    have hifF := isFi_if (mB tp h)
    have m1 : mtT (fp_up (fp_up M 177 23 h) 177 24 h) tp := (hm.up (by decide)).up (by decide)
    have e23 : fp_up M 177 23 h 177 23 = h := rfl
    have e23b : fp_up (fp_up M 177 23 h) 177 24 h 177 23 = h := rfl
    have f1 : frW M (fp_up (fp_up (fp_up M 177 23 h) 177 24 h) 177 26 0) := (((frW.refl M).up (by omega)).up (by omega)).up (by omega)
    have g1 : fp_up (fp_up (fp_up M 177 23 h) 177 24 h) 177 26 0 = fp_up (fp_up (fp_up M 177 24 h) 177 26 0) 177 23 h := by
      funext x y
      simp only [fp_up, fp_upM, fp_upf]
      by_cases hx : x = 177
      · simp only [hx, if_pos rfl]
        by_cases y1 : y = 23
        · subst y1; rfl
        · by_cases y2 : y = 24
          · subst y2; rfl
          · by_cases y3 : y = 26
            · subst y3; rfl
            · simp [fp_upf, y1, y2, y3]
      · simp [hx]
    by_cases hlt : h < (tp.length : Int)
    · have hbb : mB tp h = aBy tp h := by unfold mB; rw [if_pos hlt]
      have hby := ht.2 h (by omega) hlt
      rw [hbb] at hifL hifF hb
      by_cases hL : isLe (aBy tp h) = true
      · rw [if_pos hL] at hifL
        have kK : tkK tp h = 1 := by unfold tkK; rw [if_neg (by omega), if_pos hL]
        have kE : tkE tp h = aEnd isLe tp h := by unfold tkE; rw [if_neg (by omega), if_pos hL]
        rw [kK, kE]
        have hQ : ∀ o1, fp_S l G 1 kX12_step 118 [some (rV G 177), o1] [] (fp_up (fp_up (fp_up M 177 24 h) 177 26 0) 177 23 (aEnd isLe tp h)) (qV fun N => frW M N ∧ (N 177 24 = h ∧ N 177 23 = aEnd isLe tp h ∧ N 177 25 = 1) ∧ ((N 177 21 = 0 ∧ tkOk tp h ∧ ((1 : Int) = 2 → N 177 26 = tkV tp h)) ∨ (¬ tkOk tp h ∧ mtB N h))) := by
          intro o1
          refine S.aload_n (pc' := 119) dX12_step_118 rfl rfl rfl ?_
          refine S.iconst (pc' := 120) dX12_step_119 rfl ?_
          refine S.putI (pc' := 123) dX12_step_120 rfl fX12_107 L_177 ?_
          refine S.goto (pc' := 269) dX12_step_123 (by decide) ?_
          refine S.vret dX12_step_269 rfl ?_
          exact ⟨((((frW.refl M).up (by omega)).up (by omega)).up (by omega)).up (by omega), ⟨rfl, rfl, rfl⟩, Or.inl ⟨h21, Or.inr (Or.inl hL), fun q => absurd q (by decide)⟩⟩
        refine S.aload_n (pc' := 35) dX12_step_34 rfl rfl rfl ?_
        refine S.aload_n (pc' := 36) dX12_step_35 rfl rfl rfl ?_
        refine S.getI (pc' := 39) dX12_step_36 rfl fX12_110 L_177 ?_
        rw [e23]
        refine S.putI (pc' := 42) dX12_step_39 rfl fX12_101 L_177 ?_
        refine S.aload_n (pc' := 43) dX12_step_42 rfl rfl rfl ?_
        refine S.aload_n (pc' := 44) dX12_step_43 rfl rfl rfl ?_
        refine S.getI (pc' := 47) dX12_step_44 rfl fX12_110 L_177 ?_
        rw [e23b]
        refine S.callVe (pc' := 50) dX12_step_47 rfl cX12_113 (mt_byte ht m1 (by omega) hl.2) rfl L_177 (by decide) rfl (Nat.le_of_ble_eq_true rfl) ?_
        rw [hbb]
        refine S.istore_n (pc' := 51) (LL' := [_, _]) dX12_step_50 rfl (by decide) rfl rfl rfl ?_
        refine S.aload_n (pc' := 52) dX12_step_51 rfl rfl rfl ?_
        refine S.iconst (pc' := 53) dX12_step_52 rfl ?_
        refine S.putI (pc' := 56) dX12_step_53 rfl fX12_117 L_177 ?_
        refine S.iload_n (pc' := 57) dX12_step_56 rfl rfl rfl ?_
        refine S.bipush (pc' := 59) dX12_step_57 rfl (by decide) ?_
        refine S.icmp_ne (pc' := 62) (tgt := 70) dX12_step_59 (by decide) rfl (by unfold fp_rng; omega) (by unfold fp_rng; omega) (fun h59 => ?_) (fun h59 => ?_)
        · refine S.iload_n (pc' := 71) dX12_step_70 rfl rfl rfl ?_
          refine S.i2l (pc' := 72) dX12_step_71 rfl (by unfold fp_rng; omega) ?_
          refine S.ldc2 (pc' := 75) (v := 97) dX12_step_72 rfl lX12_120 (by decide) ?_
          refine S.ldc2 (pc' := 78) (v := 122) dX12_step_75 rfl lX12_122 (by decide) ?_
          refine S.callSe (pc' := 81) dX12_step_78 rfl cX12_94 ok_X12_in rfl (by decide) rfl (Nat.le_of_ble_eq_true rfl) ?_
          rw [hifL]
          refine S.if_eq (pc' := 84) (tgt := 126) dX12_step_81 (by decide) rfl (by unfold fp_rng; omega) (fun h81 => ?_) (fun h81 => ?_)
          · exfalso; omega
          · exact S.eqM g1 (mt_le _ ht ((hm.up (by decide)).up (by decide)) (hQ _) 1000 h (by omega) (by omega) hl.2 rfl)
        · exfalso; omega
      · rw [if_neg hL] at hifL
        by_cases hF : isFi (aBy tp h) = true
        · rw [if_pos hF] at hifF
          have kK : tkK tp h = 2 := by unfold tkK; rw [if_neg (by omega), if_neg hL, if_pos hF]
          have kE : tkE tp h = aEnd isFi tp h := by unfold tkE; rw [if_neg (by omega), if_neg hL, if_pos hF]
          have kV : tkV tp h = aDec tp h (aEnd isFi tp h - h).toNat := by unfold tkV; rw [kE]
          have hle := aEnd_le (P := isFi) (tp := tp) (i := h) (by omega)
          rw [kK, kE, kV]
          have hQ : ∀ o1, fp_S l G 1 kX12_step 217 [some (rV G 177), o1] [] (fp_up (fp_up (fp_up M 177 24 h) 177 26 (mV tp h (aEnd isFi tp h))) 177 23 (aEnd isFi tp h)) (qV fun N => frW M N ∧ (N 177 24 = h ∧ N 177 23 = aEnd isFi tp h ∧ N 177 25 = 2) ∧ ((N 177 21 = 0 ∧ tkOk tp h ∧ ((2 : Int) = 2 → N 177 26 = aDec tp h (aEnd isFi tp h - h).toNat)) ∨ (¬ tkOk tp h ∧ mtB N h))) := by
            intro o1
            have f2 : frW M (fp_up (fp_up (fp_up (fp_up M 177 24 h) 177 26 (mV tp h (aEnd isFi tp h))) 177 23 (aEnd isFi tp h)) 177 25 2) := ((((frW.refl M).up (by omega)).up (by omega)).up (by omega)).up (by omega)
            have x23 : fp_up (fp_up (fp_up (fp_up M 177 24 h) 177 26 (mV tp h (aEnd isFi tp h))) 177 23 (aEnd isFi tp h)) 177 25 2 177 23 = aEnd isFi tp h := rfl
            have x24 : fp_up (fp_up (fp_up (fp_up M 177 24 h) 177 26 (mV tp h (aEnd isFi tp h))) 177 23 (aEnd isFi tp h)) 177 25 2 177 24 = h := rfl
            have x21 : fp_up (fp_up (fp_up (fp_up M 177 24 h) 177 26 (mV tp h (aEnd isFi tp h))) 177 23 (aEnd isFi tp h)) 177 25 2 177 21 = 0 := h21
            by_cases h2 : aEnd isFi tp h - h ≤ 2
            · refine S.aload_n (pc' := 218) dX12_step_217 rfl rfl rfl ?_
              refine S.iconst (pc' := 219) dX12_step_218 rfl ?_
              refine S.putI (pc' := 222) dX12_step_219 rfl fX12_107 L_177 ?_
              refine S.aload_n (pc' := 223) dX12_step_222 rfl rfl rfl ?_
              refine S.getI (pc' := 226) dX12_step_223 rfl fX12_110 L_177 ?_
              refine S.aload_n (pc' := 227) dX12_step_226 rfl rfl rfl ?_
              refine S.getI (pc' := 230) dX12_step_227 rfl fX12_101 L_177 ?_
              refine S.isub (pc' := 231) dX12_step_230 rfl ?_
              refine S.iconst (pc' := 232) dX12_step_231 rfl ?_
              rw [x23, x24]
              refine S.icmp_le (pc' := 235) (tgt := 269) dX12_step_232 (by decide) rfl (by unfold fp_rng; omega) (by unfold fp_rng; omega) (fun h232 => ?_) (fun h232 => ?_)
              · refine S.vret dX12_step_269 rfl ?_
                refine ⟨f2, ⟨rfl, rfl, rfl⟩, Or.inl ⟨h21, Or.inr (Or.inr (Or.inl ⟨hF, h2⟩)), fun _ => ?_⟩⟩
                show mV tp h (aEnd isFi tp h) = _
                unfold mV
                rw [show min (aEnd isFi tp h - h).toNat 2 = (aEnd isFi tp h - h).toNat by omega]
              · exfalso; omega
            · have hno : ¬ tkOk tp h := by
                intro q
                rcases q with q | q | q | q
                · omega
                · exact hL q
                · exact h2 q.2
                · rw [hF] at q; exact absurd q.1 (by decide)
              refine S.aload_n (pc' := 218) dX12_step_217 rfl rfl rfl ?_
              refine S.iconst (pc' := 219) dX12_step_218 rfl ?_
              refine S.putI (pc' := 222) dX12_step_219 rfl fX12_107 L_177 ?_
              refine S.aload_n (pc' := 223) dX12_step_222 rfl rfl rfl ?_
              refine S.getI (pc' := 226) dX12_step_223 rfl fX12_110 L_177 ?_
              refine S.aload_n (pc' := 227) dX12_step_226 rfl rfl rfl ?_
              refine S.getI (pc' := 230) dX12_step_227 rfl fX12_101 L_177 ?_
              refine S.isub (pc' := 231) dX12_step_230 rfl ?_
              refine S.iconst (pc' := 232) dX12_step_231 rfl ?_
              rw [x23, x24]
              refine S.icmp_le (pc' := 235) (tgt := 269) dX12_step_232 (by decide) rfl (by unfold fp_rng; omega) (by unfold fp_rng; omega) (fun h232 => ?_) (fun h232 => ?_)
              · refine S.vret dX12_step_269 rfl ?_
                first
                | (exfalso; omega)
                | exact ⟨sm_out f2, ⟨rfl, rfl, rfl⟩, Or.inr ⟨hno, ⟨(by decide : (1 : Int) ≤ 1 ∧ (1 : Int) ≤ 6), rfl⟩⟩⟩
              · refine S.aload_n (pc' := 236) dX12_step_235 rfl rfl rfl ?_
                refine S.iconst (pc' := 237) dX12_step_236 rfl ?_
                refine S.callVw (pc' := 240) dX12_step_237 rfl cX12_128 (mt_fails0 x21) rfl L_177 (by decide) rfl (Nat.le_of_ble_eq_true rfl) ?_
                refine S.goto (pc' := 269) dX12_step_240 (by decide) ?_
                refine S.vret dX12_step_269 rfl ?_
                first
                | (exfalso; omega)
                | exact ⟨sm_out f2, ⟨rfl, rfl, rfl⟩, Or.inr ⟨hno, ⟨(by decide : (1 : Int) ≤ 1 ∧ (1 : Int) ≤ 6), rfl⟩⟩⟩
          refine S.aload_n (pc' := 35) dX12_step_34 rfl rfl rfl ?_
          refine S.aload_n (pc' := 36) dX12_step_35 rfl rfl rfl ?_
          refine S.getI (pc' := 39) dX12_step_36 rfl fX12_110 L_177 ?_
          rw [e23]
          refine S.putI (pc' := 42) dX12_step_39 rfl fX12_101 L_177 ?_
          refine S.aload_n (pc' := 43) dX12_step_42 rfl rfl rfl ?_
          refine S.aload_n (pc' := 44) dX12_step_43 rfl rfl rfl ?_
          refine S.getI (pc' := 47) dX12_step_44 rfl fX12_110 L_177 ?_
          rw [e23b]
          refine S.callVe (pc' := 50) dX12_step_47 rfl cX12_113 (mt_byte ht m1 (by omega) hl.2) rfl L_177 (by decide) rfl (Nat.le_of_ble_eq_true rfl) ?_
          rw [hbb]
          refine S.istore_n (pc' := 51) (LL' := [_, _]) dX12_step_50 rfl (by decide) rfl rfl rfl ?_
          refine S.aload_n (pc' := 52) dX12_step_51 rfl rfl rfl ?_
          refine S.iconst (pc' := 53) dX12_step_52 rfl ?_
          refine S.putI (pc' := 56) dX12_step_53 rfl fX12_117 L_177 ?_
          refine S.iload_n (pc' := 57) dX12_step_56 rfl rfl rfl ?_
          refine S.bipush (pc' := 59) dX12_step_57 rfl (by decide) ?_
          refine S.icmp_ne (pc' := 62) (tgt := 70) dX12_step_59 (by decide) rfl (by unfold fp_rng; omega) (by unfold fp_rng; omega) (fun h59 => ?_) (fun h59 => ?_)
          · refine S.iload_n (pc' := 71) dX12_step_70 rfl rfl rfl ?_
            refine S.i2l (pc' := 72) dX12_step_71 rfl (by unfold fp_rng; omega) ?_
            refine S.ldc2 (pc' := 75) (v := 97) dX12_step_72 rfl lX12_120 (by decide) ?_
            refine S.ldc2 (pc' := 78) (v := 122) dX12_step_75 rfl lX12_122 (by decide) ?_
            refine S.callSe (pc' := 81) dX12_step_78 rfl cX12_94 ok_X12_in rfl (by decide) rfl (Nat.le_of_ble_eq_true rfl) ?_
            rw [hifL]
            refine S.if_eq (pc' := 84) (tgt := 126) dX12_step_81 (by decide) rfl (by unfold fp_rng; omega) (fun h81 => ?_) (fun h81 => ?_)
            · refine S.iload_n (pc' := 127) dX12_step_126 rfl rfl rfl ?_
              refine S.i2l (pc' := 128) dX12_step_127 rfl (by unfold fp_rng; omega) ?_
              refine S.ldc2 (pc' := 131) (v := 48) dX12_step_128 rfl lX12_124 (by decide) ?_
              refine S.ldc2 (pc' := 134) (v := 57) dX12_step_131 rfl lX12_126 (by decide) ?_
              refine S.callSe (pc' := 137) dX12_step_134 rfl cX12_94 ok_X12_in rfl (by decide) rfl (Nat.le_of_ble_eq_true rfl) ?_
              rw [hifF]
              refine S.if_eq (pc' := 140) (tgt := 243) dX12_step_137 (by decide) rfl (by unfold fp_rng; omega) (fun h137 => ?_) (fun h137 => ?_)
              · exfalso; omega
              · refine S.eqM (g1.trans ?_) (mt_fi (M := fp_up M 177 24 h) (h := h) _ ht (hm.up (by decide)) rfl (hQ _) 1000 h (by omega) (by omega) (by omega) hl.2 rfl)
                unfold mV
                rw [show min (h - h).toNat 2 = 0 by omega]
                rfl
            · exact absurd rfl h81
          · exfalso; omega
        · rw [if_neg hF] at hifF
          have kK : tkK tp h = 3 := by unfold tkK; rw [if_neg (by omega), if_neg hL, if_neg hF]
          have kE : tkE tp h = h + 1 := by unfold tkE; rw [if_neg (by omega), if_neg hL, if_neg hF]
          rw [kK, kE]
          have x23 : fp_up (fp_up (fp_up (fp_up M 177 23 h) 177 24 h) 177 26 0) 177 25 3 177 23 = h := rfl
          have x21 : fp_up (fp_up (fp_up (fp_up (fp_up M 177 23 h) 177 24 h) 177 26 0) 177 25 3) 177 23 (h + 1) 177 21 = 0 := h21
          have f2 := (f1.up (j := 25) (z := 3) (by omega)).up (j := 23) (z := h + 1) (by omega)
          have hok := tkOk_sign hlt hL hF
          refine S.aload_n (pc' := 35) dX12_step_34 rfl rfl rfl ?_
          refine S.aload_n (pc' := 36) dX12_step_35 rfl rfl rfl ?_
          refine S.getI (pc' := 39) dX12_step_36 rfl fX12_110 L_177 ?_
          rw [e23]
          refine S.putI (pc' := 42) dX12_step_39 rfl fX12_101 L_177 ?_
          refine S.aload_n (pc' := 43) dX12_step_42 rfl rfl rfl ?_
          refine S.aload_n (pc' := 44) dX12_step_43 rfl rfl rfl ?_
          refine S.getI (pc' := 47) dX12_step_44 rfl fX12_110 L_177 ?_
          rw [e23b]
          refine S.callVe (pc' := 50) dX12_step_47 rfl cX12_113 (mt_byte ht m1 (by omega) hl.2) rfl L_177 (by decide) rfl (Nat.le_of_ble_eq_true rfl) ?_
          rw [hbb]
          refine S.istore_n (pc' := 51) (LL' := [_, _]) dX12_step_50 rfl (by decide) rfl rfl rfl ?_
          refine S.aload_n (pc' := 52) dX12_step_51 rfl rfl rfl ?_
          refine S.iconst (pc' := 53) dX12_step_52 rfl ?_
          refine S.putI (pc' := 56) dX12_step_53 rfl fX12_117 L_177 ?_
          refine S.iload_n (pc' := 57) dX12_step_56 rfl rfl rfl ?_
          refine S.bipush (pc' := 59) dX12_step_57 rfl (by decide) ?_
          refine S.icmp_ne (pc' := 62) (tgt := 70) dX12_step_59 (by decide) rfl (by unfold fp_rng; omega) (by unfold fp_rng; omega) (fun h59 => ?_) (fun h59 => ?_)
          · refine S.iload_n (pc' := 71) dX12_step_70 rfl rfl rfl ?_
            refine S.i2l (pc' := 72) dX12_step_71 rfl (by unfold fp_rng; omega) ?_
            refine S.ldc2 (pc' := 75) (v := 97) dX12_step_72 rfl lX12_120 (by decide) ?_
            refine S.ldc2 (pc' := 78) (v := 122) dX12_step_75 rfl lX12_122 (by decide) ?_
            refine S.callSe (pc' := 81) dX12_step_78 rfl cX12_94 ok_X12_in rfl (by decide) rfl (Nat.le_of_ble_eq_true rfl) ?_
            rw [hifL]
            refine S.if_eq (pc' := 84) (tgt := 126) dX12_step_81 (by decide) rfl (by unfold fp_rng; omega) (fun h81 => ?_) (fun h81 => ?_)
            · refine S.iload_n (pc' := 127) dX12_step_126 rfl rfl rfl ?_
              refine S.i2l (pc' := 128) dX12_step_127 rfl (by unfold fp_rng; omega) ?_
              refine S.ldc2 (pc' := 131) (v := 48) dX12_step_128 rfl lX12_124 (by decide) ?_
              refine S.ldc2 (pc' := 134) (v := 57) dX12_step_131 rfl lX12_126 (by decide) ?_
              refine S.callSe (pc' := 137) dX12_step_134 rfl cX12_94 ok_X12_in rfl (by decide) rfl (Nat.le_of_ble_eq_true rfl) ?_
              rw [hifF]
              refine S.if_eq (pc' := 140) (tgt := 243) dX12_step_137 (by decide) rfl (by unfold fp_rng; omega) (fun h137 => ?_) (fun h137 => ?_)
              · refine S.aload_n (pc' := 244) dX12_step_243 rfl rfl rfl ?_
                refine S.iconst (pc' := 245) dX12_step_244 rfl ?_
                refine S.putI (pc' := 248) dX12_step_245 rfl fX12_107 L_177 ?_
                refine S.aload_n (pc' := 249) dX12_step_248 rfl rfl rfl ?_
                refine S.dup (pc' := 250) dX12_step_249 rfl rfl ?_
                refine S.getI (pc' := 253) dX12_step_250 rfl fX12_110 L_177 ?_
                refine S.iconst (pc' := 254) dX12_step_253 rfl ?_
                refine S.iadd (pc' := 255) dX12_step_254 rfl ?_
                rw [x23]
                refine S.putI (pc' := 258) dX12_step_255 rfl fX12_110 L_177 ?_
                refine S.iload_n (pc' := 259) dX12_step_258 rfl rfl rfl ?_
                refine S.bipush (pc' := 261) dX12_step_259 rfl (by decide) ?_
                refine S.icmp_eq (pc' := 264) (tgt := 269) dX12_step_261 (by decide) rfl (by unfold fp_rng; omega) (by unfold fp_rng; omega) (fun h261 => ?_) (fun h261 => ?_)
                · refine S.vret dX12_step_269 rfl ?_
                  first
                  | exact ⟨f2, ⟨rfl, rfl, rfl⟩, Or.inl ⟨h21, hok.mpr h261, fun q => absurd q (by decide)⟩⟩
                  | exact ⟨sm_out f2, ⟨rfl, rfl, rfl⟩, Or.inr ⟨fun q => h261 (hok.mp q), ⟨(by decide : (1 : Int) ≤ 1 ∧ (1 : Int) ≤ 6), rfl⟩⟩⟩
                · refine S.aload_n (pc' := 265) dX12_step_264 rfl rfl rfl ?_
                  refine S.iconst (pc' := 266) dX12_step_265 rfl ?_
                  refine S.callVw (pc' := 269) dX12_step_266 rfl cX12_128 (mt_fails0 x21) rfl L_177 (by decide) rfl (Nat.le_of_ble_eq_true rfl) ?_
                  refine S.vret dX12_step_269 rfl ?_
                  first
                  | exact ⟨f2, ⟨rfl, rfl, rfl⟩, Or.inl ⟨h21, hok.mpr h261, fun q => absurd q (by decide)⟩⟩
                  | exact ⟨sm_out f2, ⟨rfl, rfl, rfl⟩, Or.inr ⟨fun q => h261 (hok.mp q), ⟨(by decide : (1 : Int) ≤ 1 ∧ (1 : Int) ≤ 6), rfl⟩⟩⟩
              · exact absurd rfl h137
            · exact absurd rfl h81
          · exfalso; omega
    · have hbb : mB tp h = -4 := by unfold mB; rw [if_neg hlt]
      have kK : tkK tp h = 0 := by unfold tkK; rw [if_pos (by omega)]
      have kE : tkE tp h = h := by unfold tkE; rw [if_pos (by omega)]
      rw [kK, kE]
      refine S.aload_n (pc' := 35) dX12_step_34 rfl rfl rfl ?_
      refine S.aload_n (pc' := 36) dX12_step_35 rfl rfl rfl ?_
      refine S.getI (pc' := 39) dX12_step_36 rfl fX12_110 L_177 ?_
      rw [e23]
      refine S.putI (pc' := 42) dX12_step_39 rfl fX12_101 L_177 ?_
      refine S.aload_n (pc' := 43) dX12_step_42 rfl rfl rfl ?_
      refine S.aload_n (pc' := 44) dX12_step_43 rfl rfl rfl ?_
      refine S.getI (pc' := 47) dX12_step_44 rfl fX12_110 L_177 ?_
      rw [e23b]
      refine S.callVe (pc' := 50) dX12_step_47 rfl cX12_113 (mt_byte ht m1 (by omega) hl.2) rfl L_177 (by decide) rfl (Nat.le_of_ble_eq_true rfl) ?_
      rw [hbb]
      refine S.istore_n (pc' := 51) (LL' := [_, _]) dX12_step_50 rfl (by decide) rfl rfl rfl ?_
      refine S.aload_n (pc' := 52) dX12_step_51 rfl rfl rfl ?_
      refine S.iconst (pc' := 53) dX12_step_52 rfl ?_
      refine S.putI (pc' := 56) dX12_step_53 rfl fX12_117 L_177 ?_
      refine S.iload_n (pc' := 57) dX12_step_56 rfl rfl rfl ?_
      refine S.bipush (pc' := 59) dX12_step_57 rfl (by decide) ?_
      refine S.icmp_ne (pc' := 62) (tgt := 70) dX12_step_59 (by decide) rfl (by unfold fp_rng; omega) (by unfold fp_rng; omega) (fun h59 => ?_) (fun h59 => ?_)
      · exact absurd rfl h59
      · refine S.aload_n (pc' := 63) dX12_step_62 rfl rfl rfl ?_
        refine S.iconst (pc' := 64) dX12_step_63 rfl ?_
        refine S.putI (pc' := 67) dX12_step_64 rfl fX12_107 L_177 ?_
        refine S.goto (pc' := 269) dX12_step_67 (by decide) ?_
        refine S.vret dX12_step_269 rfl ?_
        exact ⟨f1.up (by omega), ⟨rfl, rfl, rfl⟩, Or.inl ⟨h21, Or.inl (by omega), fun q => absurd q (by decide)⟩⟩
  refine S.aload_n (pc' := 1) dX12_step_0 rfl rfl rfl ?_
  refine S.getI (pc' := 4) dX12_step_1 rfl fX12_98 L_177 ?_
  rw [h21]
  refine S.if_le (pc' := 7) (tgt := 8) dX12_step_4 (by decide) rfl (by unfold fp_rng; omega) (fun h4 => ?_) (fun h4 => ?_)
  · exact S.eqM (show M = fp_up M 177 23 s by rw [← hs]; exact (fp_up_self M 177 23).symm) (mt_sp _ ht hm hK _ s rfl h0 h1 rfl)
  · exfalso; omega
end MST
end
section
/-! THE REFERENCE HOLDS A NAME AGAINST THE WORDS -/
def nmF (tp : List Int) (h : Int) : Nat → Nat → Int
  | 0, _ => -4
  | r + 1, i => if nmW tp h i = true then (i : Int) else nmF tp h r (i + 1)
theorem nmF_no {tp : List Int} {h : Int} (hk : ¬ tkK tp h = 1) : ∀ r i, nmF tp h r i = -4
  | 0, _ => rfl
  | r + 1, i => by
    unfold nmF
    rw [if_neg, nmF_no hk r (i + 1)]
    unfold nmW
    simp [hk]
theorem nmF_in {tp : List Int} {h : Int} : ∀ r i, nmF tp h r i = -4 ∨ ((i : Int) ≤ nmF tp h r i ∧ nmF tp h r i < i + r)
  | 0, _ => Or.inl rfl
  | r + 1, i => by
    unfold nmF
    split
    · right; omega
    · have := nmF_in (tp := tp) (h := h) r (i + 1)
      omega
theorem fp_cuts : ∀ i, i < 8 → 0 ≤ fp_cutL.getD i 0 ∧ fp_cutL.getD (i + 1) 0 = fp_cutL.getD i 0 + ((fp_wd i).length : Int) ∧ fp_cutL.getD (i + 1) 0 ≤ 42 ∧ ∀ j, j < (fp_wd i).length → fp_letL.getD (fp_cutL.getD i 0 + (j : Int)).toNat 0 = (fp_wd i).getD j 0 := by decide +kernel
theorem fp_cutB : ∀ i, i < 9 → 0 ≤ fp_cutL.getD i 0 ∧ fp_cutL.getD i 0 ≤ 42 := by decide +kernel
section MNM
variable {l : Launch} {G : fp_WG} {M N : fp_Mem} {tp : List Int}
theorem mn_b0 {Q : fp_Q} {i j : Int} (K : fp_S l G 1 kX12_nameHere 112 [some (rV G 177), some (iV i), some (iV 0), some (iV j)] [] M Q) : fp_S l G 1 kX12_nameHere 51 [some (rV G 177), some (iV i), some (iV 0), some (iV j)] [] M Q := by
  refine S.iload_n (pc' := 52) dX12_nameHere_51 rfl rfl rfl ?_
  refine S.if_eq (pc' := 55) (tgt := 106) dX12_nameHere_52 (by decide) rfl (by unfold fp_rng; omega) (fun h52 => ?_) (fun h52 => ?_)
  · refine S.iload_n (pc' := 107) dX12_nameHere_106 rfl rfl rfl ?_
    refine S.if_eq (pc' := 110) (tgt := 112) dX12_nameHere_107 (by decide) rfl (by unfold fp_rng; omega) (fun h107 => ?_) (fun h107 => ?_)
    · exact K
    · exact absurd rfl h107
  · exact absurd rfl h52
theorem mn_in {i : Nat} {h e : Int} {Q : fp_Q} (ht : tpOk tp) (hm : mtT M tp) (hK : msK M) (h24 : M 177 24 = h) (h23 : M 177 23 = e) (hh : 0 ≤ h) (he : e ≤ (tp.length : Int)) (i8 : i < 8) (hl : e - h = ((fp_wd i).length : Int)) (K1 : ∀ j, wdIs tp h e (fp_wd i) → fp_S l G 1 kX12_nameHere 110 [some (rV G 177), some (iV i), some (iV 1), some (iV j)] [] M Q) (K0 : ∀ j, ¬ wdIs tp h e (fp_wd i) → fp_S l G 1 kX12_nameHere 112 [some (rV G 177), some (iV i), some (iV 0), some (iV j)] [] M Q) : ∀ (r : Nat) (j : Int), (((fp_wd i).length : Int) - j).toNat < r → 0 ≤ j → j ≤ ((fp_wd i).length : Int) → (∀ k : Int, 0 ≤ k → k < j → aBy tp (h + k) = (fp_wd i).getD k.toNat 0) →
    fp_S l G 1 kX12_nameHere 51 [some (rV G 177), some (iV i), some (iV 1), some (iV j)] [] M Q := by
  have hn := ht.1
  obtain ⟨c1, c2, c3, c4⟩ := fp_cuts i i8
  have c5 := hK.1 i (by omega)
  intro r
  induction r with
  | zero => intro j hr; omega
  | succ r ih =>
    intro j hr j0 j1 hk
    by_cases hj : j < ((fp_wd i).length : Int)
    · have hb := ht.2 (h + j) (by omega) (by omega)
      have hbb : mB tp (h + j) = aBy tp (h + j) := by unfold mB; rw [if_pos (by omega)]
      have c6 : M 188 (fp_cutL.getD i 0 + j).toNat = (fp_wd i).getD j.toNat 0 := by
        rw [hK.2 _ (by omega), ← c4 j.toNat (by omega), Int.toNat_of_nonneg j0]
      have hw := (fp_wd_ok i i8).2 j j0 hj
      refine S.iload_n (pc' := 52) dX12_nameHere_51 rfl rfl rfl ?_
      refine S.if_eq (pc' := 55) (tgt := 106) dX12_nameHere_52 (by decide) rfl (by unfold fp_rng; omega) (fun h52 => ?_) (fun h52 => ?_)
      · exfalso; first | omega | skip
      · refine S.iload_n (pc' := 56) dX12_nameHere_55 rfl rfl rfl ?_
        refine S.aload_n (pc' := 57) dX12_nameHere_56 rfl rfl rfl ?_
        refine S.getI (pc' := 60) dX12_nameHere_57 rfl fX12_110 L_177 ?_
        refine S.aload_n (pc' := 61) dX12_nameHere_60 rfl rfl rfl ?_
        refine S.getI (pc' := 64) dX12_nameHere_61 rfl fX12_101 L_177 ?_
        refine S.isub (pc' := 65) dX12_nameHere_64 rfl ?_
        rw [h23, h24]
        refine S.icmp_ge (pc' := 68) (tgt := 106) dX12_nameHere_65 (by decide) rfl (by unfold fp_rng; omega) (by unfold fp_rng; omega) (fun h65 => ?_) (fun h65 => ?_)
        · exfalso; first | omega | skip
        · refine S.aload_n (pc' := 69) dX12_nameHere_68 rfl rfl rfl ?_
          refine S.aload_n (pc' := 70) dX12_nameHere_69 rfl rfl rfl ?_
          refine S.getI (pc' := 73) dX12_nameHere_70 rfl fX12_101 L_177 ?_
          refine S.iload_n (pc' := 74) dX12_nameHere_73 rfl rfl rfl ?_
          refine S.iadd (pc' := 75) dX12_nameHere_74 rfl ?_
          rw [h24]
          refine S.callVe (pc' := 78) dX12_nameHere_75 rfl cX12_113 (mt_byte ht hm (by omega) (by omega)) rfl L_177 (by decide) rfl (Nat.le_of_ble_eq_true rfl) ?_
          rw [hbb]
          refine S.aload_n (pc' := 79) dX12_nameHere_78 rfl rfl rfl ?_
          refine S.getR (pc' := 82) dX12_nameHere_79 rfl fX12_44 L_177 rf_177_28 ?_
          refine S.aload_n (pc' := 83) dX12_nameHere_82 rfl rfl rfl ?_
          refine S.getR (pc' := 86) dX12_nameHere_83 rfl fX12_41 L_177 rf_177_27 ?_
          refine S.iload_n (pc' := 87) dX12_nameHere_86 rfl rfl rfl ?_
          refine S.iald (pc' := 88) dX12_nameHere_87 rfl L_187 (by omega) (by omega) ?_
          rw [Int.toNat_natCast, c5]
          refine S.iload_n (pc' := 89) dX12_nameHere_88 rfl rfl rfl ?_
          refine S.iadd (pc' := 90) dX12_nameHere_89 rfl ?_
          refine S.iald (pc' := 91) dX12_nameHere_90 rfl L_188 (by omega) (by omega) ?_
          rw [c6]
          refine S.icmp_ne (pc' := 94) (tgt := 98) dX12_nameHere_91 (by decide) rfl (by unfold fp_rng; omega) (by unfold fp_rng; omega) (fun h91 => ?_) (fun h91 => ?_)
          · refine S.iconst (pc' := 99) dX12_nameHere_98 rfl ?_
            refine S.istore_n (pc' := 100) (LL' := [_, _, _, _]) dX12_nameHere_99 rfl (by decide) rfl rfl rfl ?_
            refine S.iinc (pc' := 103) (LL' := [_, _, _, _]) dX12_nameHere_100 rfl (by decide) rfl rfl rfl ?_
            refine S.goto (pc' := 51) dX12_nameHere_103 (by decide) ?_
            first
            | exact mn_b0 (K0 _ (fun q => h91 (q.2 j j0 hj)))
            | (refine ih (j + 1) (by omega) (by omega) (by omega) (fun k k0 k1 => ?_)
               by_cases ek : k = j
               · subst ek; exact h91
               · exact hk k k0 (by omega))
          · refine S.iconst (pc' := 95) dX12_nameHere_94 rfl ?_
            refine S.goto (pc' := 99) dX12_nameHere_95 (by decide) ?_
            refine S.istore_n (pc' := 100) (LL' := [_, _, _, _]) dX12_nameHere_99 rfl (by decide) rfl rfl rfl ?_
            refine S.iinc (pc' := 103) (LL' := [_, _, _, _]) dX12_nameHere_100 rfl (by decide) rfl rfl rfl ?_
            refine S.goto (pc' := 51) dX12_nameHere_103 (by decide) ?_
            first
            | exact mn_b0 (K0 _ (fun q => h91 (q.2 j j0 hj)))
            | (refine ih (j + 1) (by omega) (by omega) (by omega) (fun k k0 k1 => ?_)
               by_cases ek : k = j
               · subst ek; exact h91
               · exact hk k k0 (by omega))
    · refine S.iload_n (pc' := 52) dX12_nameHere_51 rfl rfl rfl ?_
      refine S.if_eq (pc' := 55) (tgt := 106) dX12_nameHere_52 (by decide) rfl (by unfold fp_rng; omega) (fun h52 => ?_) (fun h52 => ?_)
      · refine S.iload_n (pc' := 107) dX12_nameHere_106 rfl rfl rfl ?_
        refine S.if_eq (pc' := 110) (tgt := 112) dX12_nameHere_107 (by decide) rfl (by unfold fp_rng; omega) (fun h107 => ?_) (fun h107 => ?_)
        · first | exact absurd h107 (by decide) | (exfalso; omega)
        · exact K1 _ ⟨hl, fun k k0 k1 => hk k k0 (by omega)⟩
      · refine S.iload_n (pc' := 56) dX12_nameHere_55 rfl rfl rfl ?_
        refine S.aload_n (pc' := 57) dX12_nameHere_56 rfl rfl rfl ?_
        refine S.getI (pc' := 60) dX12_nameHere_57 rfl fX12_110 L_177 ?_
        refine S.aload_n (pc' := 61) dX12_nameHere_60 rfl rfl rfl ?_
        refine S.getI (pc' := 64) dX12_nameHere_61 rfl fX12_101 L_177 ?_
        refine S.isub (pc' := 65) dX12_nameHere_64 rfl ?_
        rw [h23, h24]
        refine S.icmp_ge (pc' := 68) (tgt := 106) dX12_nameHere_65 (by decide) rfl (by unfold fp_rng; omega) (by unfold fp_rng; omega) (fun h65 => ?_) (fun h65 => ?_)
        · refine S.iload_n (pc' := 107) dX12_nameHere_106 rfl rfl rfl ?_
          refine S.if_eq (pc' := 110) (tgt := 112) dX12_nameHere_107 (by decide) rfl (by unfold fp_rng; omega) (fun h107 => ?_) (fun h107 => ?_)
          · first | exact absurd h107 (by decide) | (exfalso; omega)
          · exact K1 _ ⟨hl, fun k k0 k1 => hk k k0 (by omega)⟩
        · exfalso; omega
theorem mt_name {h : Int} (ht : tpOk tp) (hm : mtT M tp) (hK : msK M) (h24 : M 177 24 = h) (h23 : M 177 23 = tkE tp h) (h25 : M 177 25 = tkK tp h) (hh : 0 ≤ h) (hle : h ≤ (tp.length : Int)) : fp_Ok l G 1 kX12_nameHere [rV G 177] M (qE (nmF tp h 8 0) M) := by
  refine fp_Ok.of (r := 3) rfl (Nat.le_of_ble_eq_true rfl) rfl ?_
  have hn := ht.1
  have hE := tkE_le hle
  have hkk := tkK_in tp h
  by_cases hk : tkK tp h = 1
  · have hL : ∀ (r i : Nat) (o2 o3 : Option Value), i + r = 8 → fp_S l G 1 kX12_nameHere 2 [some (rV G 177), some (iV i), o2, o3] [] M (qE (nmF tp h r i) M) := by
      intro r
      induction r with
      | zero =>
        intro i o2 o3 hi
        refine S.iload_n (pc' := 3) dX12_nameHere_2 rfl rfl rfl ?_
        refine S.bipush (pc' := 5) dX12_nameHere_3 rfl (by decide) ?_
        refine S.icmp_ge (pc' := 8) (tgt := 118) dX12_nameHere_5 (by decide) rfl (by unfold fp_rng; omega) (by unfold fp_rng; omega) (fun h5 => ?_) (fun h5 => ?_)
        · refine S.bipush (pc' := 120) dX12_nameHere_118 rfl (by decide) ?_
          refine S.iret dX12_nameHere_120 rfl ?_
          exact ⟨rfl, rfl⟩
        · exfalso; omega
      | succ r ih =>
        intro i o2 o3 hi
        have i8 : i < 8 := by omega
        obtain ⟨c1, c2, c3, c4⟩ := fp_cuts i i8
        have c5 := hK.1 i (by omega)
        have c7 : M 187 ((i : Int) + 1).toNat = fp_cutL.getD (i + 1) 0 := by
          rw [show ((i : Int) + 1).toNat = i + 1 by omega]
          exact hK.1 (i + 1) (by omega)
        have hw : nmW tp h i = true ↔ wdIs tp h (tkE tp h) (fp_wd i) := by
          rw [← wdB_iff]
          unfold nmW
          simp [hk]
        have K0 : ∀ o j, ¬ wdIs tp h (tkE tp h) (fp_wd i) → fp_S l G 1 kX12_nameHere 112 [some (rV G 177), some (iV i), o, some (iV j)] [] M (qE (nmF tp h (r + 1) i) M) := by
          intro o j q
          unfold nmF
          rw [if_neg (fun x => q (hw.mp x))]
          refine S.iinc (pc' := 115) (LL' := [_, _, _, _]) dX12_nameHere_112 rfl (by decide) rfl rfl rfl ?_
          refine S.goto (pc' := 2) dX12_nameHere_115 (by decide) ?_
          exact ih (i + 1) _ _ (by omega)
        have K1 : ∀ o j, wdIs tp h (tkE tp h) (fp_wd i) → fp_S l G 1 kX12_nameHere 110 [some (rV G 177), some (iV i), o, some (iV j)] [] M (qE (nmF tp h (r + 1) i) M) := by
          intro o j q
          unfold nmF
          rw [if_pos (hw.mpr q)]
          refine S.iload_n (pc' := 111) dX12_nameHere_110 rfl rfl rfl ?_
          refine S.iret dX12_nameHere_111 rfl ?_
          exact ⟨rfl, rfl⟩
        refine S.iload_n (pc' := 3) dX12_nameHere_2 rfl rfl rfl ?_
        refine S.bipush (pc' := 5) dX12_nameHere_3 rfl (by decide) ?_
        refine S.icmp_ge (pc' := 8) (tgt := 118) dX12_nameHere_5 (by decide) rfl (by unfold fp_rng; omega) (by unfold fp_rng; omega) (fun h5 => ?_) (fun h5 => ?_)
        · exfalso; omega
        · refine S.aload_n (pc' := 9) dX12_nameHere_8 rfl rfl rfl ?_
          refine S.getI (pc' := 12) dX12_nameHere_9 rfl fX12_107 L_177 ?_
          refine S.iconst (pc' := 13) dX12_nameHere_12 rfl ?_
          rw [h25, hk]
          refine S.icmp_ne (pc' := 16) (tgt := 118) dX12_nameHere_13 (by decide) rfl (by unfold fp_rng; omega) (by unfold fp_rng; omega) (fun h13 => ?_) (fun h13 => ?_)
          · exfalso; omega
          · refine S.aload_n (pc' := 17) dX12_nameHere_16 rfl rfl rfl ?_
            refine S.getI (pc' := 20) dX12_nameHere_17 rfl fX12_110 L_177 ?_
            refine S.aload_n (pc' := 21) dX12_nameHere_20 rfl rfl rfl ?_
            refine S.getI (pc' := 24) dX12_nameHere_21 rfl fX12_101 L_177 ?_
            refine S.isub (pc' := 25) dX12_nameHere_24 rfl ?_
            refine S.aload_n (pc' := 26) dX12_nameHere_25 rfl rfl rfl ?_
            refine S.getR (pc' := 29) dX12_nameHere_26 rfl fX12_41 L_177 rf_177_27 ?_
            refine S.iload_n (pc' := 30) dX12_nameHere_29 rfl rfl rfl ?_
            refine S.iconst (pc' := 31) dX12_nameHere_30 rfl ?_
            refine S.iadd (pc' := 32) dX12_nameHere_31 rfl ?_
            refine S.iald (pc' := 33) dX12_nameHere_32 rfl L_187 (by omega) (by omega) ?_
            refine S.aload_n (pc' := 34) dX12_nameHere_33 rfl rfl rfl ?_
            refine S.getR (pc' := 37) dX12_nameHere_34 rfl fX12_41 L_177 rf_177_27 ?_
            refine S.iload_n (pc' := 38) dX12_nameHere_37 rfl rfl rfl ?_
            refine S.iald (pc' := 39) dX12_nameHere_38 rfl L_187 (by omega) (by omega) ?_
            refine S.isub (pc' := 40) dX12_nameHere_39 rfl ?_
            rw [h23, h24, Int.toNat_natCast, c5, c7]
            refine S.icmp_ne (pc' := 43) (tgt := 47) dX12_nameHere_40 (by decide) rfl (by unfold fp_rng; omega) (by unfold fp_rng; omega) (fun h40 => ?_) (fun h40 => ?_)
            · refine S.iconst (pc' := 48) dX12_nameHere_47 rfl ?_
              refine S.istore_n (pc' := 49) (LL' := [_, _, _, _]) dX12_nameHere_48 rfl (by decide) rfl rfl rfl ?_
              refine S.iconst (pc' := 50) dX12_nameHere_49 rfl ?_
              refine S.istore_n (pc' := 51) (LL' := [_, _, _, _]) dX12_nameHere_50 rfl (by decide) rfl rfl rfl ?_
              first
              | exact mn_b0 (K0 _ _ (fun q => by have := q.1; omega))
              | exact mn_in ht hm hK h24 h23 hh (by omega) i8 (by omega) (fun j => K1 _ j) (fun j => K0 _ j) 100 0 (by have := (fp_wd_ok i i8).1; omega) (by omega) (by omega) (fun k k0 k1 => by omega)
            · refine S.iconst (pc' := 44) dX12_nameHere_43 rfl ?_
              refine S.goto (pc' := 48) dX12_nameHere_44 (by decide) ?_
              refine S.istore_n (pc' := 49) (LL' := [_, _, _, _]) dX12_nameHere_48 rfl (by decide) rfl rfl rfl ?_
              refine S.iconst (pc' := 50) dX12_nameHere_49 rfl ?_
              refine S.istore_n (pc' := 51) (LL' := [_, _, _, _]) dX12_nameHere_50 rfl (by decide) rfl rfl rfl ?_
              first
              | exact mn_b0 (K0 _ _ (fun q => by have := q.1; omega))
              | exact mn_in ht hm hK h24 h23 hh (by omega) i8 (by omega) (fun j => K1 _ j) (fun j => K0 _ j) 100 0 (by have := (fp_wd_ok i i8).1; omega) (by omega) (by omega) (fun k k0 k1 => by omega)
    refine S.iconst (pc' := 1) dX12_nameHere_0 rfl ?_
    refine S.istore_n (pc' := 2) (LL' := [_, _, _, _]) dX12_nameHere_1 rfl (by decide) rfl rfl rfl ?_
    exact hL 8 0 _ _ rfl
  · rw [nmF_no hk]
    refine S.iconst (pc' := 1) dX12_nameHere_0 rfl ?_
    refine S.istore_n (pc' := 2) (LL' := [_, _, _, _]) dX12_nameHere_1 rfl (by decide) rfl rfl rfl ?_
    refine S.iload_n (pc' := 3) dX12_nameHere_2 rfl rfl rfl ?_
    refine S.bipush (pc' := 5) dX12_nameHere_3 rfl (by decide) ?_
    refine S.icmp_ge (pc' := 8) (tgt := 118) dX12_nameHere_5 (by decide) rfl (by unfold fp_rng; omega) (by unfold fp_rng; omega) (fun h5 => ?_) (fun h5 => ?_)
    · refine S.bipush (pc' := 120) dX12_nameHere_118 rfl (by decide) ?_
      refine S.iret dX12_nameHere_120 rfl ?_
      exact ⟨rfl, rfl⟩
    · refine S.aload_n (pc' := 9) dX12_nameHere_8 rfl rfl rfl ?_
      refine S.getI (pc' := 12) dX12_nameHere_9 rfl fX12_107 L_177 ?_
      refine S.iconst (pc' := 13) dX12_nameHere_12 rfl ?_
      rw [h25]
      refine S.icmp_ne (pc' := 16) (tgt := 118) dX12_nameHere_13 (by decide) rfl (by unfold fp_rng; omega) (by unfold fp_rng; omega) (fun h13 => ?_) (fun h13 => ?_)
      · refine S.bipush (pc' := 120) dX12_nameHere_118 rfl (by decide) ?_
        refine S.iret dX12_nameHere_120 rfl ?_
        exact ⟨rfl, rfl⟩
      · exact absurd h13 hk
end MNM
end
section
/-! THE REFERENCE READS A NUMBER -/
/-- where the reading stands: refused at h, or at s -/
def mq (tp : List Int) (N : fp_Mem) : Int ⊕ Int → Prop
  | .inl h => mtB N h
  | .inr s => (0 ≤ s ∧ s ≤ (tp.length : Int)) ∧ mtG tp N s ∧ (mtO tp N s ∨ (¬ tkOk tp (tkS tp s) ∧ mtB N (tkS tp s)))
def nuR (tp : List Int) (lo hi : Int) : Int ⊕ Int → Int ⊕ Int
  | .inl h => .inl h
  | .inr s => if nmOk tp s lo hi then .inr (nxt tp s) else .inl (tkS tp s)
def nuV (tp : List Int) (lo hi : Int) : Int ⊕ Int → Int
  | .inl _ => lo
  | .inr s => if nmOk tp s lo hi then num tp s else lo
theorem nuV_in {tp : List Int} {lo hi : Int} (r : Int ⊕ Int) (h : lo ≤ hi) : lo ≤ nuV tp lo hi r ∧ nuV tp lo hi r ≤ hi := by
  unfold nuV
  split
  · omega
  · split
    · rename_i s q
      exact q.2.2
    · omega
theorem mq.fr {tp : List Int} {M N : fp_Mem} {r : Int ⊕ Int} (h : mq tp M r) (e : ∀ j, 21 ≤ j → j ≤ 26 → N 177 j = M 177 j) : mq tp N r := by
  cases r with
  | inl x =>
    unfold mq mtB at *
    rw [e 21 (by omega) (by omega), e 22 (by omega) (by omega)]
    exact h
  | inr s =>
    unfold mq mtB mtG mtO at *
    simp only at h ⊢
    rw [e 21 (by omega) (by omega), e 22 (by omega) (by omega), e 23 (by omega) (by omega), e 24 (by omega) (by omega), e 25 (by omega) (by omega), e 26 (by omega) (by omega)]
    exact h
section MNU
variable {l : Launch} {G : fp_WG} {M N : fp_Mem} {tp : List Int}
theorem mt_looks1 {lo hi : Int} (h21 : 1 ≤ M 177 21 ∧ M 177 21 ≤ 6) : fp_Ok l G 1 kX12_looks [rV G 177, iV lo, iV hi] M (qW M) := by
  refine fp_Ok.of (r := 0) rfl (Nat.le_of_ble_eq_true rfl) rfl ?_
  refine S.aload_n (pc' := 1) dX12_looks_0 rfl rfl rfl ?_
  refine S.getI (pc' := 4) dX12_looks_1 rfl fX12_98 L_177 ?_
  refine S.if_ne (pc' := 7) (tgt := 20) dX12_looks_4 (by decide) rfl (by unfold fp_rng; omega) (fun h4 => ?_) (fun h4 => ?_)
  · refine S.aload_n (pc' := 21) dX12_looks_20 rfl rfl rfl ?_
    refine S.getI (pc' := 24) dX12_looks_21 rfl fX12_98 L_177 ?_
    refine S.if_ne (pc' := 27) (tgt := 47) dX12_looks_24 (by decide) rfl (by unfold fp_rng; omega) (fun h24 => ?_) (fun h24 => ?_)
    · refine S.vret dX12_looks_47 rfl ?_
      rfl
    · exfalso; omega
  · exfalso; omega
def lkN (tp : List Int) (M : fp_Mem) (s lo hi : Int) (N : fp_Mem) : Prop := (nmOk tp s lo hi ∧ N = M) ∨ (¬ nmOk tp s lo hi ∧ ∃ w, (1 ≤ w ∧ w ≤ 6) ∧ N = fp_up (fp_up M 177 21 w) 177 22 (tkS tp s))
theorem mt_lk20 {P : fp_Mem → Prop} {lo hi : Int} (h21 : 1 ≤ M 177 21 ∧ M 177 21 ≤ 6) (K : P M) : fp_S l G 1 kX12_looks 20 [some (rV G 177), some (iV lo), some (iV hi)] [] M (qV P) := by
  refine S.aload_n (pc' := 21) dX12_looks_20 rfl rfl rfl ?_
  refine S.getI (pc' := 24) dX12_looks_21 rfl fX12_98 L_177 ?_
  refine S.if_ne (pc' := 27) (tgt := 47) dX12_looks_24 (by decide) rfl (by unfold fp_rng; omega) (fun h24 => ?_) (fun h24 => ?_)
  · refine S.vret dX12_looks_47 rfl ?_
    exact K
  · exfalso; omega
theorem mt_looks {s lo hi : Int} (hs : s ≤ (tp.length : Int)) (hg : mtG tp M s) (ho : mtO tp M s) (hlo : fp_rng lo) (hhi : fp_rng hi) : fp_Ok l G 1 kX12_looks [rV G 177, iV lo, iV hi] M (qV fun N => lkN tp M s lo hi N) := by
  refine fp_Ok.of (r := 0) rfl (Nat.le_of_ble_eq_true rfl) rfl ?_
  obtain ⟨g1, g2, g3⟩ := hg
  obtain ⟨o1, o2, o3⟩ := ho
  have hkk := tkK_in tp (tkS tp s)
  unfold fp_rng at hlo hhi
  by_cases hk : tkK tp (tkS tp s) = 2
  · have hv := tkV_in (tkS_le hs).2 hk o2
    have e26 := o3 hk
    have en : num tp s = tkV tp (tkS tp s) := rfl
    refine S.aload_n (pc' := 1) dX12_looks_0 rfl rfl rfl ?_
    refine S.getI (pc' := 4) dX12_looks_1 rfl fX12_98 L_177 ?_
    rw [o1]
    refine S.if_ne (pc' := 7) (tgt := 20) dX12_looks_4 (by decide) rfl (by unfold fp_rng; omega) (fun h4 => ?_) (fun h4 => ?_)
    · refine S.aload_n (pc' := 21) dX12_looks_20 rfl rfl rfl ?_
      refine S.getI (pc' := 24) dX12_looks_21 rfl fX12_98 L_177 ?_
      rw [o1]
      refine S.if_ne (pc' := 27) (tgt := 47) dX12_looks_24 (by decide) rfl (by unfold fp_rng; omega) (fun h24 => ?_) (fun h24 => ?_)
      · first
        | exact absurd rfl h4
        | exact absurd rfl h24
        | (refine S.vret dX12_looks_47 rfl (Or.inl ⟨⟨o2, hk, ?_⟩, rfl⟩); rw [← en]; split at h39 <;> omega)
        | (refine S.vret dX12_looks_47 rfl (Or.inr ⟨fun q => ?_, 3, by omega, by rw [g1]⟩); have := q.2.2; rw [← en] at this; rw [if_pos this] at h39; omega)
      · refine S.aload_n (pc' := 28) dX12_looks_27 rfl rfl rfl ?_
        refine S.getI (pc' := 31) dX12_looks_28 rfl fX12_117 L_177 ?_
        rw [e26]
        refine S.i2l (pc' := 32) dX12_looks_31 rfl (by unfold fp_rng; omega) ?_
        refine S.iload_n (pc' := 33) dX12_looks_32 rfl rfl rfl ?_
        refine S.i2l (pc' := 34) dX12_looks_33 rfl (by unfold fp_rng; omega) ?_
        refine S.iload_n (pc' := 35) dX12_looks_34 rfl rfl rfl ?_
        refine S.i2l (pc' := 36) dX12_looks_35 rfl (by unfold fp_rng; omega) ?_
        refine S.callSe (pc' := 39) dX12_looks_36 rfl cX12_94 ok_X12_in rfl (by decide) rfl (Nat.le_of_ble_eq_true rfl) ?_
        refine S.if_ne (pc' := 42) (tgt := 47) dX12_looks_39 (by decide) rfl (by unfold fp_rng; split <;> omega) (fun h39 => ?_) (fun h39 => ?_)
        · first
          | exact absurd rfl h4
          | exact absurd rfl h24
          | (refine S.vret dX12_looks_47 rfl (Or.inl ⟨⟨o2, hk, ?_⟩, rfl⟩); rw [← en]; split at h39 <;> omega)
          | (refine S.vret dX12_looks_47 rfl (Or.inr ⟨fun q => ?_, 3, by omega, by rw [g1]⟩); have := q.2.2; rw [← en] at this; rw [if_pos this] at h39; omega)
        · refine S.aload_n (pc' := 43) dX12_looks_42 rfl rfl rfl ?_
          refine S.iconst (pc' := 44) dX12_looks_43 rfl ?_
          refine S.callVw (pc' := 47) dX12_looks_44 rfl cX12_128 (mt_fails0 o1) rfl L_177 (by decide) rfl (Nat.le_of_ble_eq_true rfl) ?_
          first
          | exact absurd rfl h4
          | exact absurd rfl h24
          | (refine S.vret dX12_looks_47 rfl (Or.inl ⟨⟨o2, hk, ?_⟩, rfl⟩); rw [← en]; split at h39 <;> omega)
          | (refine S.vret dX12_looks_47 rfl (Or.inr ⟨fun q => ?_, 3, by omega, by rw [g1]⟩); have := q.2.2; rw [← en] at this; rw [if_pos this] at h39; omega)
    · refine S.aload_n (pc' := 8) dX12_looks_7 rfl rfl rfl ?_
      refine S.getI (pc' := 11) dX12_looks_8 rfl fX12_107 L_177 ?_
      refine S.iconst (pc' := 12) dX12_looks_11 rfl ?_
      rw [g3, hk]
      refine S.icmp_eq (pc' := 15) (tgt := 20) dX12_looks_12 (by decide) rfl (by unfold fp_rng; omega) (by unfold fp_rng; omega) (fun h12 => ?_) (fun h12 => ?_)
      · refine S.aload_n (pc' := 21) dX12_looks_20 rfl rfl rfl ?_
        refine S.getI (pc' := 24) dX12_looks_21 rfl fX12_98 L_177 ?_
        rw [o1]
        refine S.if_ne (pc' := 27) (tgt := 47) dX12_looks_24 (by decide) rfl (by unfold fp_rng; omega) (fun h24 => ?_) (fun h24 => ?_)
        · first
          | exact absurd rfl h4
          | exact absurd rfl h24
          | (refine S.vret dX12_looks_47 rfl (Or.inl ⟨⟨o2, hk, ?_⟩, rfl⟩); rw [← en]; split at h39 <;> omega)
          | (refine S.vret dX12_looks_47 rfl (Or.inr ⟨fun q => ?_, 3, by omega, by rw [g1]⟩); have := q.2.2; rw [← en] at this; rw [if_pos this] at h39; omega)
        · refine S.aload_n (pc' := 28) dX12_looks_27 rfl rfl rfl ?_
          refine S.getI (pc' := 31) dX12_looks_28 rfl fX12_117 L_177 ?_
          rw [e26]
          refine S.i2l (pc' := 32) dX12_looks_31 rfl (by unfold fp_rng; omega) ?_
          refine S.iload_n (pc' := 33) dX12_looks_32 rfl rfl rfl ?_
          refine S.i2l (pc' := 34) dX12_looks_33 rfl (by unfold fp_rng; omega) ?_
          refine S.iload_n (pc' := 35) dX12_looks_34 rfl rfl rfl ?_
          refine S.i2l (pc' := 36) dX12_looks_35 rfl (by unfold fp_rng; omega) ?_
          refine S.callSe (pc' := 39) dX12_looks_36 rfl cX12_94 ok_X12_in rfl (by decide) rfl (Nat.le_of_ble_eq_true rfl) ?_
          refine S.if_ne (pc' := 42) (tgt := 47) dX12_looks_39 (by decide) rfl (by unfold fp_rng; split <;> omega) (fun h39 => ?_) (fun h39 => ?_)
          · first
            | exact absurd rfl h4
            | exact absurd rfl h24
            | (refine S.vret dX12_looks_47 rfl (Or.inl ⟨⟨o2, hk, ?_⟩, rfl⟩); rw [← en]; split at h39 <;> omega)
            | (refine S.vret dX12_looks_47 rfl (Or.inr ⟨fun q => ?_, 3, by omega, by rw [g1]⟩); have := q.2.2; rw [← en] at this; rw [if_pos this] at h39; omega)
          · refine S.aload_n (pc' := 43) dX12_looks_42 rfl rfl rfl ?_
            refine S.iconst (pc' := 44) dX12_looks_43 rfl ?_
            refine S.callVw (pc' := 47) dX12_looks_44 rfl cX12_128 (mt_fails0 o1) rfl L_177 (by decide) rfl (Nat.le_of_ble_eq_true rfl) ?_
            first
            | exact absurd rfl h4
            | exact absurd rfl h24
            | (refine S.vret dX12_looks_47 rfl (Or.inl ⟨⟨o2, hk, ?_⟩, rfl⟩); rw [← en]; split at h39 <;> omega)
            | (refine S.vret dX12_looks_47 rfl (Or.inr ⟨fun q => ?_, 3, by omega, by rw [g1]⟩); have := q.2.2; rw [← en] at this; rw [if_pos this] at h39; omega)
      · exact absurd rfl h12
  · refine S.aload_n (pc' := 1) dX12_looks_0 rfl rfl rfl ?_
    refine S.getI (pc' := 4) dX12_looks_1 rfl fX12_98 L_177 ?_
    rw [o1]
    refine S.if_ne (pc' := 7) (tgt := 20) dX12_looks_4 (by decide) rfl (by unfold fp_rng; omega) (fun h4 => ?_) (fun h4 => ?_)
    · first
      | exact absurd rfl h4
      | exact absurd h12 hk
      | exact mt_lk20 (show (1 : Int) ≤ 2 ∧ (2 : Int) ≤ 6 by decide) (Or.inr ⟨fun q => hk q.2.1, 2, by omega, by rw [g1]⟩)
    · refine S.aload_n (pc' := 8) dX12_looks_7 rfl rfl rfl ?_
      refine S.getI (pc' := 11) dX12_looks_8 rfl fX12_107 L_177 ?_
      refine S.iconst (pc' := 12) dX12_looks_11 rfl ?_
      rw [g3]
      refine S.icmp_eq (pc' := 15) (tgt := 20) dX12_looks_12 (by decide) rfl (by unfold fp_rng; omega) (by unfold fp_rng; omega) (fun h12 => ?_) (fun h12 => ?_)
      · first
        | exact absurd rfl h4
        | exact absurd h12 hk
        | exact mt_lk20 (show (1 : Int) ≤ 2 ∧ (2 : Int) ≤ 6 by decide) (Or.inr ⟨fun q => hk q.2.1, 2, by omega, by rw [g1]⟩)
      · refine S.aload_n (pc' := 16) dX12_looks_15 rfl rfl rfl ?_
        refine S.iconst (pc' := 17) dX12_looks_16 rfl ?_
        refine S.callVw (pc' := 20) dX12_looks_17 rfl cX12_128 (mt_fails0 o1) rfl L_177 (by decide) rfl (Nat.le_of_ble_eq_true rfl) ?_
        first
        | exact absurd rfl h4
        | exact absurd h12 hk
        | exact mt_lk20 (show (1 : Int) ≤ 2 ∧ (2 : Int) ≤ 6 by decide) (Or.inr ⟨fun q => hk q.2.1, 2, by omega, by rw [g1]⟩)
theorem mt_numA {s lo hi : Int} (ht : tpOk tp) (hm : mtT M tp) (hs : 0 ≤ s ∧ s ≤ (tp.length : Int)) (hg : mtG tp M s) (ho : mtO tp M s) (hk : nmOk tp s lo hi) : fp_S l G 2 kX12_number 6 [some (rV G 177), some (iV lo), some (iV hi), none] [] M (qI fun z N => frW M N ∧ mq tp N (.inr (nxt tp s)) ∧ z = num tp s) := by
  have hx := nxt_le hs.2
  have e26 := ho.2.2 hk.2.1
  have o1 := ho.1
  refine S.aload_n (pc' := 7) dX12_number_6 rfl rfl rfl ?_
  refine S.getI (pc' := 10) dX12_number_7 rfl fX12_98 L_177 ?_
  rw [o1]
  refine S.if_ne (pc' := 13) (tgt := 20) dX12_number_10 (by decide) rfl (by unfold fp_rng; omega) (fun h10 => ?_) (fun h10 => ?_)
  · exact absurd rfl h10
  · refine S.aload_n (pc' := 14) dX12_number_13 rfl rfl rfl ?_
    refine S.getI (pc' := 17) dX12_number_14 rfl fX12_117 L_177 ?_
    refine S.goto (pc' := 21) dX12_number_17 (by decide) ?_
    rw [e26]
    refine S.istore_n (pc' := 22) (LL' := [_, _, _, _]) dX12_number_21 rfl (by decide) rfl rfl rfl ?_
    refine S.aload_n (pc' := 23) dX12_number_22 rfl rfl rfl ?_
    refine S.callVv (pc' := 26) dX12_number_23 rfl cX12_136 (mt_step ht hm o1 hg.2.1 (by omega) hx.2) rfl L_177 (by decide) rfl (Nat.le_of_ble_eq_true rfl) (fun M23 q23 => ?_)
    refine S.iload_n (pc' := 27) dX12_number_26 rfl rfl rfl ?_
    refine S.iret dX12_number_27 rfl ?_
    exact ⟨q23.1, ⟨⟨by omega, hx.2⟩, q23.2.1, q23.2.2⟩, rfl⟩
theorem mt_numB {s w lo hi : Int} (hw : 1 ≤ w ∧ w ≤ 6) : fp_S l G 2 kX12_number 6 [some (rV G 177), some (iV lo), some (iV hi), none] [] (fp_up (fp_up M 177 21 w) 177 22 s) (qI fun z N => frW M N ∧ mq tp N (.inl s) ∧ z = lo) := by
  have e21 : fp_up (fp_up M 177 21 w) 177 22 s 177 21 = w := rfl
  refine S.aload_n (pc' := 7) dX12_number_6 rfl rfl rfl ?_
  refine S.getI (pc' := 10) dX12_number_7 rfl fX12_98 L_177 ?_
  rw [e21]
  refine S.if_ne (pc' := 13) (tgt := 20) dX12_number_10 (by decide) rfl (by unfold fp_rng; omega) (fun h10 => ?_) (fun h10 => ?_)
  · refine S.iload_n (pc' := 21) dX12_number_20 rfl rfl rfl ?_
    refine S.istore_n (pc' := 22) (LL' := [_, _, _, _]) dX12_number_21 rfl (by decide) rfl rfl rfl ?_
    refine S.aload_n (pc' := 23) dX12_number_22 rfl rfl rfl ?_
    refine S.callVw (pc' := 26) dX12_number_23 rfl cX12_136 (mt_step1 (by rw [e21]; exact hw)) rfl L_177 (by decide) rfl (Nat.le_of_ble_eq_true rfl) ?_
    refine S.iload_n (pc' := 27) dX12_number_26 rfl rfl rfl ?_
    refine S.iret dX12_number_27 rfl ?_
    exact ⟨sm_out (frW.refl M), ⟨hw, rfl⟩, rfl⟩
  · exfalso; omega
theorem mt_number {r : Int ⊕ Int} {lo hi : Int} (ht : tpOk tp) (hm : mtT M tp) (hq : mq tp M r) (hlo : fp_rng lo) (hhi : fp_rng hi) : fp_Ok l G 2 kX12_number [rV G 177, iV lo, iV hi] M (qI fun z N => frW M N ∧ mq tp N (nuR tp lo hi r) ∧ z = nuV tp lo hi r) := by
  refine fp_Ok.of (r := 1) rfl (Nat.le_of_ble_eq_true rfl) rfl ?_
  have hbr : ∀ h, mtB M h → fp_S l G 2 kX12_number 0 [some (rV G 177), some (iV lo), some (iV hi), none] [] M (qI fun z N => N = M ∧ z = lo) := by
    intro h hb
    have h21 := hb.1
    refine S.aload_n (pc' := 1) dX12_number_0 rfl rfl rfl ?_
    refine S.iload_n (pc' := 2) dX12_number_1 rfl rfl rfl ?_
    refine S.iload_n (pc' := 3) dX12_number_2 rfl rfl rfl ?_
    refine S.callVw (pc' := 6) dX12_number_3 rfl cX12_132 (mt_looks1 h21) rfl L_177 (by decide) rfl (Nat.le_of_ble_eq_true rfl) ?_
    refine S.aload_n (pc' := 7) dX12_number_6 rfl rfl rfl ?_
    refine S.getI (pc' := 10) dX12_number_7 rfl fX12_98 L_177 ?_
    refine S.if_ne (pc' := 13) (tgt := 20) dX12_number_10 (by decide) rfl (by unfold fp_rng; omega) (fun h10 => ?_) (fun h10 => ?_)
    · refine S.iload_n (pc' := 21) dX12_number_20 rfl rfl rfl ?_
      refine S.istore_n (pc' := 22) (LL' := [_, _, _, _]) dX12_number_21 rfl (by decide) rfl rfl rfl ?_
      refine S.aload_n (pc' := 23) dX12_number_22 rfl rfl rfl ?_
      refine S.callVw (pc' := 26) dX12_number_23 rfl cX12_136 (mt_step1 h21) rfl L_177 (by decide) rfl (Nat.le_of_ble_eq_true rfl) ?_
      refine S.iload_n (pc' := 27) dX12_number_26 rfl rfl rfl ?_
      refine S.iret dX12_number_27 rfl ?_
      exact ⟨rfl, rfl⟩
    · exfalso; omega
  cases r with
  | inl h =>
    refine fp_S.wI (hbr h hq) (fun z N q => ?_)
    obtain ⟨rfl, rfl⟩ := q
    exact ⟨frW.refl _, hq, rfl⟩
  | inr s =>
    obtain ⟨hs, hg, ho⟩ := hq
    have hx := nxt_le hs.2
    rcases ho with ho | ⟨hno, hb⟩
    · unfold nuR nuV
      simp only
      refine S.aload_n (pc' := 1) dX12_number_0 rfl rfl rfl ?_
      refine S.iload_n (pc' := 2) dX12_number_1 rfl rfl rfl ?_
      refine S.iload_n (pc' := 3) dX12_number_2 rfl rfl rfl ?_
      refine S.callVv (pc' := 6) dX12_number_3 rfl cX12_132 (mt_looks hs.2 hg ho hlo hhi) rfl L_177 (by decide) rfl (Nat.le_of_ble_eq_true rfl) (fun M3 q3 => ?_)
      rcases q3 with ⟨a1, rfl⟩ | ⟨a1, w, hw, rfl⟩
      · rw [if_pos a1, if_pos a1]
        exact mt_numA ht hm hs hg ho a1
      · rw [if_neg a1, if_neg a1]
        exact mt_numB hw
    · refine fp_S.wI (hbr _ hb) (fun z N q => ?_)
      obtain ⟨rfl, rfl⟩ := q
      unfold nuR nuV
      simp only
      rw [if_neg (fun q => hno q.1), if_neg (fun q => hno q.1)]
      exact ⟨frW.refl _, hb, rfl⟩
end MNU
end
section
/-! WHAT A TEXT TELLS: the reference's rows for it -/
def frQ (M N : fp_Mem) : Prop := (∀ a, (a < 177 ∨ (177 < a ∧ a < 182) ∨ 185 < a) → N a = M a) ∧ ∀ j, (j < 11 ∨ j = 18 ∨ j = 19 ∨ j = 20 ∨ 26 < j) → N 177 j = M 177 j
theorem frQ.refl (M : fp_Mem) : frQ M M := ⟨fun _ _ => rfl, fun _ _ => rfl⟩
theorem frQ.trans {M N O : fp_Mem} (h : frQ M N) (h2 : frQ N O) : frQ M O := ⟨fun a ha => (h2.1 a ha).trans (h.1 a ha), fun j hj => (h2.2 j hj).trans (h.2 j hj)⟩
theorem frW.Q {M N : fp_Mem} (h : frW M N) : frQ M N := ⟨fun a ha => h.1 a (by omega), fun j hj => h.2 j (by omega)⟩
theorem frQ.up {M N : fp_Mem} (h : frQ M N) {k j : Nat} {z : Int} (hk : (182 ≤ k ∧ k ≤ 185) ∨ (k = 177 ∧ ((11 ≤ j ∧ j ≤ 17) ∨ (21 ≤ j ∧ j ≤ 26)))) : frQ M (fp_up N k j z) := by
  refine ⟨fun a ha => by rw [fp_up_ne (by omega)]; exact h.1 a ha, fun i hi => ?_⟩
  by_cases e : k = 177
  · subst e
    rw [fp_up_at, fp_upf_ne (by omega)]; exact h.2 i hi
  · rw [fp_up_ne (fun q => e q.symm)]; exact h.2 i hi
theorem frQ.T {M N : fp_Mem} {tp : List Int} (h : frQ M N) (hm : mtT M tp) : mtT N tp := ⟨by rw [h.2 19 (by omega)]; exact hm.1, fun i i0 i1 => by rw [h.1 186 (by omega)]; exact hm.2 i i0 i1⟩
theorem frQ.K {M N : fp_Mem} (h : frQ M N) (hm : msK M) : msK N := by
  unfold msK at *
  rw [h.1 187 (by omega), h.1 188 (by omega)]; exact hm
/-- what stays in the rows between two texts is within bounds -/
def mrI (M : fp_Mem) : Prop := (∀ i : Int, 0 ≤ i → i < 10 → 0 ≤ M 183 i.toNat ∧ M 183 i.toNat ≤ 9) ∧ (∀ i : Int, 0 ≤ i → i < 40 → 0 ≤ M 184 i.toNat ∧ M 184 i.toNat ≤ 20) ∧ ∀ x : Int, 0 ≤ x → x < 3 → 0 ≤ M 185 x.toNat ∧ M 185 x.toNat ≤ 2
theorem mrI.kept {M N : fp_Mem} (h : mrI M) (e3 : N 183 = M 183) (e4 : N 184 = M 184) (e5 : N 185 = M 185) : mrI N := by
  unfold mrI at *
  rw [e3, e4, e5]; exact h
def mrG (M : fp_Mem) (g : aGd) : Prop := M 177 11 = g.1 ∧ M 177 12 = g.2.1 ∧ M 177 13 = g.2.2.1 ∧ (∀ t, 0 ≤ t → t < g.1 → M 183 t.toNat = g.2.2.2.1 t) ∧ (∀ t p, 0 ≤ t → t < g.1 → 0 ≤ p → p < 4 → M 184 (4 * t + p).toNat = g.2.2.2.2.1 t p) ∧ ∀ x, 0 ≤ x → x < g.2.1 → M 185 x.toNat = g.2.2.2.2.2 x
def mrP (f : Nat → Int) (g : aGd) (wh : Int → Int) (ln : Int → List Int) : Prop := (∀ t, 0 ≤ t → t < g.1 → f t.toNat = wh t) ∧ ∀ x : Int, 0 ≤ x → x < 3 → f (10 + 9 * x).toNat = (ln x).length ∧ ∀ i : Int, 0 ≤ i → i < (ln x).length → f (10 + 9 * x + 1 + i).toNat = (ln x).getD i.toNat 0
def mrH (a b : Int) (ln : Int → List Int) (vs : List aVt) : Prop := (-1 ≤ a ∧ a ≤ 9) ∧ (-1 ≤ b ∧ b ≤ 2) ∧ (∀ n, 0 ≤ n → (a < n ↔ (∀ x t, 0 ≤ x → x < 3 → t ∈ ln x → t < n) ∧ ∀ v ∈ vs, v.2.2.2 < n)) ∧ ∀ n, 0 ≤ n → (b < n ↔ ∀ v ∈ vs, v.2.2.1 < n)
def mrD (M : fp_Mem) (D : pD) : Prop := mrG M D.1 ∧ mrP (M 182) D.1 D.2.1 D.2.2.1 ∧ mvRow (M 182) D.2.2.2.2.2 ∧ M 177 17 = D.2.2.2.1 ∧ M 177 14 = D.2.2.2.2.1 ∧ M 182 104 = 0 ∧ mrH (M 177 15) (M 177 16) D.2.2.1 D.2.2.2.2.2
theorem mrD.kept {M N : fp_Mem} {D : pD} (h : mrD M D) (e : ∀ a, 182 ≤ a → a ≤ 185 → N a = M a) (f : ∀ j, 11 ≤ j → j ≤ 17 → N 177 j = M 177 j) : mrD N D := by
  unfold mrD mrG at *
  rw [e 182 (by omega) (by omega), e 183 (by omega) (by omega), e 184 (by omega) (by omega), e 185 (by omega) (by omega), f 11 (by omega) (by omega), f 12 (by omega) (by omega), f 13 (by omega) (by omega), f 14 (by omega) (by omega), f 15 (by omega) (by omega), f 16 (by omega) (by omega), f 17 (by omega) (by omega)]
  exact h
theorem frW.D {M N : fp_Mem} {D : pD} (h : frW M N) (hd : mrD M D) : mrD N D := hd.kept (fun a a0 a1 => h.1 a (by omega)) (fun j j0 j1 => h.2 j (by omega))
theorem frW.I {M N : fp_Mem} (h : frW M N) (hd : mrI M) : mrI N := hd.kept (h.1 183 (by decide)) (h.1 184 (by decide)) (h.1 185 (by decide))
theorem fp_Ok.wI {l : Launch} {G : fp_WG} {d : Nat} {Y : fp_MR} {a : List Value} {M : fp_Mem} {P P' : Int → fp_Mem → Prop} (h : fp_Ok l G d Y a M (qI P)) (hq : ∀ z N, P z N → P' z N) : fp_Ok l G d Y a M (qI P') := h.weaken (fun r N ⟨z, e, q⟩ => ⟨z, e, hq z N q⟩)
theorem fp_Ok.wV {l : Launch} {G : fp_WG} {d : Nat} {Y : fp_MR} {a : List Value} {M : fp_Mem} {P P' : fp_Mem → Prop} (h : fp_Ok l G d Y a M (qV P)) (hq : ∀ N, P N → P' N) : fp_Ok l G d Y a M (qV P') := h.weaken (fun r N ⟨e, q⟩ => ⟨e, hq N q⟩)
/-- N is A but for the token and the fault -/
def aT (tp : List Int) (A N : fp_Mem) (r : Int ⊕ Int) : Prop := frW A N ∧ mq tp N r
section AT
variable {l : Launch} {G : fp_WG} {M N A : fp_Mem} {tp : List Int} {r r' : Int ⊕ Int}
theorem aT.up (h : aT tp A N r) {k j : Nat} {z : Int} (hk : k ≠ 177 ∨ j < 21 ∨ 26 < j) : aT tp (fp_up A k j z) (fp_up N k j z) r := by
  obtain ⟨h1, h2⟩ := h
  refine ⟨⟨fun a ha => ?_, fun i hi => ?_⟩, h2.fr (fun i i0 i1 => ?_)⟩
  · by_cases e : a = k
    · subst e; rw [fp_up_at, fp_up_at, h1.1 a ha]
    · rw [fp_up_ne e, fp_up_ne e]; exact h1.1 a ha
  · by_cases e : 177 = k
    · subst e
      rw [fp_up_at, fp_up_at]
      by_cases ei : i = j
      · subst ei; simp [fp_upf]
      · rw [fp_upf_ne ei, fp_upf_ne ei]; exact h1.2 i hi
    · rw [fp_up_ne e, fp_up_ne e]; exact h1.2 i hi
  · by_cases e : 177 = k
    · subst e
      rw [fp_up_at, fp_upf_ne (by omega)]
    · rw [fp_up_ne e]
theorem aT.rd (h : aT tp A N r) {k j : Nat} (hk : k ≠ 177 ∨ j < 21 ∨ 26 < j) : N k j = A k j := by
  by_cases e : k = 177
  · subst e; exact h.1.2 j (by omega)
  · rw [h.1.1 k e]
theorem mt_nu {lo hi : Int} (ht : tpOk tp) (h : aT tp A M r) (hm : mtT A tp) (hlo : fp_rng lo) (hhi : fp_rng hi) : fp_Ok l G 2 kX12_number [rV G 177, iV lo, iV hi] M (qI fun z N => aT tp A N (nuR tp lo hi r) ∧ z = nuV tp lo hi r) :=
  fp_Ok.wI (mt_number ht (h.1.T hm) h.2 hlo hhi) (fun z N q => ⟨⟨h.1.trans q.1, q.2.1⟩, q.2.2⟩)
theorem mt_st {s : Int} (ht : tpOk tp) (h : aT tp A M (.inr s)) (ho : mtO tp M s) (hm : mtT A tp) : fp_Ok l G 1 kX12_step [rV G 177] M (qV fun N => aT tp A N (.inr (nxt tp s))) := by
  have hx := nxt_le h.2.1.2
  have h0 := h.2.1.1
  exact fp_Ok.wV (mt_step ht (h.1.T hm) ho.1 h.2.2.1.2.1 (by omega) hx.2) (fun N q => ⟨h.1.trans q.1, ⟨⟨by omega, hx.2⟩, q.2.1, q.2.2⟩⟩)
end AT
/-- the STOP -/
def stR (tp : List Int) : Int ⊕ Int → Int ⊕ Int
  | .inl h => .inl h
  | .inr s => if spOk tp s then .inr (nxt tp s) else .inl (tkS tp s)
def toR : Int ⊕ (Int × pD) → Int ⊕ Int
  | .inl h => .inl h
  | .inr q => .inr q.1
def rlP (tp : List Int) (M N : fp_Mem) (p : Int ⊕ (Int × pD)) : Prop := frQ M N ∧ mrI N ∧ ∃ r, mq tp N r ∧ toR p = stR tp r ∧ ∀ q, p = .inr q → mrD N q.2
end
section
/-! A VISIT TOLD IN A TEXT: the reference -/
def mx (a b : Int) : Int := if b < a then a else b
def vsA (M : fp_Mem) (n v1 v2 v3 v4 : Int) : fp_Mem := fp_up (fp_up (fp_up (fp_up (fp_up (fp_up (fp_up M 182 (47 + 4 * n).toNat v1) 182 (47 + 4 * n + 1).toNat v2) 182 (47 + 4 * n + 2).toNat v3) 177 16 (mx v3 (M 177 16))) 182 (47 + 4 * n + 3).toNat v4) 177 15 (mx v4 (M 177 15))) 182 95 (n + 1)
section MVI
variable {l : Launch} {G : fp_WG} {M N A : fp_Mem} {tp : List Int} {r r' : Int ⊕ Int} {D : pD}
def vsR (tp : List Int) (put lo s : Int) (r4 : Int ⊕ Int) (v1 v2 v3 v4 : Int) : Prop := v1 = nuV tp lo 99 (.inr s) ∧ v2 = nuV tp 0 3 (nuR tp lo 99 (.inr s)) ∧ v3 = nuV tp 0 2 (nuR tp 0 3 (nuR tp lo 99 (.inr s))) ∧ (if put = 0 then v4 = -4 ∧ r4 = nuR tp 0 2 (nuR tp 0 3 (nuR tp lo 99 (.inr s))) else v4 = nuV tp 0 9 (nuR tp 0 2 (nuR tp 0 3 (nuR tp lo 99 (.inr s)))) ∧ r4 = nuR tp 0 9 (nuR tp 0 2 (nuR tp 0 3 (nuR tp lo 99 (.inr s)))))
theorem mt_visit {s n put lo : Int} (ht : tpOk tp) (hm : mtT M tp) (hq : mq tp M (.inr s)) (ho : mtO tp M s) (hn : M 182 95 = n) (hn0 : 0 ≤ n ∧ n < 12) (hp : put = 0 ∨ put = 1) (hlo : lo = if n = 0 then 0 else M 182 (47 + 4 * n - 4).toNat) (hlo9 : 0 ≤ lo ∧ lo ≤ 99) (h15 : -1 ≤ M 177 15 ∧ M 177 15 ≤ 9) (h16 : -1 ≤ M 177 16 ∧ M 177 16 ≤ 2) : fp_Ok l G 3 kX12_readVisit [rV G 177, iV put] M (qV fun N => ∃ r4 v1 v2 v3 v4, vsR tp put lo (nxt tp s) r4 v1 v2 v3 v4 ∧ aT tp (vsA M n v1 v2 v3 v4) N r4) := by
  refine fp_Ok.of (r := 2) rfl (Nat.le_of_ble_eq_true rfl) rfl ?_
  have hx := nxt_le hq.1.2
  have a0 : aT tp M M (.inr s) := ⟨frW.refl _, hq⟩
  have b1 := nuV_in (tp := tp) (lo := lo) (hi := 99) (.inr (nxt tp s)) (by omega)
  have b2 := nuV_in (tp := tp) (lo := 0) (hi := 3) (nuR tp lo 99 (.inr (nxt tp s))) (by omega)
  have b3 := nuV_in (tp := tp) (lo := 0) (hi := 2) (nuR tp 0 3 (nuR tp lo 99 (.inr (nxt tp s)))) (by omega)
  have b4 := nuV_in (tp := tp) (lo := 0) (hi := 9) (nuR tp 0 2 (nuR tp 0 3 (nuR tp lo 99 (.inr (nxt tp s))))) (by omega)
  generalize e1 : nuV tp lo 99 (.inr (nxt tp s)) = v1 at b1
  generalize e2 : nuV tp 0 3 (nuR tp lo 99 (.inr (nxt tp s))) = v2 at b2
  generalize e3 : nuV tp 0 2 (nuR tp 0 3 (nuR tp lo 99 (.inr (nxt tp s)))) = v3 at b3
  generalize e4 : nuV tp 0 9 (nuR tp 0 2 (nuR tp 0 3 (nuR tp lo 99 (.inr (nxt tp s))))) = v4 at b4
  have k2 : ∀ (O : fp_Mem) (z : Nat) (v : Int), mtT O tp → mtT (fp_up O 182 z v) tp := fun O z v h => ⟨h.1, h.2⟩
  have hlast : ∀ (O : fp_Mem) (w : Int) (r4 : Int ⊕ Int) (o1 o2 o3 : Option Value), -4 ≤ w → w ≤ 9 → aT tp (fp_up (fp_up (fp_up (fp_up M 182 (47 + 4 * n).toNat v1) 182 (47 + 4 * n + 1).toNat v2) 182 (47 + 4 * n + 2).toNat v3) 177 16 (mx v3 (M 177 16))) O r4 → fp_S l G 3 kX12_readVisit 144 [some (rV G 177), o1, o2, some (iV (47 + 4 * n))] [iV w, iV (47 + 4 * n + 3), rV G 182] O (qV fun N => aT tp (vsA M n v1 v2 v3 w) N r4) := by
    intro O w r4 o1 o2 o3 w0 w1 ha
    have x95 : fp_up O 182 (47 + 4 * n + 3).toNat w 182 95 = n := by
      rw [fp_up_at, fp_upf_ne (by omega), ha.rd (Or.inl (by decide)), fp_up_ne (by decide), fp_up_at, fp_upf_ne (by omega), fp_up_at, fp_upf_ne (by omega), fp_up_at, fp_upf_ne (by omega)]
      exact hn
    have x3 : fp_up O 182 (47 + 4 * n + 3).toNat w 182 (47 + 4 * n + 3).toNat = w := by rw [fp_up_at]; simp [fp_upf]
    have x15 : fp_up O 182 (47 + 4 * n + 3).toNat w 177 15 = M 177 15 := by
      rw [fp_up_ne (by decide), ha.rd (by omega)]; rfl
    have ha2 : ∀ z, aT tp (fp_up (fp_up (fp_up (fp_up (fp_up (fp_up (fp_up M 182 (47 + 4 * n).toNat v1) 182 (47 + 4 * n + 1).toNat v2) 182 (47 + 4 * n + 2).toNat v3) 177 16 (mx v3 (M 177 16))) 182 (47 + 4 * n + 3).toNat w) 177 15 z) 182 95 (n + 1)) (fp_up (fp_up (fp_up O 182 (47 + 4 * n + 3).toNat w) 177 15 z) 182 95 (n + 1)) r4 := fun z => ((ha.up (by omega)).up (by omega)).up (by omega)
    refine S.iast (pc' := 145) dX12_readVisit_144 rfl L_182 (by omega) (by omega) ?_
    refine S.aload_n (pc' := 146) dX12_readVisit_145 rfl rfl rfl ?_
    refine S.aload_n (pc' := 147) dX12_readVisit_146 rfl rfl rfl ?_
    refine S.getR (pc' := 150) dX12_readVisit_147 rfl fX12_26 L_177 rf_177_7 ?_
    refine S.iload_n (pc' := 151) dX12_readVisit_150 rfl rfl rfl ?_
    refine S.iconst (pc' := 152) dX12_readVisit_151 rfl ?_
    refine S.iadd (pc' := 153) dX12_readVisit_152 rfl ?_
    refine S.iald (pc' := 154) dX12_readVisit_153 rfl L_182 (by omega) (by omega) ?_
    refine S.aload_n (pc' := 155) dX12_readVisit_154 rfl rfl rfl ?_
    refine S.getI (pc' := 158) dX12_readVisit_155 rfl fX12_156 L_177 ?_
    rw [x3, x15]
    refine S.icmp_le (pc' := 161) (tgt := 172) dX12_readVisit_158 (by decide) rfl (by unfold fp_rng; omega) (by unfold fp_rng; omega) (fun h158 => ?_) (fun h158 => ?_)
    · refine S.aload_n (pc' := 173) dX12_readVisit_172 rfl rfl rfl ?_
      refine S.getI (pc' := 176) dX12_readVisit_173 rfl fX12_156 L_177 ?_
      first | rw [x3] | rw [x15]
      refine S.putI (pc' := 179) dX12_readVisit_176 rfl fX12_156 L_177 ?_
      refine S.aload_n (pc' := 180) dX12_readVisit_179 rfl rfl rfl ?_
      refine S.getR (pc' := 183) dX12_readVisit_180 rfl fX12_26 L_177 rf_177_7 ?_
      refine S.bipush (pc' := 185) dX12_readVisit_183 rfl (by decide) ?_
      refine S.dup2 (pc' := 186) dX12_readVisit_185 rfl rfl rfl ?_
      refine S.iald (pc' := 187) dX12_readVisit_186 rfl L_182 (by omega) (by omega) ?_
      rw [show ∀ z, fp_up (fp_up O 182 (47 + 4 * n + 3).toNat w) 177 15 z 182 (95 : Int).toNat = n from fun z => x95]
      refine S.iconst (pc' := 188) dX12_readVisit_187 rfl ?_
      refine S.iadd (pc' := 189) dX12_readVisit_188 rfl ?_
      refine S.iast (pc' := 190) dX12_readVisit_189 rfl L_182 (by omega) (by omega) ?_
      refine S.vret dX12_readVisit_190 rfl ?_
      unfold vsA
      first
      | (rw [show mx w (M 177 15) = w from if_pos (by omega)]; exact ha2 _)
      | (rw [show mx w (M 177 15) = M 177 15 from if_neg (by omega)]; exact ha2 _)
    · refine S.aload_n (pc' := 162) dX12_readVisit_161 rfl rfl rfl ?_
      refine S.getR (pc' := 165) dX12_readVisit_162 rfl fX12_26 L_177 rf_177_7 ?_
      refine S.iload_n (pc' := 166) dX12_readVisit_165 rfl rfl rfl ?_
      refine S.iconst (pc' := 167) dX12_readVisit_166 rfl ?_
      refine S.iadd (pc' := 168) dX12_readVisit_167 rfl ?_
      refine S.iald (pc' := 169) dX12_readVisit_168 rfl L_182 (by omega) (by omega) ?_
      refine S.goto (pc' := 176) dX12_readVisit_169 (by decide) ?_
      first | rw [x3] | rw [x15]
      refine S.putI (pc' := 179) dX12_readVisit_176 rfl fX12_156 L_177 ?_
      refine S.aload_n (pc' := 180) dX12_readVisit_179 rfl rfl rfl ?_
      refine S.getR (pc' := 183) dX12_readVisit_180 rfl fX12_26 L_177 rf_177_7 ?_
      refine S.bipush (pc' := 185) dX12_readVisit_183 rfl (by decide) ?_
      refine S.dup2 (pc' := 186) dX12_readVisit_185 rfl rfl rfl ?_
      refine S.iald (pc' := 187) dX12_readVisit_186 rfl L_182 (by omega) (by omega) ?_
      rw [show ∀ z, fp_up (fp_up O 182 (47 + 4 * n + 3).toNat w) 177 15 z 182 (95 : Int).toNat = n from fun z => x95]
      refine S.iconst (pc' := 188) dX12_readVisit_187 rfl ?_
      refine S.iadd (pc' := 189) dX12_readVisit_188 rfl ?_
      refine S.iast (pc' := 190) dX12_readVisit_189 rfl L_182 (by omega) (by omega) ?_
      refine S.vret dX12_readVisit_190 rfl ?_
      unfold vsA
      first
      | (rw [show mx w (M 177 15) = w from if_pos (by omega)]; exact ha2 _)
      | (rw [show mx w (M 177 15) = M 177 15 from if_neg (by omega)]; exact ha2 _)
  have h121 : ∀ (O : fp_Mem) (o2 : Option Value), aT tp (fp_up (fp_up (fp_up (fp_up M 182 (47 + 4 * n).toNat v1) 182 (47 + 4 * n + 1).toNat v2) 182 (47 + 4 * n + 2).toNat v3) 177 16 (mx v3 (M 177 16))) O (nuR tp 0 2 (nuR tp 0 3 (nuR tp lo 99 (.inr (nxt tp s))))) → fp_S l G 3 kX12_readVisit 121 [some (rV G 177), some (iV put), o2, some (iV (47 + 4 * n))] [] O (qV fun N => ∃ r4 v1 v2 v3 v4, vsR tp put lo (nxt tp s) r4 v1 v2 v3 v4 ∧ aT tp (vsA M n v1 v2 v3 v4) N r4) := by
    intro O o2 ha
    have hmm : mtT (fp_up (fp_up (fp_up (fp_up M 182 (47 + 4 * n).toNat v1) 182 (47 + 4 * n + 1).toNat v2) 182 (47 + 4 * n + 2).toNat v3) 177 16 (mx v3 (M 177 16))) tp := ⟨hm.1, hm.2⟩
    refine S.aload_n (pc' := 122) dX12_readVisit_121 rfl rfl rfl ?_
    refine S.getR (pc' := 125) dX12_readVisit_122 rfl fX12_26 L_177 rf_177_7 ?_
    refine S.iload_n (pc' := 126) dX12_readVisit_125 rfl rfl rfl ?_
    refine S.iconst (pc' := 127) dX12_readVisit_126 rfl ?_
    refine S.iadd (pc' := 128) dX12_readVisit_127 rfl ?_
    refine S.iload_n (pc' := 129) dX12_readVisit_128 rfl rfl rfl ?_
    refine S.if_eq (pc' := 132) (tgt := 142) dX12_readVisit_129 (by decide) rfl (by unfold fp_rng; omega) (fun h129 => ?_) (fun h129 => ?_)
    · refine S.bipush (pc' := 144) dX12_readVisit_142 rfl (by decide) ?_
      first
      | exact fp_S.wV (hlast _ _ _ _ _ none (by omega) (by omega) ha) (fun N q => ⟨_, _, _, _, _, ⟨e1.symm, e2.symm, e3.symm, by rw [if_pos h129]; exact ⟨rfl, rfl⟩⟩, q⟩)
      | exact fp_S.wV (hlast _ _ _ _ _ none (by omega) (by omega) a136) (fun N q => ⟨_, _, _, _, _, ⟨e1.symm, e2.symm, e3.symm, by rw [if_neg h129]; exact ⟨e4.symm, rfl⟩⟩, q⟩)
    · refine S.aload_n (pc' := 133) dX12_readVisit_132 rfl rfl rfl ?_
      refine S.iconst (pc' := 134) dX12_readVisit_133 rfl ?_
      refine S.bipush (pc' := 136) dX12_readVisit_134 rfl (by decide) ?_
      refine S.callVi (pc' := 139) dX12_readVisit_136 rfl cX12_142 (mt_nu ht ha hmm (by unfold fp_rng; omega) (by unfold fp_rng; omega)) rfl L_177 (by decide) rfl (Nat.le_of_ble_eq_true rfl) (fun z136 M136 q136 => ?_)
      obtain ⟨a136, z⟩ := q136
      rw [e4] at z
      rw [z]
      refine S.goto (pc' := 144) dX12_readVisit_139 (by decide) ?_
      first
      | exact fp_S.wV (hlast _ _ _ _ _ none (by omega) (by omega) ha) (fun N q => ⟨_, _, _, _, _, ⟨e1.symm, e2.symm, e3.symm, by rw [if_pos h129]; exact ⟨rfl, rfl⟩⟩, q⟩)
      | exact fp_S.wV (hlast _ _ _ _ _ none (by omega) (by omega) a136) (fun N q => ⟨_, _, _, _, _, ⟨e1.symm, e2.symm, e3.symm, by rw [if_neg h129]; exact ⟨e4.symm, rfl⟩⟩, q⟩)
  have h53 : ∀ (O : fp_Mem) (x : Int) (o2 : Option Value), x = lo → aT tp M O (.inr (nxt tp s)) → fp_S l G 3 kX12_readVisit 53 [some (rV G 177), some (iV put), o2, some (iV (47 + 4 * n))] [iV x, rV G 177, iV (47 + 4 * n), rV G 182] O (qV fun N => ∃ r4 v1 v2 v3 v4, vsR tp put lo (nxt tp s) r4 v1 v2 v3 v4 ∧ aT tp (vsA M n v1 v2 v3 v4) N r4) := by
    intro O x o2 hxl ha
    subst hxl
    refine S.bipush (pc' := 55) dX12_readVisit_53 rfl (by decide) ?_
    refine S.callVi (pc' := 58) dX12_readVisit_55 rfl cX12_142 (mt_nu ht ha hm (by unfold fp_rng; omega) (by unfold fp_rng; omega)) rfl L_177 (by decide) rfl (Nat.le_of_ble_eq_true rfl) (fun z55 M55 q55 => ?_)
    obtain ⟨a55, z⟩ := q55
    rw [e1] at z
    rw [z]
    refine S.iast (pc' := 59) dX12_readVisit_58 rfl L_182 (by omega) (by omega) ?_
    have a58 := a55.up (k := 182) (j := (47 + 4 * n).toNat) (z := v1) (Or.inl (by decide))
    refine S.aload_n (pc' := 60) dX12_readVisit_59 rfl rfl rfl ?_
    refine S.getR (pc' := 63) dX12_readVisit_60 rfl fX12_26 L_177 rf_177_7 ?_
    refine S.iload_n (pc' := 64) dX12_readVisit_63 rfl rfl rfl ?_
    refine S.iconst (pc' := 65) dX12_readVisit_64 rfl ?_
    refine S.iadd (pc' := 66) dX12_readVisit_65 rfl ?_
    refine S.aload_n (pc' := 67) dX12_readVisit_66 rfl rfl rfl ?_
    refine S.iconst (pc' := 68) dX12_readVisit_67 rfl ?_
    refine S.iconst (pc' := 69) dX12_readVisit_68 rfl ?_
    refine S.callVi (pc' := 72) dX12_readVisit_69 rfl cX12_142 (mt_nu ht a58 (k2 _ _ _ hm) (by unfold fp_rng; omega) (by unfold fp_rng; omega)) rfl L_177 (by decide) rfl (Nat.le_of_ble_eq_true rfl) (fun z69 M69 q69 => ?_)
    obtain ⟨a69, z⟩ := q69
    rw [e2] at z
    rw [z]
    refine S.iast (pc' := 73) dX12_readVisit_72 rfl L_182 (by omega) (by omega) ?_
    have a72 := a69.up (k := 182) (j := (47 + 4 * n + 1).toNat) (z := v2) (Or.inl (by decide))
    refine S.aload_n (pc' := 74) dX12_readVisit_73 rfl rfl rfl ?_
    refine S.getR (pc' := 77) dX12_readVisit_74 rfl fX12_26 L_177 rf_177_7 ?_
    refine S.iload_n (pc' := 78) dX12_readVisit_77 rfl rfl rfl ?_
    refine S.iconst (pc' := 79) dX12_readVisit_78 rfl ?_
    refine S.iadd (pc' := 80) dX12_readVisit_79 rfl ?_
    refine S.aload_n (pc' := 81) dX12_readVisit_80 rfl rfl rfl ?_
    refine S.iconst (pc' := 82) dX12_readVisit_81 rfl ?_
    refine S.iconst (pc' := 83) dX12_readVisit_82 rfl ?_
    refine S.callVi (pc' := 86) dX12_readVisit_83 rfl cX12_142 (mt_nu ht a72 (k2 _ _ _ (k2 _ _ _ hm)) (by unfold fp_rng; omega) (by unfold fp_rng; omega)) rfl L_177 (by decide) rfl (Nat.le_of_ble_eq_true rfl) (fun z83 M83 q83 => ?_)
    obtain ⟨a83, z⟩ := q83
    rw [e3] at z
    rw [z]
    refine S.iast (pc' := 87) dX12_readVisit_86 rfl L_182 (by omega) (by omega) ?_
    have a86 := a83.up (k := 182) (j := (47 + 4 * n + 2).toNat) (z := v3) (Or.inl (by decide))
    have x3 : fp_up M83 182 (47 + 4 * n + 2).toNat v3 182 (47 + 4 * n + 2).toNat = v3 := by rw [fp_up_at]; simp [fp_upf]
    have x16 : fp_up M83 182 (47 + 4 * n + 2).toNat v3 177 16 = M 177 16 := by
      rw [a86.rd (by omega)]; rfl
    refine S.aload_n (pc' := 88) dX12_readVisit_87 rfl rfl rfl ?_
    refine S.aload_n (pc' := 89) dX12_readVisit_88 rfl rfl rfl ?_
    refine S.getR (pc' := 92) dX12_readVisit_89 rfl fX12_26 L_177 rf_177_7 ?_
    refine S.iload_n (pc' := 93) dX12_readVisit_92 rfl rfl rfl ?_
    refine S.iconst (pc' := 94) dX12_readVisit_93 rfl ?_
    refine S.iadd (pc' := 95) dX12_readVisit_94 rfl ?_
    refine S.iald (pc' := 96) dX12_readVisit_95 rfl L_182 (by omega) (by omega) ?_
    refine S.aload_n (pc' := 97) dX12_readVisit_96 rfl rfl rfl ?_
    refine S.getI (pc' := 100) dX12_readVisit_97 rfl fX12_159 L_177 ?_
    rw [x3, x16]
    refine S.icmp_le (pc' := 103) (tgt := 114) dX12_readVisit_100 (by decide) rfl (by unfold fp_rng; omega) (by unfold fp_rng; omega) (fun h100 => ?_) (fun h100 => ?_)
    · refine S.aload_n (pc' := 115) dX12_readVisit_114 rfl rfl rfl ?_
      refine S.getI (pc' := 118) dX12_readVisit_115 rfl fX12_159 L_177 ?_
      first | rw [x3] | rw [x16]
      refine S.putI (pc' := 121) dX12_readVisit_118 rfl fX12_159 L_177 ?_
      refine h121 _ _ ?_
      unfold mx
      first
      | (rw [if_pos (by omega)]; exact a86.up (by omega))
      | (rw [if_neg (by omega)]; exact a86.up (by omega))
    · refine S.aload_n (pc' := 104) dX12_readVisit_103 rfl rfl rfl ?_
      refine S.getR (pc' := 107) dX12_readVisit_104 rfl fX12_26 L_177 rf_177_7 ?_
      refine S.iload_n (pc' := 108) dX12_readVisit_107 rfl rfl rfl ?_
      refine S.iconst (pc' := 109) dX12_readVisit_108 rfl ?_
      refine S.iadd (pc' := 110) dX12_readVisit_109 rfl ?_
      refine S.iald (pc' := 111) dX12_readVisit_110 rfl L_182 (by omega) (by omega) ?_
      refine S.goto (pc' := 118) dX12_readVisit_111 (by decide) ?_
      first | rw [x3] | rw [x16]
      refine S.putI (pc' := 121) dX12_readVisit_118 rfl fX12_159 L_177 ?_
      refine h121 _ _ ?_
      unfold mx
      first
      | (rw [if_pos (by omega)]; exact a86.up (by omega))
      | (rw [if_neg (by omega)]; exact a86.up (by omega))
  refine S.aload_n (pc' := 1) dX12_readVisit_0 rfl rfl rfl ?_
  refine S.getR (pc' := 4) dX12_readVisit_1 rfl fX12_26 L_177 rf_177_7 ?_
  refine S.bipush (pc' := 6) dX12_readVisit_4 rfl (by decide) ?_
  refine S.iald (pc' := 7) dX12_readVisit_6 rfl L_182 (by decide) (by decide) ?_
  rw [show M 182 (95 : Int).toNat = n from hn]
  refine S.istore_n (pc' := 8) (LL' := [_, _, _, _]) dX12_readVisit_7 rfl (by decide) rfl rfl rfl ?_
  refine S.iload_n (pc' := 9) dX12_readVisit_8 rfl rfl rfl ?_
  refine S.bipush (pc' := 11) dX12_readVisit_9 rfl (by decide) ?_
  refine S.icmp_ne (pc' := 14) (tgt := 20) dX12_readVisit_11 (by decide) rfl (by unfold fp_rng; omega) (by unfold fp_rng; omega) (fun h11 => ?_) (fun h11 => ?_)
  · refine S.aload_n (pc' := 21) dX12_readVisit_20 rfl rfl rfl ?_
    refine S.callVv (pc' := 24) dX12_readVisit_21 rfl cX12_136 (mt_st ht a0 ho hm) rfl L_177 (by decide) rfl (Nat.le_of_ble_eq_true rfl) (fun M21 q21 => ?_)
    refine S.bipush (pc' := 26) dX12_readVisit_24 rfl (by decide) ?_
    refine S.iconst (pc' := 27) dX12_readVisit_26 rfl ?_
    refine S.iload_n (pc' := 28) dX12_readVisit_27 rfl rfl rfl ?_
    refine S.imul (pc' := 29) dX12_readVisit_28 rfl ?_
    refine S.iadd (pc' := 30) dX12_readVisit_29 rfl ?_
    refine S.istore_n (pc' := 31) (LL' := [_, _, _, _]) dX12_readVisit_30 rfl (by decide) rfl rfl rfl ?_
    refine S.aload_n (pc' := 32) dX12_readVisit_31 rfl rfl rfl ?_
    refine S.getR (pc' := 35) dX12_readVisit_32 rfl fX12_26 L_177 rf_177_7 ?_
    refine S.iload_n (pc' := 36) dX12_readVisit_35 rfl rfl rfl ?_
    refine S.aload_n (pc' := 37) dX12_readVisit_36 rfl rfl rfl ?_
    refine S.iload_n (pc' := 38) dX12_readVisit_37 rfl rfl rfl ?_
    refine S.if_ne (pc' := 41) (tgt := 45) dX12_readVisit_38 (by decide) rfl (by unfold fp_rng; omega) (fun h38 => ?_) (fun h38 => ?_)
    · refine S.aload_n (pc' := 46) dX12_readVisit_45 rfl rfl rfl ?_
      refine S.getR (pc' := 49) dX12_readVisit_46 rfl fX12_26 L_177 rf_177_7 ?_
      refine S.iload_n (pc' := 50) dX12_readVisit_49 rfl rfl rfl ?_
      refine S.iconst (pc' := 51) dX12_readVisit_50 rfl ?_
      refine S.isub (pc' := 52) dX12_readVisit_51 rfl ?_
      refine S.iald (pc' := 53) dX12_readVisit_52 rfl L_182 (by omega) (by omega) ?_
      first
      | exact h53 _ _ _ (by rw [hlo, if_pos (by assumption)]) q21
      | exact h53 _ _ _ (by rw [hlo, if_neg (by assumption), q21.rd (Or.inl (by decide))]) q21
    · refine S.iconst (pc' := 42) dX12_readVisit_41 rfl ?_
      refine S.goto (pc' := 53) dX12_readVisit_42 (by decide) ?_
      first
      | exact h53 _ _ _ (by rw [hlo, if_pos (by assumption)]) q21
      | exact h53 _ _ _ (by rw [hlo, if_neg (by assumption), q21.rd (Or.inl (by decide))]) q21
  · exfalso; omega
end MVI
end
section
/-! A VISIT TOLD IN A TEXT: the reference, in abstract words -/
theorem mx_lt {a b n : Int} : mx a b < n ↔ (a < n ∧ b < n) := by
  unfold mx
  split <;> omega
theorem vs_R {tp : List Int} {D : pD} {st s put lo v1 v2 v3 v4 : Int} {r4 : Int ⊕ Int} (hv : vsR tp put lo s r4 v1 v2 v3 v4) (hlo : lo = aLast D.2.2.2.2.2) (hl : ¬ 12 ≤ D.2.2.2.2.2.length) : toR (pVisit tp st s put D) = stR tp r4 ∧ ∀ q, pVisit tp st s put D = .inr q → q.2 = pAdd D (v1, v2, v3, v4) := by
  obtain ⟨e1, e2, e3, e4⟩ := hv
  subst hlo
  unfold pVisit
  rw [if_neg hl]
  have hfin : ∀ s' D', toR (pFin tp s' D') = stR tp (.inr s') ∧ ∀ q, pFin tp s' D' = .inr q → q.2 = D' := by
    intro s' D'
    unfold pFin stR
    simp only
    by_cases a : spOk tp s'
    · rw [if_pos a, if_neg (fun q => q a)]
      exact ⟨rfl, fun q e => by cases e; rfl⟩
    · rw [if_neg a, if_pos a]
      exact ⟨rfl, fun q e => by cases e⟩
  by_cases a1 : nmOk tp s (aLast D.2.2.2.2.2) 99
  · rw [if_neg (fun q => q a1)]
    simp only [nuR, nuV, if_pos a1] at e1 e2 e3 e4
    by_cases a2 : nmOk tp (nxt tp s) 0 3
    · rw [if_neg (fun q => q a2)]
      simp only [nuR, nuV, if_pos a2] at e2 e3 e4
      by_cases a3 : nmOk tp (nxt tp (nxt tp s)) 0 2
      · rw [if_neg (fun q => q a3)]
        simp only [nuR, nuV, if_pos a3] at e3 e4
        by_cases hp : put = 0
        · rw [if_pos hp] at e4 ⊢
          rw [e4.2, e1, e2, e3, e4.1]
          exact hfin _ _
        · rw [if_neg hp] at e4 ⊢
          by_cases a4 : nmOk tp (nxt tp (nxt tp (nxt tp s))) 0 9
          · rw [if_neg (fun q => q a4)]
            simp only [if_pos a4] at e4
            rw [e4.2, e1, e2, e3, e4.1]
            exact hfin _ _
          · rw [if_pos a4]
            simp only [if_neg a4] at e4
            rw [e4.2]
            exact ⟨rfl, fun q e => by cases e⟩
      · rw [if_pos a3]
        simp only [nuR, nuV, if_neg a3] at e4
        have : r4 = .inl (tkS tp (nxt tp (nxt tp s))) := by split at e4 <;> exact e4.2
        rw [this]
        exact ⟨rfl, fun q e => by cases e⟩
    · rw [if_pos a2]
      simp only [nuR, nuV, if_neg a2] at e4
      have : r4 = .inl (tkS tp (nxt tp s)) := by split at e4 <;> exact e4.2
      rw [this]
      exact ⟨rfl, fun q e => by cases e⟩
  · rw [if_pos a1]
    simp only [nuR, nuV, if_neg a1] at e4
    have : r4 = .inl (tkS tp s) := by split at e4 <;> exact e4.2
    rw [this]
    exact ⟨rfl, fun q e => by cases e⟩
theorem vsR.in {tp : List Int} {s put lo v1 v2 v3 v4 : Int} {r4 : Int ⊕ Int} (hv : vsR tp put lo s r4 v1 v2 v3 v4) : (0 ≤ v3 ∧ v3 ≤ 2) ∧ -4 ≤ v4 ∧ v4 ≤ 9 := by
  obtain ⟨e1, e2, e3, e4⟩ := hv
  have b3 := nuV_in (tp := tp) (lo := 0) (hi := 2) (nuR tp 0 3 (nuR tp lo 99 (.inr s))) (by omega)
  have b4 := nuV_in (tp := tp) (lo := 0) (hi := 9) (nuR tp 0 2 (nuR tp 0 3 (nuR tp lo 99 (.inr s)))) (by omega)
  refine ⟨by omega, ?_⟩
  split at e4 <;> omega
theorem vs_D {M : fp_Mem} {D : pD} {n v1 v2 v3 v4 : Int} (hd : mrD M D) (hD : dOk D) (hn : n = (D.2.2.2.2.2.length : Int)) (hl : n < 12) (h3 : 0 ≤ v3 ∧ v3 ≤ 2) (h4 : -4 ≤ v4 ∧ v4 ≤ 9) : mrD (vsA M n v1 v2 v3 v4) (pAdd D (v1, v2, v3, v4)) := by
  obtain ⟨d1, d2, d3, d4, d5, d6, d7⟩ := hd
  have e2 : vsA M n v1 v2 v3 v4 182 = fp_upf (fp_upf (fp_upf (fp_upf (fp_upf (M 182) (47 + 4 * n).toNat v1) (47 + 4 * n + 1).toNat v2) (47 + 4 * n + 2).toNat v3) (47 + 4 * n + 3).toNat v4) 95 (n + 1) := rfl
  have hne : ∀ j : Nat, ((j : Int) < 47 + 4 * n ∨ 47 + 4 * n + 3 < (j : Int)) → j ≠ 95 → vsA M n v1 v2 v3 v4 182 j = M 182 j := by
    intro j hj h95
    rw [e2, fp_upf_ne h95, fp_upf_ne (by omega), fp_upf_ne (by omega), fp_upf_ne (by omega), fp_upf_ne (by omega)]
  have g1 := hD.1.1
  refine ⟨d1, ⟨fun t t0 t1 => ?_, fun x x0 x1 => ?_⟩, ⟨?_, ?_, fun i i0 i1 => ?_⟩, d4, d5, ?_, ?_⟩
  · have t2 : t < D.1.1 := t1
    rw [hne _ (by omega) (by omega)]
    exact d2.1 t t0 t1
  · obtain ⟨p1, p2⟩ := d2.2 x x0 x1
    have hlen := (hD.2.2.1 x x0 x1).1
    refine ⟨by rw [hne _ (by omega) (by omega)]; exact p1, fun i i0 i1 => ?_⟩
    have i2 : i < ((D.2.2.1 x).length : Int) := i1
    rw [hne _ (by omega) (by omega)]
    exact p2 i i0 i1
  · show vsA M n v1 v2 v3 v4 182 95 = ((D.2.2.2.2.2 ++ [(v1, v2, v3, v4)]).length : Int)
    rw [List.length_append, e2]
    show n + 1 = _
    rw [hn]; rfl
  · show (D.2.2.2.2.2 ++ [(v1, v2, v3, v4)]).length ≤ 12
    rw [List.length_append, List.length_singleton]; omega
  · have i2 : i < ((D.2.2.2.2.2 ++ [(v1, v2, v3, v4)]).length : Int) := i1
    rw [List.length_append, List.length_singleton] at i2
    show _ = ((D.2.2.2.2.2 ++ [(v1, v2, v3, v4)]).getD i.toNat aV0).1 ∧ _ = ((D.2.2.2.2.2 ++ [(v1, v2, v3, v4)]).getD i.toNat aV0).2.1 ∧ _ = ((D.2.2.2.2.2 ++ [(v1, v2, v3, v4)]).getD i.toNat aV0).2.2.1 ∧ _ = ((D.2.2.2.2.2 ++ [(v1, v2, v3, v4)]).getD i.toNat aV0).2.2.2
    by_cases e : i < n
    · rw [fp_appD, if_pos (by omega), hne _ (by omega) (by omega), hne _ (by omega) (by omega), hne _ (by omega) (by omega), hne _ (by omega) (by omega)]
      exact d3.2.2 i i0 (by omega)
    · have ei : i = n := by omega
      subst ei
      rw [fp_appD, if_neg (by omega), if_pos (by omega)]
      show _ = v1 ∧ _ = v2 ∧ _ = v3 ∧ _ = v4
      rw [e2]
      refine ⟨?_, ?_, ?_, ?_⟩
      · rw [fp_upf_ne (by omega), fp_upf_ne (by omega), fp_upf_ne (by omega), fp_upf_ne (by omega)]; simp [fp_upf]
      · rw [fp_upf_ne (by omega), fp_upf_ne (by omega), fp_upf_ne (by omega)]; simp [fp_upf]
      · rw [fp_upf_ne (by omega), fp_upf_ne (by omega)]; simp [fp_upf]
      · rw [fp_upf_ne (by omega)]; simp [fp_upf]
  · rw [hne _ (by omega) (by omega)]; exact d6
  · obtain ⟨k1, k2, k3, k4⟩ := d7
    show mrH (mx v4 (M 177 15)) (mx v3 (M 177 16)) D.2.2.1 (D.2.2.2.2.2 ++ [(v1, v2, v3, v4)])
    refine ⟨?_, ?_, fun m m0 => ?_, fun m m0 => ?_⟩
    · unfold mx; split <;> omega
    · unfold mx; split <;> omega
    · rw [mx_lt, k3 m m0]
      constructor
      · rintro ⟨a, b, c⟩
        refine ⟨b, fun v hv => ?_⟩
        rcases List.mem_append.mp hv with q | q
        · exact c v q
        · rw [List.mem_singleton] at q; subst q; exact a
      · rintro ⟨b, c⟩
        exact ⟨c (v1, v2, v3, v4) (List.mem_append.mpr (Or.inr (List.mem_singleton.mpr rfl))), b, fun v hv => c v (List.mem_append.mpr (Or.inl hv))⟩
    · rw [mx_lt, k4 m m0]
      constructor
      · rintro ⟨a, c⟩ v hv
        rcases List.mem_append.mp hv with q | q
        · exact c v q
        · rw [List.mem_singleton] at q; subst q; exact a
      · intro c
        exact ⟨c (v1, v2, v3, v4) (List.mem_append.mpr (Or.inr (List.mem_singleton.mpr rfl))), fun v hv => c v (List.mem_append.mpr (Or.inl hv))⟩
section MVJ
variable {l : Launch} {G : fp_WG} {M N A : fp_Mem} {tp : List Int} {r r' : Int ⊕ Int} {D : pD}
/-- refused ahead of a step -/
theorem rl_no {s w : Int} {p : Int ⊕ (Int × pD)} (hi : mrI M) (hg : mtG tp M s) (hw : 1 ≤ w ∧ w ≤ 6) (hp : p = .inl (tkS tp s)) : rlP tp M (fp_up (fp_up M 177 21 w) 177 22 (M 177 24)) p := by
  refine ⟨((frQ.refl M).up (by omega)).up (by omega), hi.kept rfl rfl rfl, .inl (tkS tp s), ⟨hw, ?_⟩, by rw [hp]; rfl, fun q e => by rw [hp] at e; cases e⟩
  exact hg.1
theorem rk_X12_readVisit {s put : Int} (ht : tpOk tp) (hm : mtT M tp) (hq : mq tp M (.inr s)) (ho : mtO tp M s) (hi : mrI M) (hd : mrD M D) (hD : dOk D) (hp : put = 0 ∨ put = 1) : fp_Ok l G 3 kX12_readVisit [rV G 177, iV put] M (qV fun N => rlP tp M N (pVisit tp (tkS tp s) (nxt tp s) put D)) := by
  have h95 : M 182 95 = (D.2.2.2.2.2.length : Int) := hd.2.2.1.1
  have h12 := hD.2.2.2.2.2.2.1
  by_cases hl : 12 ≤ D.2.2.2.2.2.length
  · refine fp_Ok.of (r := 2) rfl (Nat.le_of_ble_eq_true rfl) rfl ?_
    have hpn : pVisit tp (tkS tp s) (nxt tp s) put D = .inl (tkS tp s) := by unfold pVisit; rw [if_pos hl]
    refine S.aload_n (pc' := 1) dX12_readVisit_0 rfl rfl rfl ?_
    refine S.getR (pc' := 4) dX12_readVisit_1 rfl fX12_26 L_177 rf_177_7 ?_
    refine S.bipush (pc' := 6) dX12_readVisit_4 rfl (by decide) ?_
    refine S.iald (pc' := 7) dX12_readVisit_6 rfl L_182 (by decide) (by decide) ?_
    rw [show M 182 (95 : Int).toNat = _ from h95]
    refine S.istore_n (pc' := 8) (LL' := [_, _, _, _]) dX12_readVisit_7 rfl (by decide) rfl rfl rfl ?_
    refine S.iload_n (pc' := 9) dX12_readVisit_8 rfl rfl rfl ?_
    refine S.bipush (pc' := 11) dX12_readVisit_9 rfl (by decide) ?_
    refine S.icmp_ne (pc' := 14) (tgt := 20) dX12_readVisit_11 (by decide) rfl (by unfold fp_rng; omega) (by unfold fp_rng; omega) (fun h11 => ?_) (fun h11 => ?_)
    · exfalso; omega
    · refine S.aload_n (pc' := 15) dX12_readVisit_14 rfl rfl rfl ?_
      refine S.iconst (pc' := 16) dX12_readVisit_15 rfl ?_
      refine S.callVw (pc' := 19) dX12_readVisit_16 rfl cX12_128 (mt_fails0 ho.1) rfl L_177 (by decide) rfl (Nat.le_of_ble_eq_true rfl) ?_
      refine S.vret dX12_readVisit_19 rfl ?_
      exact rl_no hi hq.2.1 (by omega) hpn
  · have hlo : aLast D.2.2.2.2.2 = if (D.2.2.2.2.2.length : Int) = 0 then 0 else M 182 (47 + 4 * (D.2.2.2.2.2.length : Int) - 4).toNat := by
      unfold aLast
      by_cases e0 : D.2.2.2.2.2.length = 0
      · rw [if_pos e0, if_pos (by omega)]
      · rw [if_neg e0, if_neg (by omega)]
        have := (hd.2.2.1.2.2 ((D.2.2.2.2.2.length : Int) - 1) (by omega) (by omega)).1
        rw [show (D.2.2.2.2.2.length : Int) - 1 = ((D.2.2.2.2.2.length - 1 : Nat) : Int) by omega, Int.toNat_natCast] at this
        rw [← this, show (47 + 4 * (D.2.2.2.2.2.length : Int) - 4).toNat = (47 + 4 * ((D.2.2.2.2.2.length - 1 : Nat) : Int)).toNat by omega]
    have hlo9 : 0 ≤ aLast D.2.2.2.2.2 ∧ aLast D.2.2.2.2.2 ≤ 99 := by
      unfold aLast
      by_cases e0 : D.2.2.2.2.2.length = 0
      · rw [if_pos e0]; omega
      · rw [if_neg e0]
        refine (hD.2.2.2.2.2.2.2 _ ?_).1
        rw [List.getD_eq_getElem?_getD, List.getElem?_eq_getElem (by omega)]
        exact List.getElem_mem _
    refine fp_Ok.wV (mt_visit ht hm hq ho h95 (by omega) hp hlo hlo9 hd.2.2.2.2.2.2.1 hd.2.2.2.2.2.2.2.1) (fun N q => ?_)
    obtain ⟨r4, v1, v2, v3, v4, q1, q2⟩ := q
    have hin := q1.in
    have hR := vs_R (st := tkS tp s) q1 rfl hl
    have hDD := vs_D (v1 := v1) (v2 := v2) (v3 := v3) (v4 := v4) hd hD rfl (by omega) hin.1 hin.2
    refine ⟨frQ.trans ?_ q2.1.Q, q2.1.I (hi.kept rfl rfl rfl), r4, q2.2, hR.1, fun q e => ?_⟩
    · unfold vsA
      exact (((((((frQ.refl M).up (by omega)).up (by omega)).up (by omega)).up (by omega)).up (by omega)).up (by omega)).up (by omega)
    · rw [hR.2 q e]; exact q2.1.D hDD
end MVJ
end
section
/-! A THING TOLD IN A TEXT: the reference -/
def thA (M : fp_Mem) (t w c v0 v1 v2 v3 : Int) : fp_Mem := fp_up (fp_up (fp_up (fp_up (fp_up (fp_up (fp_up M 182 t.toNat w) 183 t.toNat c) 184 (4 * t + 0).toNat v0) 184 (4 * t + (0 + 1)).toNat v1) 184 (4 * t + (0 + 1 + 1)).toNat v2) 184 (4 * t + (0 + 1 + 1 + 1)).toNat v3) 177 11 (t + 1)
def thR (tp : List Int) (s : Int) (r6 : Int ⊕ Int) (w c v0 v1 v2 v3 : Int) : Prop := ∃ r1 r2 r3 r4 r5, r1 = nuR tp 0 3 (.inr s) ∧ w = nuV tp 0 3 (.inr s) ∧ r2 = nuR tp 0 9 r1 ∧ c = nuV tp 0 9 r1 ∧ r3 = nuR tp 0 20 r2 ∧ v0 = nuV tp 0 20 r2 ∧ r4 = nuR tp 0 20 r3 ∧ v1 = nuV tp 0 20 r3 ∧ r5 = nuR tp 0 20 r4 ∧ v2 = nuV tp 0 20 r4 ∧ r6 = nuR tp 0 20 r5 ∧ v3 = nuV tp 0 20 r5
theorem pFin_R (tp : List Int) (s' : Int) (D' : pD) : toR (pFin tp s' D') = stR tp (.inr s') ∧ ∀ q, pFin tp s' D' = .inr q → q.2 = D' := by
  unfold pFin stR
  simp only
  by_cases a : spOk tp s'
  · rw [if_pos a, if_neg (fun q => q a)]
    exact ⟨rfl, fun q e => by cases e; rfl⟩
  · rw [if_neg a, if_pos a]
    exact ⟨rfl, fun q e => by cases e⟩
theorem th_R {tp : List Int} {D : pD} {st s w c v0 v1 v2 v3 : Int} {r6 : Int ⊕ Int} (hv : thR tp s r6 w c v0 v1 v2 v3) (hl : ¬ 10 ≤ D.1.1) : toR (pThing tp st s D) = stR tp r6 ∧ ∀ q, pThing tp st s D = .inr q → ∃ f : Int → Int, q.2 = pTh D w c f ∧ f 0 = v0 ∧ f 1 = v1 ∧ f 2 = v2 ∧ f 3 = v3 := by
  obtain ⟨r1, r2, r3, r4, r5, rfl, rfl, rfl, rfl, rfl, rfl, rfl, rfl, rfl, rfl, rfl, rfl⟩ := hv
  unfold pThing
  rw [if_neg hl]
  by_cases a1 : nmOk tp s 0 3
  · rw [if_neg (fun q => q a1)]
    simp only [nuR, nuV, if_pos a1]
    by_cases a2 : nmOk tp (nxt tp s) 0 9
    · rw [if_neg (fun q => q a2)]
      simp only [if_pos a2]
      generalize hs2 : nxt tp (nxt tp s) = s2
      by_cases b0 : nmOk tp s2 0 20
      · simp only [pVl, if_pos b0]
        by_cases b1 : nmOk tp (nxt tp s2) 0 20
        · simp only [if_pos b1]
          by_cases b2 : nmOk tp (nxt tp (nxt tp s2)) 0 20
          · simp only [if_pos b2]
            by_cases b3 : nmOk tp (nxt tp (nxt tp (nxt tp s2))) 0 20
            · simp only [if_pos b3]
              have := pFin_R tp (itN tp 4 s2) (pTh D (num tp s) (num tp (nxt tp s)) (fun p => num tp (itN tp p.toNat s2)))
              exact ⟨this.1, fun q e => ⟨_, this.2 q e, rfl, rfl, rfl, rfl⟩⟩
            · simp only [if_neg b3]
              exact ⟨rfl, fun q e => by cases e⟩
          · simp only [if_neg b2]
            exact ⟨rfl, fun q e => by cases e⟩
        · simp only [if_neg b1]
          exact ⟨rfl, fun q e => by cases e⟩
      · simp only [pVl, if_neg b0]
        exact ⟨rfl, fun q e => by cases e⟩
    · rw [if_pos a2]
      simp only [if_neg a2]
      exact ⟨rfl, fun q e => by cases e⟩
  · rw [if_pos a1]
    simp only [nuR, nuV, if_neg a1]
    exact ⟨rfl, fun q e => by cases e⟩
theorem thM_D {M : fp_Mem} {D : pD} {t w c v0 v1 v2 v3 : Int} {f : Int → Int} (hd : mrD M D) (hD : dOk D) (ht : t = D.1.1) (hl : t < 10) (f0 : f 0 = v0) (f1 : f 1 = v1) (f2 : f 2 = v2) (f3 : f 3 = v3) : mrD (thA M t w c v0 v1 v2 v3) (pTh D w c f) := by
  obtain ⟨⟨g1, g2, g3, g4, g5, g6⟩, d2, d3, d4, d5, d6, d7⟩ := hd
  have hg := hD.1.1
  have e2 : thA M t w c v0 v1 v2 v3 182 = fp_upf (M 182) t.toNat w := rfl
  have e3 : thA M t w c v0 v1 v2 v3 183 = fp_upf (M 183) t.toNat c := rfl
  have e4 : thA M t w c v0 v1 v2 v3 184 = fp_upf (fp_upf (fp_upf (fp_upf (M 184) (4 * t + 0).toNat v0) (4 * t + (0 + 1)).toNat v1) (4 * t + (0 + 1 + 1)).toNat v2) (4 * t + (0 + 1 + 1 + 1)).toNat v3 := rfl
  have hne : ∀ j : Nat, 10 ≤ j → thA M t w c v0 v1 v2 v3 182 j = M 182 j := fun j hj => by rw [e2, fp_upf_ne (by omega)]
  refine ⟨⟨by show t + 1 = D.1.1 + 1; rw [ht], g2, g3, fun u u0 u1 => ?_, fun u p u0 u1 p0 p1 => ?_, g6⟩, ⟨fun u u0 u1 => ?_, fun x x0 x1 => ?_⟩, ⟨?_, d3.2.1, fun i i0 i1 => ?_⟩, d4, d5, ?_, d7⟩
  · have u2 : u < D.1.1 + 1 := u1
    show _ = (if u = D.1.1 then c else D.1.2.2.2.1 u)
    rw [e3]
    by_cases e : u = D.1.1
    · rw [if_pos e, e, ← ht]; simp [fp_upf]
    · rw [if_neg e, fp_upf_ne (by omega)]; exact g4 u u0 (by omega)
  · have u2 : u < D.1.1 + 1 := u1
    show _ = (if u = D.1.1 then f p else D.1.2.2.2.2.1 u p)
    rw [e4]
    by_cases e : u = D.1.1
    · rw [if_pos e, e, ← ht]
      rcases (show p = 0 ∨ p = 1 ∨ p = 2 ∨ p = 3 by omega) with rfl | rfl | rfl | rfl
      · rw [fp_upf_ne (by omega), fp_upf_ne (by omega), fp_upf_ne (by omega), f0]; simp [fp_upf]
      · rw [fp_upf_ne (by omega), fp_upf_ne (by omega), f1]; simp [fp_upf]
      · rw [fp_upf_ne (by omega), f2]; simp [fp_upf]
      · rw [f3]; simp [fp_upf]
    · rw [if_neg e, fp_upf_ne (by omega), fp_upf_ne (by omega), fp_upf_ne (by omega), fp_upf_ne (by omega)]
      exact g5 u p u0 (by omega) p0 p1
  · have u2 : u < D.1.1 + 1 := u1
    show _ = (if u = D.1.1 then w else D.2.1 u)
    rw [e2]
    by_cases e : u = D.1.1
    · rw [if_pos e, e, ← ht]; simp [fp_upf]
    · rw [if_neg e, fp_upf_ne (by omega)]; exact d2.1 u u0 (by omega)
  · obtain ⟨p1, p2⟩ := d2.2 x x0 x1
    refine ⟨by rw [hne _ (by omega)]; exact p1, fun i i0 i1 => ?_⟩
    rw [hne _ (by omega)]
    exact p2 i i0 i1
  · rw [hne _ (by omega)]; exact d3.1
  · rw [hne _ (by omega), hne _ (by omega), hne _ (by omega), hne _ (by omega)]
    exact d3.2.2 i i0 i1
  · rw [hne _ (by omega)]; exact d6
section MTH
variable {l : Launch} {G : fp_WG} {M N A : fp_Mem} {tp : List Int} {r r' : Int ⊕ Int} {D : pD}
theorem th_it {t j : Int} {Q : fp_Q} (ht : tpOk tp) (h : aT tp A M r) (hm : mtT A tp) (h11 : A 177 11 = t) (t0 : 0 ≤ t ∧ t < 10) (j0 : 0 ≤ j ∧ j < 4) (K : ∀ N, aT tp (fp_up A 184 (4 * t + j).toNat (nuV tp 0 20 r)) N (nuR tp 0 20 r) → fp_S l G 3 kX12_readThing 52 [some (rV G 177), some (iV (j + 1))] [] N Q) : fp_S l G 3 kX12_readThing 52 [some (rV G 177), some (iV j)] [] M Q := by
  have e11 : M 177 11 = t := by rw [h.rd (by omega)]; exact h11
  refine S.iload_n (pc' := 53) dX12_readThing_52 rfl rfl rfl ?_
  refine S.iconst (pc' := 54) dX12_readThing_53 rfl ?_
  refine S.icmp_ge (pc' := 57) (tgt := 83) dX12_readThing_54 (by decide) rfl (by unfold fp_rng; omega) (by unfold fp_rng; omega) (fun h54 => ?_) (fun h54 => ?_)
  · exfalso; omega
  · refine S.aload_n (pc' := 58) dX12_readThing_57 rfl rfl rfl ?_
    refine S.getR (pc' := 61) dX12_readThing_58 rfl fX12_32 L_177 rf_177_9 ?_
    refine S.iconst (pc' := 62) dX12_readThing_61 rfl ?_
    refine S.aload_n (pc' := 63) dX12_readThing_62 rfl rfl rfl ?_
    refine S.getI (pc' := 66) dX12_readThing_63 rfl fX12_139 L_177 ?_
    rw [e11]
    refine S.imul (pc' := 67) dX12_readThing_66 rfl ?_
    refine S.iload_n (pc' := 68) dX12_readThing_67 rfl rfl rfl ?_
    refine S.iadd (pc' := 69) dX12_readThing_68 rfl ?_
    refine S.aload_n (pc' := 70) dX12_readThing_69 rfl rfl rfl ?_
    refine S.iconst (pc' := 71) dX12_readThing_70 rfl ?_
    refine S.bipush (pc' := 73) dX12_readThing_71 rfl (by decide) ?_
    refine S.callVi (pc' := 76) dX12_readThing_73 rfl cX12_142 (mt_nu ht h hm (by unfold fp_rng; omega) (by unfold fp_rng; omega)) rfl L_177 (by decide) rfl (Nat.le_of_ble_eq_true rfl) (fun z73 M73 q73 => ?_)
    obtain ⟨a73, z⟩ := q73
    rw [z]
    refine S.iast (pc' := 77) dX12_readThing_76 rfl L_184 (by omega) (by omega) ?_
    refine S.iinc (pc' := 80) (LL' := [_, _]) dX12_readThing_77 rfl (by decide) rfl rfl rfl ?_
    refine S.goto (pc' := 52) dX12_readThing_80 (by decide) ?_
    exact K _ (a73.up (Or.inl (by decide)))
theorem rk_X12_readThing {s : Int} (ht : tpOk tp) (hm : mtT M tp) (hq : mq tp M (.inr s)) (ho : mtO tp M s) (hi : mrI M) (hd : mrD M D) (hD : dOk D) : fp_Ok l G 3 kX12_readThing [rV G 177] M (qV fun N => rlP tp M N (pThing tp (tkS tp s) (nxt tp s) D)) := by
  have h11 : M 177 11 = D.1.1 := hd.1.1
  have hg := hD.1.1
  refine fp_Ok.of (r := 1) rfl (Nat.le_of_ble_eq_true rfl) rfl ?_
  by_cases hl : 10 ≤ D.1.1
  · have hpn : pThing tp (tkS tp s) (nxt tp s) D = .inl (tkS tp s) := by unfold pThing; rw [if_pos hl]
    refine S.aload_n (pc' := 1) dX12_readThing_0 rfl rfl rfl ?_
    refine S.getI (pc' := 4) dX12_readThing_1 rfl fX12_139 L_177 ?_
    refine S.bipush (pc' := 6) dX12_readThing_4 rfl (by decide) ?_
    rw [h11]
    refine S.icmp_ne (pc' := 9) (tgt := 15) dX12_readThing_6 (by decide) rfl (by unfold fp_rng; omega) (by unfold fp_rng; omega) (fun h6 => ?_) (fun h6 => ?_)
    · exfalso; omega
    · refine S.aload_n (pc' := 10) dX12_readThing_9 rfl rfl rfl ?_
      refine S.iconst (pc' := 11) dX12_readThing_10 rfl ?_
      refine S.callVw (pc' := 14) dX12_readThing_11 rfl cX12_128 (mt_fails0 ho.1) rfl L_177 (by decide) rfl (Nat.le_of_ble_eq_true rfl) ?_
      refine S.vret dX12_readThing_14 rfl ?_
      exact rl_no hi hq.2.1 (by omega) hpn
  · have hx := nxt_le hq.1.2
    have a0 : aT tp M M (.inr s) := ⟨frW.refl _, hq⟩
    have hfin : ∀ (O : fp_Mem) (r6 : Int ⊕ Int) (w c v0 v1 v2 v3 : Int) (j : Int), 4 ≤ j → j ≤ 4 → aT tp (fp_up (fp_up (fp_up (fp_up (fp_up (fp_up M 182 D.1.1.toNat w) 183 D.1.1.toNat c) 184 (4 * D.1.1 + 0).toNat v0) 184 (4 * D.1.1 + (0 + 1)).toNat v1) 184 (4 * D.1.1 + (0 + 1 + 1)).toNat v2) 184 (4 * D.1.1 + (0 + 1 + 1 + 1)).toNat v3) O r6 → thR tp (nxt tp s) r6 w c v0 v1 v2 v3 → fp_S l G 3 kX12_readThing 52 [some (rV G 177), some (iV j)] [] O (qV fun N => rlP tp M N (pThing tp (tkS tp s) (nxt tp s) D)) := by
      intro O r6 w c v0 v1 v2 v3 j j0 j1 ha hR
      have e11 : O 177 11 = D.1.1 := by rw [ha.rd (by omega)]; exact h11
      have hr := th_R (st := tkS tp s) (D := D) hR hl
      obtain ⟨r1, r2, r3, r4, r5, _, b1, _, b2, _, b3, _, b4, _, b5, _, b6⟩ := hR
      have c2 := nuV_in (tp := tp) (lo := 0) (hi := 9) r1 (by omega)
      have c3 := nuV_in (tp := tp) (lo := 0) (hi := 20) r2 (by omega)
      have c4 := nuV_in (tp := tp) (lo := 0) (hi := 20) r3 (by omega)
      have c5 := nuV_in (tp := tp) (lo := 0) (hi := 20) r4 (by omega)
      have c6 := nuV_in (tp := tp) (lo := 0) (hi := 20) r5 (by omega)
      rw [← b2] at c2
      rw [← b3] at c3
      rw [← b4] at c4
      rw [← b5] at c5
      rw [← b6] at c6
      have ha2 := ha.up (k := 177) (j := 11) (z := D.1.1 + 1) (by omega)
      have hI : mrI (thA M D.1.1 w c v0 v1 v2 v3) := by
        obtain ⟨i1, i2, i3⟩ := hi
        refine ⟨fun i i0 i4 => ?_, fun i i0 i4 => ?_, i3⟩
        · show 0 ≤ fp_upf (M 183) D.1.1.toNat c i.toNat ∧ fp_upf (M 183) D.1.1.toNat c i.toNat ≤ 9
          unfold fp_upf
          split
          · omega
          · exact i1 i i0 i4
        · show 0 ≤ fp_upf (fp_upf (fp_upf (fp_upf (M 184) (4 * D.1.1 + 0).toNat v0) (4 * D.1.1 + (0 + 1)).toNat v1) (4 * D.1.1 + (0 + 1 + 1)).toNat v2) (4 * D.1.1 + (0 + 1 + 1 + 1)).toNat v3 i.toNat ∧ fp_upf (fp_upf (fp_upf (fp_upf (M 184) (4 * D.1.1 + 0).toNat v0) (4 * D.1.1 + (0 + 1)).toNat v1) (4 * D.1.1 + (0 + 1 + 1)).toNat v2) (4 * D.1.1 + (0 + 1 + 1 + 1)).toNat v3 i.toNat ≤ 20
          have i5 := i2 i i0 i4
          simp only [fp_upf]
          repeat' split
          all_goals omega
      refine S.iload_n (pc' := 53) dX12_readThing_52 rfl rfl rfl ?_
      refine S.iconst (pc' := 54) dX12_readThing_53 rfl ?_
      refine S.icmp_ge (pc' := 57) (tgt := 83) dX12_readThing_54 (by decide) rfl (by unfold fp_rng; omega) (by unfold fp_rng; omega) (fun h54 => ?_) (fun h54 => ?_)
      · refine S.aload_n (pc' := 84) dX12_readThing_83 rfl rfl rfl ?_
        refine S.dup (pc' := 85) dX12_readThing_84 rfl rfl ?_
        refine S.getI (pc' := 88) dX12_readThing_85 rfl fX12_139 L_177 ?_
        refine S.iconst (pc' := 89) dX12_readThing_88 rfl ?_
        refine S.iadd (pc' := 90) dX12_readThing_89 rfl ?_
        rw [e11]
        refine S.putI (pc' := 93) dX12_readThing_90 rfl fX12_139 L_177 ?_
        refine S.vret dX12_readThing_93 rfl ?_
        refine ⟨frQ.trans ?_ ha2.1.Q, ha2.1.I hI, r6, ha2.2, hr.1, fun q e => ?_⟩
        · exact (((((((frQ.refl M).up (by omega)).up (by omega)).up (by omega)).up (by omega)).up (by omega)).up (by omega)).up (by omega)
        · obtain ⟨f, k0, k1, k2, k3, k4⟩ := hr.2 q e
          rw [k0]
          exact ha2.1.D (thM_D hd hD rfl (by omega) k1 k2 k3 k4)
      · exfalso; omega
    have hmU : ∀ (O : fp_Mem) (k j : Nat) (z : Int), 182 ≤ k → k ≤ 184 → mtT O tp → mtT (fp_up O k j z) tp := fun O k j z k0 k1 h => ⟨by rw [fp_up_ne (by omega)]; exact h.1, fun i i0 i1 => by rw [fp_up_ne (by omega)]; exact h.2 i i0 i1⟩
    refine S.aload_n (pc' := 1) dX12_readThing_0 rfl rfl rfl ?_
    refine S.getI (pc' := 4) dX12_readThing_1 rfl fX12_139 L_177 ?_
    refine S.bipush (pc' := 6) dX12_readThing_4 rfl (by decide) ?_
    rw [h11]
    refine S.icmp_ne (pc' := 9) (tgt := 15) dX12_readThing_6 (by decide) rfl (by unfold fp_rng; omega) (by unfold fp_rng; omega) (fun h6 => ?_) (fun h6 => ?_)
    · refine S.aload_n (pc' := 16) dX12_readThing_15 rfl rfl rfl ?_
      refine S.callVv (pc' := 19) dX12_readThing_16 rfl cX12_136 (mt_st ht a0 ho hm) rfl L_177 (by decide) rfl (Nat.le_of_ble_eq_true rfl) (fun M16 q16 => ?_)
      refine S.aload_n (pc' := 20) dX12_readThing_19 rfl rfl rfl ?_
      refine S.getR (pc' := 23) dX12_readThing_20 rfl fX12_26 L_177 rf_177_7 ?_
      refine S.aload_n (pc' := 24) dX12_readThing_23 rfl rfl rfl ?_
      refine S.getI (pc' := 27) dX12_readThing_24 rfl fX12_139 L_177 ?_
      rw [show M16 177 11 = D.1.1 by rw [q16.rd (by omega)]; exact h11]
      refine S.aload_n (pc' := 28) dX12_readThing_27 rfl rfl rfl ?_
      refine S.iconst (pc' := 29) dX12_readThing_28 rfl ?_
      refine S.iconst (pc' := 30) dX12_readThing_29 rfl ?_
      refine S.callVi (pc' := 33) dX12_readThing_30 rfl cX12_142 (mt_nu ht q16 hm (by unfold fp_rng; omega) (by unfold fp_rng; omega)) rfl L_177 (by decide) rfl (Nat.le_of_ble_eq_true rfl) (fun z30 M30 q30 => ?_)
      obtain ⟨a30, z⟩ := q30
      rw [z]
      refine S.iast (pc' := 34) dX12_readThing_33 rfl L_182 (by omega) (by omega) ?_
      have a33 := a30.up (k := 182) (j := D.1.1.toNat) (z := nuV tp 0 3 (.inr (nxt tp s))) (Or.inl (by decide))
      refine S.aload_n (pc' := 35) dX12_readThing_34 rfl rfl rfl ?_
      refine S.getR (pc' := 38) dX12_readThing_35 rfl fX12_29 L_177 rf_177_8 ?_
      refine S.aload_n (pc' := 39) dX12_readThing_38 rfl rfl rfl ?_
      refine S.getI (pc' := 42) dX12_readThing_39 rfl fX12_139 L_177 ?_
      rw [show fp_up M30 182 D.1.1.toNat (nuV tp 0 3 (.inr (nxt tp s))) 177 11 = D.1.1 by rw [a33.rd (by omega)]; exact h11]
      refine S.aload_n (pc' := 43) dX12_readThing_42 rfl rfl rfl ?_
      refine S.iconst (pc' := 44) dX12_readThing_43 rfl ?_
      refine S.bipush (pc' := 46) dX12_readThing_44 rfl (by decide) ?_
      refine S.callVi (pc' := 49) dX12_readThing_46 rfl cX12_142 (mt_nu ht a33 (hmU _ _ _ _ (by omega) (by omega) hm) (by unfold fp_rng; omega) (by unfold fp_rng; omega)) rfl L_177 (by decide) rfl (Nat.le_of_ble_eq_true rfl) (fun z46 M46 q46 => ?_)
      obtain ⟨a46, z2⟩ := q46
      rw [z2]
      refine S.iast (pc' := 50) dX12_readThing_49 rfl L_183 (by omega) (by omega) ?_
      refine S.iconst (pc' := 51) dX12_readThing_50 rfl ?_
      refine S.istore_n (pc' := 52) (LL' := [_, _]) dX12_readThing_51 rfl (by decide) rfl rfl rfl ?_
      have hm2 := hmU _ 183 D.1.1.toNat (nuV tp 0 9 (nuR tp 0 3 (.inr (nxt tp s)))) (by omega) (by omega) (hmU _ 182 D.1.1.toNat (nuV tp 0 3 (.inr (nxt tp s))) (by omega) (by omega) hm)
      refine th_it ht (a46.up (Or.inl (by decide))) hm2 h11 (by omega) (by omega) (fun N0 n0 => ?_)
      refine th_it ht n0 (hmU _ _ _ _ (by omega) (by omega) hm2) h11 (by omega) (by omega) (fun N1 n1 => ?_)
      refine th_it ht n1 (hmU _ _ _ _ (by omega) (by omega) (hmU _ _ _ _ (by omega) (by omega) hm2)) h11 (by omega) (by omega) (fun N2 n2 => ?_)
      refine th_it ht n2 (hmU _ _ _ _ (by omega) (by omega) (hmU _ _ _ _ (by omega) (by omega) (hmU _ _ _ _ (by omega) (by omega) hm2))) h11 (by omega) (by omega) (fun N3 n3 => ?_)
      exact hfin N3 _ _ _ _ _ _ _ _ (by omega) (by omega) n3 ⟨_, _, _, _, _, rfl, rfl, rfl, rfl, rfl, rfl, rfl, rfl, rfl, rfl, rfl, rfl⟩
    · exfalso; omega
end MTH
end
