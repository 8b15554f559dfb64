/-! A TEXT, whole: the class; bank -/
section TX3
variable {l : Launch} {G : fp_WG} {M N : fp_Mem} {tp : List Int} {D : pD} {k : Nat}
theorem rk_X1_clear (hk : fp_isgd k) : fp_Ok l G 0 kX1_clear [rV G k] M (qW (fp_up (fp_up (fp_up M k 0 0) k 1 0) k 2 10)) := by
  refine fp_Ok.of (r := 0) rfl (Nat.le_of_ble_eq_true rfl) rfl ?_
  refine S.aload_n (pc' := 1) dX1_clear_0 rfl rfl rfl ?_
  refine S.iconst (pc' := 2) dX1_clear_1 rfl ?_
  refine S.putI (pc' := 5) dX1_clear_2 rfl fX1_25 (gd_lay hk) ?_
  refine S.aload_n (pc' := 6) dX1_clear_5 rfl rfl rfl ?_
  refine S.iconst (pc' := 7) dX1_clear_6 rfl ?_
  refine S.putI (pc' := 10) dX1_clear_7 rfl fX1_28 (gd_lay hk) ?_
  refine S.aload_n (pc' := 11) dX1_clear_10 rfl rfl rfl ?_
  refine S.bipush (pc' := 13) dX1_clear_11 rfl (by decide) ?_
  refine S.putI (pc' := 16) dX1_clear_13 rfl fX1_9 (gd_lay hk) ?_
  refine S.vret dX1_clear_16 rfl ?_
  rfl
theorem rk_X5_clear : fp_Ok l G 1 kX5_clear [rV G 7] M (qV fun N => (∀ a, (a < 8 ∨ 10 < a) → N a = M a) ∧ (∀ t : Int, 0 ≤ t → t < 10 → N 8 t.toNat = -4 ∧ N 9 t.toNat = -4) ∧ ∀ x : Int, 0 ≤ x → x < 3 → N 10 x.toNat = 0) := by
  refine (ok_X5_clear pl7).toV ⟨fun a ha => ?_, fun t t0 t1 => ?_, fun x x0 x1 => ?_⟩
  · unfold fp_spl
    by_cases e : a = 11
    · subst e; simp
    · rw [if_neg (by omega), if_neg (by omega), if_neg (by omega), if_neg (by omega)]
  · unfold fp_spl
    simp
    omega
  · unfold fp_spl
    simp
    omega
theorem se_cl (hd : rdD M D) (hD : dOk D) (hs : stOk D) (hi : rdI M) (hf : seF M N) (hr : seR D M N D.1.2.1 0) : clIs N 7 D.1 (pPg D) := by
  have hg1 := hD.1.1
  have hg2 := hD.1.2.1
  obtain ⟨p1, p2, p3, p4⟩ := hd.2.1
  obtain ⟨r1, r2, r3⟩ := hr
  have hin : ∀ y t, 0 ≤ y → y < 3 → t ∈ D.2.2.1 y → N 8 t.toNat = 10 + y ∧ N 9 t.toNat = D.2.1 t := by
    intro y t y0 y1 ht
    by_cases e : y < D.1.2.1
    · exact (r1 y t y0 e ht).2
    · rw [(hD.2.2.1 y y0 y1).2.2.1 (by omega)] at ht
      exact (List.not_mem_nil ht).elim
  have hout : ∀ t : Int, 0 ≤ t → t < 10 → t ∉ D.2.2.1 0 → t ∉ D.2.2.1 1 → t ∉ D.2.2.1 2 → N 8 t.toNat = M 8 t.toNat ∧ N 9 t.toNat = -4 := by
    intro t t0 t1 n0 n1 n2
    refine r3 t t0 t1 (fun y y0 y1 => ?_) (by simp)
    rcases (show y = 0 ∨ y = 1 ∨ y = 2 by omega) with rfl | rfl | rfl
    · exact n0
    · exact n1
    · exact n2
  have h8 : ∀ t : Int, 0 ≤ t → t < D.1.1 → N 8 t.toNat = (pPg D).1 t ∧ N 9 t.toNat = if (pPg D).1 t < 10 then -4 else D.2.1 t := by
    intro t t0 t1
    show N 8 t.toNat = (if t ∈ D.2.2.1 0 then 10 else if t ∈ D.2.2.1 1 then 11 else if t ∈ D.2.2.1 2 then 12 else D.2.1 t) ∧ N 9 t.toNat = if (if t ∈ D.2.2.1 0 then (10 : Int) else if t ∈ D.2.2.1 1 then 11 else if t ∈ D.2.2.1 2 then 12 else D.2.1 t) < 10 then -4 else D.2.1 t
    by_cases n0 : t ∈ D.2.2.1 0
    · rw [if_pos n0, if_neg (by omega)]
      exact hin 0 t (by omega) (by omega) n0
    · rw [if_neg n0]
      by_cases n1 : t ∈ D.2.2.1 1
      · rw [if_pos n1, if_neg (by omega)]
        exact hin 1 t (by omega) (by omega) n1
      · rw [if_neg n1]
        by_cases n2 : t ∈ D.2.2.1 2
        · rw [if_pos n2, if_neg (by omega)]
          exact hin 2 t (by omega) (by omega) n2
        · rw [if_neg n2]
          have hw := hD.2.1 t t0 t1
          rw [if_pos (by omega)]
          obtain ⟨o1, o2⟩ := hout t t0 (by omega) n0 n1 n2
          exact ⟨by rw [o1]; exact p1 t t0 t1, o2⟩
  have h9 : ∀ t : Int, D.1.1 ≤ t → t < 10 → N 8 t.toNat = -4 := by
    intro t t0 t1
    have hn : ∀ x, 0 ≤ x → x < 3 → t ∉ D.2.2.1 x := fun x x0 x1 hx => by have := hs.1 x t x0 x1 hx; omega
    rw [(hout t (by omega) t1 (hn 0 (by omega) (by omega)) (hn 1 (by omega) (by omega)) (hn 2 (by omega) (by omega))).1]
    exact p2 t t0 t1
  have h1011 : N 10 = M 10 ∧ N 11 = M 11 := ⟨hf.1 10 (by decide) (by decide) (by decide), hf.1 11 (by decide) (by decide) (by decide)⟩
  have hpg : ∀ t : Int, 0 ≤ t → t < D.1.1 → 0 ≤ (pPg D).1 t ∧ (pPg D).1 t ≤ 12 := by
    intro t t0 t1
    have hw := hD.2.1 t t0 t1
    show 0 ≤ (if t ∈ D.2.2.1 0 then (10 : Int) else if t ∈ D.2.2.1 1 then 11 else if t ∈ D.2.2.1 2 then 12 else D.2.1 t) ∧ (if t ∈ D.2.2.1 0 then (10 : Int) else if t ∈ D.2.2.1 1 then 11 else if t ∈ D.2.2.1 2 then 12 else D.2.1 t) ≤ 12
    repeat' split
    all_goals omega
  refine ⟨fun t t0 t1 => (h8 t t0 t1).1, h9, fun t t0 t1 => (h8 t t0 t1).2, fun x x0 x1 => ?_, fun t t0 t1 => ?_, fun x x0 x1 => ?_, fun i i0 i1 => ?_⟩
  · show N 10 x.toNat = _ ∧ ∀ i : Int, 0 ≤ i → i < _ → N 11 (x * 8 + i).toNat = _
    rw [h1011.1, h1011.2]
    exact p4 x x0 x1
  · show -4 ≤ N 8 t.toNat ∧ N 8 t.toNat ≤ 12
    by_cases e : t < D.1.1
    · have := (h8 t t0 e).1
      have := hpg t t0 e
      omega
    · rw [h9 t (by omega) t1]; decide
  · show 0 ≤ N 10 x.toNat ∧ N 10 x.toNat ≤ 8
    rw [h1011.1, (p4 x x0 x1).1]
    have := (hD.2.2.1 x x0 x1).1
    omega
  · show 0 ≤ N 11 i.toNat ∧ N 11 i.toNat ≤ 9
    rw [h1011.2]
    exact hi.2.2.2.2.2 i i0 i1
theorem rt_gd (hd : rdD M D) (hD : dOk D) (hi : rdI M) (hf : seF M N) : gdIs N 3 D.1 := by
  have hd1 := hd.1
  have hi2 : rdI N := hi.kept (hf.1 4 (by decide) (by decide) (by decide)) (hf.1 5 (by decide) (by decide) (by decide)) (hf.1 6 (by decide) (by decide) (by decide)) (hf.1 11 (by decide) (by decide) (by decide))
  refine se_gd ?_ hi2 hD.1
  unfold rdG at *
  rw [hf.1 3 (by decide) (by decide) (by decide), hf.1 4 (by decide) (by decide) (by decide), hf.1 5 (by decide) (by decide) (by decide), hf.1 6 (by decide) (by decide) (by decide)]
  exact hd1
theorem rt_end {z : Int} {o : Option Value} (ht : tpOk tp) (h : txP tp M N (pText tp (tp.length + 1) 0 0 pD0) z) : fp_S l G 8 kX6_readText 99 [some (rV G 2), some (rV G 1), some (iV (tp.length : Int)), some (iV z), o] [] N (qI fun z N => rtP tp M N z) := by
  obtain ⟨f1, f2, f3, f4⟩ := h
  rcases f4 with ⟨h, e1, e2⟩ | ⟨q, e1, e2, e3, e4, e5⟩
  · have e23 := e2.1
    refine S.aload_n (pc' := 100) dX6_readText_99 rfl rfl rfl ?_
    refine S.getI (pc' := 103) dX6_readText_100 rfl fX6_43 L_2 ?_
    refine S.if_ne (pc' := 106) (tgt := 110) dX6_readText_103 (by decide) rfl (by unfold fp_rng; omega) (fun h103 => ?_) (fun h103 => ?_)
    · refine S.iload_n (pc' := 111) dX6_readText_110 rfl rfl rfl ?_
      refine S.iret dX6_readText_111 rfl ?_
      exact ⟨f1, f3, Or.inl ⟨h, e1, e2⟩⟩
    · exfalso; omega
  · subst e2
    refine S.aload_n (pc' := 100) dX6_readText_99 rfl rfl rfl ?_
    refine S.getI (pc' := 103) dX6_readText_100 rfl fX6_43 L_2 ?_
    refine S.if_ne (pc' := 106) (tgt := 110) dX6_readText_103 (by decide) rfl (by rw [e3]; exact fp_rng0) (fun h103 => ?_) (fun h103 => ?_)
    · refine S.iload_n (pc' := 111) dX6_readText_110 rfl rfl rfl ?_
      refine S.iret dX6_readText_111 rfl ?_
      first
      | exact absurd e3 h103
      | (obtain ⟨s1, s2⟩ := q107
         refine ⟨f1.trans (fun a ha => s1.1 a (by omega) (by omega) (by omega)), f3.kept (s1.1 4 (by decide) (by decide) (by decide)) (s1.1 5 (by decide) (by decide) (by decide)) (s1.1 6 (by decide) (by decide) (by decide)) (s1.1 11 (by decide) (by decide) (by decide)), Or.inr ⟨q, e1, rfl, e5, ?_⟩⟩
         rcases s2 with s2 | s2
         · exact Or.inl ⟨s2.1, s2.2.1, rt_gd e4 e5 f3 s1, se_cl e4 e5 s2.1 f3 s1 s2.2.2, e4.2.2.1.kept (fun a q1 q2 => s1.1 a (by omega) (by omega) (by omega))⟩
         · exact Or.inr s2)
    · refine S.aload_n (pc' := 107) dX6_readText_106 rfl rfl rfl ?_
      refine S.callVv (pc' := 110) dX6_readText_107 rfl cX6_70 (rk_X6_settle f2 e3 e4 e5) rfl L_2 (by decide) rfl (Nat.le_of_ble_eq_true rfl) (fun M107 q107 => ?_)
      refine S.iload_n (pc' := 111) dX6_readText_110 rfl rfl rfl ?_
      refine S.iret dX6_readText_111 rfl ?_
      first
      | exact absurd e3 h103
      | (obtain ⟨s1, s2⟩ := q107
         refine ⟨f1.trans (fun a ha => s1.1 a (by omega) (by omega) (by omega)), f3.kept (s1.1 4 (by decide) (by decide) (by decide)) (s1.1 5 (by decide) (by decide) (by decide)) (s1.1 6 (by decide) (by decide) (by decide)) (s1.1 11 (by decide) (by decide) (by decide)), Or.inr ⟨q, e1, rfl, e5, ?_⟩⟩
         rcases s2 with s2 | s2
         · exact Or.inl ⟨s2.1, s2.2.1, rt_gd e4 e5 f3 s1, se_cl e4 e5 s2.1 f3 s1 s2.2.2, e4.2.2.1.kept (fun a q1 q2 => s1.1 a (by omega) (by omega) (by omega))⟩
         · exact Or.inr s2)
theorem rk_X6_readText {n : Int} (hn : n = (tp.length : Int)) (ht : tpOk tp) (h1 : ∀ i : Int, 0 ≤ i → i < (tp.length : Int) → M 1 i.toNat = (aBy tp i).bmod 256) (hi : rdI M) : fp_Ok l G 8 kX6_readText [rV G 2, rV G 1, iV n] M (qI fun z N => rtP tp M N z) := by
  subst hn
  refine fp_Ok.of (r := 2) rfl (Nat.le_of_ble_eq_true rfl) rfl ?_
  have htl := ht.1
  refine S.aload_n (pc' := 1) dX6_readText_0 rfl rfl rfl ?_
  refine S.aload_n (pc' := 2) dX6_readText_1 rfl rfl rfl ?_
  refine S.putT (pc' := 5) dX6_readText_2 rfl fX6_32 L_2 rf_2_5 ?_
  refine S.aload_n (pc' := 6) dX6_readText_5 rfl rfl rfl ?_
  refine S.iload_n (pc' := 7) dX6_readText_6 rfl rfl rfl ?_
  refine S.putI (pc' := 10) dX6_readText_7 rfl fX6_36 L_2 ?_
  refine S.aload_n (pc' := 11) dX6_readText_10 rfl rfl rfl ?_
  refine S.iconst (pc' := 12) dX6_readText_11 rfl ?_
  refine S.putI (pc' := 15) dX6_readText_12 rfl fX6_40 L_2 ?_
  refine S.aload_n (pc' := 16) dX6_readText_15 rfl rfl rfl ?_
  refine S.iconst (pc' := 17) dX6_readText_16 rfl ?_
  refine S.putI (pc' := 20) dX6_readText_17 rfl fX6_43 L_2 ?_
  refine S.aload_n (pc' := 21) dX6_readText_20 rfl rfl rfl ?_
  refine S.iconst (pc' := 22) dX6_readText_21 rfl ?_
  refine S.putI (pc' := 25) dX6_readText_22 rfl fX6_46 L_2 ?_
  refine S.aload_n (pc' := 26) dX6_readText_25 rfl rfl rfl ?_
  refine S.iconst (pc' := 27) dX6_readText_26 rfl ?_
  refine S.putZ (pc' := 30) dX6_readText_27 rfl fX6_49 L_2 (by first | exact Or.inl rfl | exact Or.inr rfl | omega) ?_
  refine S.aload_n (pc' := 31) dX6_readText_30 rfl rfl rfl ?_
  refine S.getR (pc' := 34) dX6_readText_31 rfl fX6_12 L_2 rf_2_0 ?_
  refine S.callVw (pc' := 37) dX6_readText_34 rfl cX6_53 (rk_X1_clear gd3) rfl (gd_lay gd3) (by decide) rfl (Nat.le_of_ble_eq_true rfl) ?_
  refine S.aload_n (pc' := 38) dX6_readText_37 rfl rfl rfl ?_
  refine S.getR (pc' := 41) dX6_readText_38 rfl fX6_21 L_2 rf_2_1 ?_
  refine S.callVv (pc' := 44) dX6_readText_41 rfl cX6_56 rk_X5_clear rfl (pl_lay pl7) (by decide) rfl (Nat.le_of_ble_eq_true rfl) (fun M41 q41 => ?_)
  obtain ⟨b1, b2, b3⟩ := q41
  refine S.aload_n (pc' := 45) dX6_readText_44 rfl rfl rfl ?_
  refine S.getR (pc' := 48) dX6_readText_45 rfl fX6_28 L_2 rf_2_2 ?_
  refine S.iconst (pc' := 49) dX6_readText_48 rfl ?_
  refine S.putI (pc' := 52) dX6_readText_49 rfl fX6_57 (vs_lay vs12) ?_
  refine S.iconst (pc' := 53) dX6_readText_52 rfl ?_
  refine S.istore_n (pc' := 54) (LL' := [_, _, _, _, _]) dX6_readText_53 rfl (by decide) rfl rfl rfl ?_
  refine S.iconst (pc' := 55) dX6_readText_54 rfl ?_
  refine S.istore (pc' := 57) (LL' := [_, _, _, _, _]) dX6_readText_55 rfl (by decide) rfl rfl ?_
  refine tx_loop (M := M) ht (fun O z o hO => rt_end ht hO) (tp.length + 1) 0 0 pD0 _ (by omega) (by omega) (by omega) (by omega) ?_ ?_ ?_ ?_ ?_ pD0_ok ?_ rfl
  · intro a ha
    rw [fp_up_ne (by omega), b1 a (by omega), fp_up_ne (by omega), fp_up_ne (by omega), fp_up_ne (by omega), fp_up_ne (by omega), fp_up_ne (by omega), fp_up_ne (by omega), fp_up_ne (by omega), fp_up_ne (by omega), fp_up_ne (by omega)]
  · refine ⟨?_, ?_, fun i i0 i1 => ?_⟩
    · rw [fp_up_ne (by decide), b1 2 (by omega)]; rfl
    · rw [fp_up_ne (by decide), b1 2 (by omega)]; rfl
    · rw [fp_up_ne (by decide), b1 1 (by omega)]; exact h1 i i0 i1
  · rw [fp_up_ne (by decide), b1 2 (by omega)]; rfl
  · rw [fp_up_ne (by decide), b1 2 (by omega)]; rfl
  · refine ⟨⟨?_, ?_, ?_, fun t t0 t1 => absurd t1 (by show ¬ t < 0; omega), fun t p t0 t1 => absurd t1 (by show ¬ t < 0; omega), fun x x0 x1 => absurd x1 (by show ¬ x < 0; omega)⟩, ⟨fun t t0 t1 => absurd t1 (by show ¬ t < 0; omega), fun t t0 t1 => ?_, fun t t0 t1 => ?_, fun x x0 x1 => ⟨?_, fun i i0 i1 => absurd i1 (by show ¬ i < ((0 : Nat) : Int); omega)⟩⟩, ⟨?_, by decide, fun i i0 i1 => absurd i1 (by show ¬ i < ((0 : Nat) : Int); omega)⟩, ?_, ?_⟩
    · rw [fp_up_ne (by decide), b1 3 (by omega)]; rfl
    · rw [fp_up_ne (by decide), b1 3 (by omega)]; rfl
    · rw [fp_up_ne (by decide), b1 3 (by omega)]; rfl
    · rw [fp_up_ne (by decide)]; exact (b2 t t0 t1).1
    · rw [fp_up_ne (by decide)]; exact (b2 t t0 t1).2
    · rw [fp_up_ne (by decide)]; exact b3 x x0 x1
    · rfl
    · rw [fp_up_ne (by decide), b1 2 (by omega)]; rfl
    · rw [fp_up_ne (by decide), b1 2 (by omega)]; rfl
  · refine hi.kept ?_ ?_ ?_ ?_
    · rw [fp_up_ne (by decide), b1 4 (by omega)]; rfl
    · rw [fp_up_ne (by decide), b1 5 (by omega)]; rfl
    · rw [fp_up_ne (by decide), b1 6 (by omega)]; rfl
    · rw [fp_up_ne (by decide), b1 11 (by omega)]; rfl
end TX3
