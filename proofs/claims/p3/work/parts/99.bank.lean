/-! bank: the class -/
noncomputable def bkR (tp : List Int) : Int ⊕ (Int × aGd × aPg × List aVt) := match pText tp (tp.length + 1) 0 0 pD0 with
  | .inl h => .inl h
  | .inr q => @ite _ (stOk q.2) (Classical.propDecidable _) (.inr (q.1, q.2.1, pPg q.2, q.2.2.2.2.2.2)) (.inl (tp.length : Int))
theorem pPg_ok {D : pD} (hD : dOk D) (hs : stOk D) : pgOk D.1 (pPg D) := by
  have hg1 := hD.1.1
  have hg2 := hD.1.2.1
  have hcase : ∀ t, (∃ x, (0 ≤ x ∧ x < 3) ∧ t ∈ D.2.2.1 x ∧ (pPg D).1 t = 10 + x) ∨ ((∀ x, 0 ≤ x → x < 3 → t ∉ D.2.2.1 x) ∧ (pPg D).1 t = D.2.1 t) := by
    intro t
    show (∃ x, (0 ≤ x ∧ x < 3) ∧ t ∈ D.2.2.1 x ∧ (if t ∈ D.2.2.1 0 then (10 : Int) else if t ∈ D.2.2.1 1 then 11 else if t ∈ D.2.2.1 2 then 12 else D.2.1 t) = 10 + x) ∨ ((∀ x, 0 ≤ x → x < 3 → t ∉ D.2.2.1 x) ∧ (if t ∈ D.2.2.1 0 then (10 : Int) else if t ∈ D.2.2.1 1 then 11 else if t ∈ D.2.2.1 2 then 12 else D.2.1 t) = D.2.1 t)
    by_cases n0 : t ∈ D.2.2.1 0
    · rw [if_pos n0]; exact Or.inl ⟨0, by omega, n0, rfl⟩
    · rw [if_neg n0]
      by_cases n1 : t ∈ D.2.2.1 1
      · rw [if_pos n1]; exact Or.inl ⟨1, by omega, n1, rfl⟩
      · rw [if_neg n1]
        by_cases n2 : t ∈ D.2.2.1 2
        · rw [if_pos n2]; exact Or.inl ⟨2, by omega, n2, rfl⟩
        · rw [if_neg n2]
          refine Or.inr ⟨fun x x0 x1 => ?_, rfl⟩
          rcases (show x = 0 ∨ x = 1 ∨ x = 2 by omega) with rfl | rfl | rfl
          · exact n0
          · exact n1
          · exact n2
  have hln : ∀ x t, 0 ≤ x → x < 3 → t ∈ D.2.2.1 x → x < D.1.2.1 := by
    intro x t x0 x1 ht
    by_cases e : x < D.1.2.1
    · exact e
    · rw [(hD.2.2.1 x x0 x1).2.2.1 (by omega)] at ht
      exact (List.not_mem_nil ht).elim
  refine ⟨fun t t0 t1 => ?_, fun x x0 x1 => ?_, fun t t0 t1 h10 => ?_⟩
  · rcases hcase t with ⟨x, hx, hm, e⟩ | ⟨_, e⟩
    · have := hln x t hx.1 hx.2 hm
      rw [e]; omega
    · have := hD.2.1 t t0 t1
      rw [e]; omega
  · obtain ⟨k1, k2, k3, k4⟩ := hD.2.2.1 x x0 x1
    refine ⟨k1, k2, k3, fun t ht => ⟨(k4 t ht).1.1, hs.1 x t x0 x1 ht, ?_⟩⟩
    rcases hcase t with ⟨y, hy, hm, e⟩ | ⟨hn, _⟩
    · by_cases exy : x = y
      · rw [e, exy]
      · exact absurd hm (hD.2.2.2.1 x y t x0 x1 hy.1 hy.2 exy ht)
    · exact absurd ht (hn x x0 x1)
  · have hw := hD.2.1 t t0 t1
    rcases hcase t with ⟨y, hy, hm, e⟩ | ⟨_, e⟩
    · rw [e, show 10 + y - 10 = y by omega]
      exact ⟨hm, trivial⟩
    · rw [e] at h10; omega
theorem bkR_ok {tp : List Int} {D : pD} (hD : dOk D) (hs : stOk D) (sh : aSh) (hsh : shOk sh) : OK D.1 (pPg D) D.2.2.2.2.2 [] (fun _ => none) sh := by
  refine ⟨hD.1, pPg_ok hD hs, fun v hv => ?_, ⟨fun t ht => (List.not_mem_nil ht).elim, List.nodup_nil⟩, (fun k x h => by cases h), hsh⟩
  obtain ⟨v1, v2, v3, v4⟩ := hD.2.2.2.2.2.2.2 v hv
  obtain ⟨s1, s2⟩ := hs.2 v hv
  exact ⟨v1, v2, ⟨v3.1, s2⟩, by omega⟩
section BNK
variable {l : Launch} {G : fp_WG} {M N : fp_Mem} {tp : List Int} {fl : Int} {g : aGd} {pg : aPg} {vs : List aVt} {nt : List Int} {im : aIm} {sh : aSh} {tn : Int} {k k2 : Nat}
theorem cp_gd (hd : gdIs M k2 g) (hne : k2 + 3 < k ∨ k + 3 < k2) (e0 : N k 0 = M k2 0) (e1 : N k 1 = M k2 1) (e2 : N k 2 = M k2 2) (r1 : ∀ j, j < 11 → N (k + 1) j = M (k2 + 1) j) (r2 : ∀ j, j < 44 → N (k + 2) j = M (k2 + 2) j) (r3 : ∀ j, j < 3 → N (k + 3) j = M (k2 + 3) j) : gdIs N k g := by
  obtain ⟨d1, d2, d3, d4, d5, d6, d7, d8, q1, q2, q3, q4, q5, q6⟩ := hd
  rw [d1] at q1
  rw [d2] at q2
  refine ⟨by rw [e0]; exact d1, by rw [e1]; exact d2, by rw [e2]; exact d3, fun t t0 t1 => ?_, ?_, fun t p t0 t1 p0 p1 => ?_, fun p p0 p1 => ?_, fun x x0 x1 => ?_, by rw [e0, d1]; exact q1, by rw [e1, d2]; exact q2, by rw [e2]; exact q3, fun i i0 i1 => ?_, fun i i0 i1 => ?_, fun x x0 x1 => ?_⟩
  · rw [r1 _ (by omega)]; exact d4 t t0 t1
  · rw [r1 10 (by decide)]; exact d5
  · rw [r2 _ (by omega)]; exact d6 t p t0 t1 p0 p1
  · rw [r2 _ (by omega)]; exact d7 p p0 p1
  · rw [r3 _ (by omega)]; exact d8 x x0 x1
  · rw [r1 _ (by omega)]; exact q4 i i0 i1
  · rw [r2 _ (by omega)]; exact q5 i i0 i1
  · rw [r3 _ (by omega)]; exact q6 x x0 x1
theorem rk_X1_copyFrom (hk : fp_isgd k) (hk2 : fp_isgd k2) (hne : k2 + 3 < k ∨ k + 3 < k2) (hd : gdIs M k2 g) : fp_Ok l G 1 kX1_copyFrom [rV G k, rV G k2] M (qV fun N => gdIs N k g ∧ ∀ a, (a < k ∨ k + 3 < a) → N a = M a) := by
  refine fp_Ok.of (r := 0) rfl (Nat.le_of_ble_eq_true rfl) rfl ?_
  refine S.aload_n (pc' := 1) dX1_copyFrom_0 rfl rfl rfl ?_
  refine S.aload_n (pc' := 2) dX1_copyFrom_1 rfl rfl rfl ?_
  refine S.getI (pc' := 5) dX1_copyFrom_2 rfl fX1_25 (gd_lay hk2) ?_
  refine S.putI (pc' := 8) dX1_copyFrom_5 rfl fX1_25 (gd_lay hk) ?_
  refine S.aload_n (pc' := 9) dX1_copyFrom_8 rfl rfl rfl ?_
  refine S.aload_n (pc' := 10) dX1_copyFrom_9 rfl rfl rfl ?_
  refine S.getI (pc' := 13) dX1_copyFrom_10 rfl fX1_28 (gd_lay hk2) ?_
  refine S.putI (pc' := 16) dX1_copyFrom_13 rfl fX1_28 (gd_lay hk) ?_
  refine S.aload_n (pc' := 17) dX1_copyFrom_16 rfl rfl rfl ?_
  refine S.aload_n (pc' := 18) dX1_copyFrom_17 rfl rfl rfl ?_
  refine S.getI (pc' := 21) dX1_copyFrom_18 rfl fX1_9 (gd_lay hk2) ?_
  refine S.putI (pc' := 24) dX1_copyFrom_21 rfl fX1_9 (gd_lay hk) ?_
  refine S.aload_n (pc' := 25) dX1_copyFrom_24 rfl rfl rfl ?_
  refine S.getR (pc' := 28) dX1_copyFrom_25 rfl fX1_15 (gd_lay hk2) (gd_r3 hk2) ?_
  refine S.iconst (pc' := 29) dX1_copyFrom_28 rfl ?_
  refine S.aload_n (pc' := 30) dX1_copyFrom_29 rfl rfl rfl ?_
  refine S.getR (pc' := 33) dX1_copyFrom_30 rfl fX1_15 (gd_lay hk) (gd_r3 hk) ?_
  refine S.iconst (pc' := 34) dX1_copyFrom_33 rfl ?_
  refine S.aload_n (pc' := 35) dX1_copyFrom_34 rfl rfl rfl ?_
  refine S.getR (pc' := 38) dX1_copyFrom_35 rfl fX1_15 (gd_lay hk) (gd_r3 hk) ?_
  refine S.alen (pc' := 39) dX1_copyFrom_38 rfl (gd_a3 hk) (by decide) rfl (by first | assumption | decide) ?_
  refine S.copyi (pc' := 42) dX1_copyFrom_39 rfl aX1_31 (gd_a3 hk2) (gd_a3 hk) (by decide) (by decide) (by omega) (by omega) (by omega) (by omega) (by omega) (by decide) (Nat.le_of_ble_eq_true rfl) ?_
  refine S.aload_n (pc' := 43) dX1_copyFrom_42 rfl rfl rfl ?_
  refine S.getR (pc' := 46) dX1_copyFrom_43 rfl fX1_19 (gd_lay hk2) (gd_r4 hk2) ?_
  refine S.iconst (pc' := 47) dX1_copyFrom_46 rfl ?_
  refine S.aload_n (pc' := 48) dX1_copyFrom_47 rfl rfl rfl ?_
  refine S.getR (pc' := 51) dX1_copyFrom_48 rfl fX1_19 (gd_lay hk) (gd_r4 hk) ?_
  refine S.iconst (pc' := 52) dX1_copyFrom_51 rfl ?_
  refine S.aload_n (pc' := 53) dX1_copyFrom_52 rfl rfl rfl ?_
  refine S.getR (pc' := 56) dX1_copyFrom_53 rfl fX1_19 (gd_lay hk) (gd_r4 hk) ?_
  refine S.alen (pc' := 57) dX1_copyFrom_56 rfl (gd_a4 hk) (by decide) rfl (by first | assumption | decide) ?_
  refine S.copyi (pc' := 60) dX1_copyFrom_57 rfl aX1_31 (gd_a4 hk2) (gd_a4 hk) (by decide) (by decide) (by omega) (by omega) (by omega) (by omega) (by omega) (by decide) (Nat.le_of_ble_eq_true rfl) ?_
  refine S.aload_n (pc' := 61) dX1_copyFrom_60 rfl rfl rfl ?_
  refine S.getR (pc' := 64) dX1_copyFrom_61 rfl fX1_22 (gd_lay hk2) (gd_r5 hk2) ?_
  refine S.iconst (pc' := 65) dX1_copyFrom_64 rfl ?_
  refine S.aload_n (pc' := 66) dX1_copyFrom_65 rfl rfl rfl ?_
  refine S.getR (pc' := 69) dX1_copyFrom_66 rfl fX1_22 (gd_lay hk) (gd_r5 hk) ?_
  refine S.iconst (pc' := 70) dX1_copyFrom_69 rfl ?_
  refine S.aload_n (pc' := 71) dX1_copyFrom_70 rfl rfl rfl ?_
  refine S.getR (pc' := 74) dX1_copyFrom_71 rfl fX1_22 (gd_lay hk) (gd_r5 hk) ?_
  refine S.alen (pc' := 75) dX1_copyFrom_74 rfl (gd_a5 hk) (by decide) rfl (by first | assumption | decide) ?_
  refine S.copyi (pc' := 78) dX1_copyFrom_75 rfl aX1_31 (gd_a5 hk2) (gd_a5 hk) (by decide) (by decide) (by omega) (by omega) (by omega) (by omega) (by omega) (by decide) (Nat.le_of_ble_eq_true rfl) ?_
  refine S.vret dX1_copyFrom_78 rfl ?_
  refine ⟨cp_gd hd hne ?_ ?_ ?_ (fun j hj => ?_) (fun j hj => ?_) (fun j hj => ?_), fun a ha => by rw [fp_upM_ne (by omega), fp_upM_ne (by omega), fp_upM_ne (by omega), fp_up_ne (by omega), fp_up_ne (by omega), fp_up_ne (by omega)]⟩
  · rw [fp_upM_ne (by omega), fp_upM_ne (by omega), fp_upM_ne (by omega), fp_up_at, fp_upf_ne (by decide), fp_up_at, fp_upf_ne (by decide), fp_up_at, fp_upf_at]
  · rw [fp_upM_ne (by omega), fp_upM_ne (by omega), fp_upM_ne (by omega), fp_up_at, fp_upf_ne (by decide), fp_up_at, fp_upf_at, fp_up_ne (by omega)]
  · rw [fp_upM_ne (by omega), fp_upM_ne (by omega), fp_upM_ne (by omega), fp_up_at, fp_upf_at, fp_up_ne (by omega), fp_up_ne (by omega)]
  · rw [fp_upM_ne (by omega), fp_upM_ne (by omega), fp_upM_at, fp_up_ne (show k2 + 1 ≠ k by omega), fp_up_ne (show k2 + 1 ≠ k by omega), fp_up_ne (show k2 + 1 ≠ k by omega)]; simp [va_cpy]; intro; omega
  · rw [fp_upM_ne (by omega), fp_upM_at, fp_upM_ne (show k2 + 2 ≠ k + 1 by omega), fp_up_ne (show k2 + 2 ≠ k by omega), fp_up_ne (show k2 + 2 ≠ k by omega), fp_up_ne (show k2 + 2 ≠ k by omega)]; simp [va_cpy]; intro; omega
  · rw [fp_upM_at, fp_upM_ne (show k2 + 3 ≠ k + 2 by omega), fp_upM_ne (show k2 + 3 ≠ k + 1 by omega), fp_up_ne (show k2 + 3 ≠ k by omega), fp_up_ne (show k2 + 3 ≠ k by omega), fp_up_ne (show k2 + 3 ≠ k by omega)]; simp [va_cpy]; intro; omega
theorem bk_img {A : fp_Mem} {z : Int} {Q : fp_Q} (K : ∀ (N : fp_Mem), (∀ a, a ≠ 143 → a ≠ 156 → N a = A a) → N 143 0 = 0 → N 156 0 = 0 → fp_S l G 9 kX11_bank 115 [some (rV G 0), some (iV z), some (iV 2)] [] N Q) : ∀ (n : Nat) (i : Int) (N : fp_Mem), (2 - i).toNat = n → 0 ≤ i → i ≤ 2 → (∀ a, a ≠ 143 → a ≠ 156 → N a = A a) → (0 < i → N 143 0 = 0) → (1 < i → N 156 0 = 0) →
    fp_S l G 9 kX11_bank 94 [some (rV G 0), some (iV z), some (iV i)] [] N Q := by
  intro n
  induction n with
  | zero =>
    intro i N hn h0 h1 hN ha hb
    have : i = 2 := by omega
    subst this
    refine S.iload_n (pc' := 95) dX11_bank_94 rfl rfl rfl ?_
    refine S.iconst (pc' := 96) dX11_bank_95 rfl ?_
    refine S.icmp_ge (pc' := 99) (tgt := 115) dX11_bank_96 (by decide) rfl (by unfold fp_rng; omega) (by unfold fp_rng; omega) (fun h96 => ?_) (fun h96 => ?_)
    · exact K N hN (ha (by omega)) (hb (by omega))
    · exfalso; omega
  | succ n ih =>
    intro i N hn h0 h1 hN ha hb
    have hc : (i = 0 ∧ 143 + 13 * i.toNat = 143) ∨ (i = 1 ∧ 143 + 13 * i.toNat = 156) := by omega
    refine S.iload_n (pc' := 95) dX11_bank_94 rfl rfl rfl ?_
    refine S.iconst (pc' := 96) dX11_bank_95 rfl ?_
    refine S.icmp_ge (pc' := 99) (tgt := 115) dX11_bank_96 (by decide) rfl (by unfold fp_rng; omega) (by unfold fp_rng; omega) (fun h96 => ?_) (fun h96 => ?_)
    · exfalso; omega
    · refine S.aload_n (pc' := 100) dX11_bank_99 rfl rfl rfl ?_
      refine S.getR (pc' := 103) dX11_bank_100 rfl fX11_78 L_0 rf_0_11 ?_
      refine S.iload_n (pc' := 104) dX11_bank_103 rfl rfl rfl ?_
      refine S.aald (pc' := 105) dX11_bank_104 rfl L_141 (by decide) (by decide) (by omega) (by omega) (img_r (by omega) (by omega)) ?_
      refine S.iconst (pc' := 106) dX11_bank_105 rfl ?_
      refine S.putZ (pc' := 109) dX11_bank_106 rfl fX11_122 (im_lay (img_o (by omega) (by omega))) (by first | exact Or.inl rfl | exact Or.inr rfl | omega) ?_
      refine S.iinc (pc' := 112) (LL' := [_, _, _]) dX11_bank_109 rfl (by decide) rfl rfl rfl ?_
      refine S.goto (pc' := 94) dX11_bank_112 (by decide) ?_
      refine ih (i + 1) _ (by omega) (by omega) (by omega) (fun a q1 q2 => by rw [fp_up_ne (by omega)]; exact hN a q1 q2) (fun _ => ?_) (fun _ => ?_)
      · rcases hc with ⟨e, e2⟩ | ⟨e, e2⟩
        · rw [e2, fp_up_at, fp_upf_at]
        · rw [e2, fp_up_ne (by decide)]; exact ha (by omega)
      · rcases hc with ⟨e, e2⟩ | ⟨e, e2⟩
        · omega
        · rw [e2, fp_up_at, fp_upf_at]
theorem bk_go {z : Int} {o : Option Value} {O : fp_Mem} (hc : CS M tp fl g pg vs nt im sh tn) (f1 : fR M O) (f2 : rdI O) (f3 : (∃ h, pText tp (tp.length + 1) 0 0 pD0 = .inl h ∧ flt O h) ∨ ∃ q, pText tp (tp.length + 1) 0 0 pD0 = .inr q ∧ z = q.1 ∧ dOk q.2 ∧ ((stOk q.2 ∧ O 2 3 = 0 ∧ gdIs O 3 q.2.1 ∧ clIs O 7 q.2.1 (pPg q.2) ∧ vsIs O 12 q.2.2.2.2.2.2) ∨ (¬ stOk q.2 ∧ flt O (tp.length : Int)))) : fp_S l G 9 kX11_bank 21 [some (rV G 0), some (iV z), o] [] (fp_up O 0 1 0) (qI fun z N => rdI N ∧ (∀ c, 177 ≤ c → N c = M c) ∧ ((∃ h fl', bkR tp = .inl h ∧ z = -10 - h ∧ CS N [] fl' g pg vs nt im sh tn) ∨ ∃ r, bkR tp = .inr r ∧ z = r.1 ∧ (∀ s9, shOk s9 → OK r.2.1 r.2.2.1 r.2.2.2 [] (fun _ => none) s9) ∧ CS N [] 0 r.2.1 r.2.2.1 r.2.2.2 [] (fun _ => none) sh tn)) := by
  obtain ⟨hA, hG, hP, hV, hN, hI, hS⟩ := hc
  have hcsA : ∀ (N : fp_Mem) (f : Int), N 0 = fp_upf (O 0) 1 0 → N 2 3 = f → 0 ≤ f ∧ f ≤ 6 → csA N [] f tn := by
    intro N f e0 e2 hf
    refine ⟨by rw [e0, fp_upf_at]; rfl, by decide, fun i i0 i1 => absurd i1 (by show ¬ i < ((0 : Nat) : Int); omega), e2, ?_, hf, hA.2.2.2.2.2.2⟩
    rw [e0, fp_upf_ne (by decide), f1 0 (by omega)]
    exact hA.2.2.2.2.1
  have hbad : ∀ h, flt O h → bkR tp = .inl h → fp_S l G 9 kX11_bank 21 [some (rV G 0), some (iV z), o] [] (fp_up O 0 1 0) (qI fun z N => rdI N ∧ (∀ c, 177 ≤ c → N c = M c) ∧ ((∃ h fl', bkR tp = .inl h ∧ z = -10 - h ∧ CS N [] fl' g pg vs nt im sh tn) ∨ ∃ r, bkR tp = .inr r ∧ z = r.1 ∧ (∀ s9, shOk s9 → OK r.2.1 r.2.2.1 r.2.2.2 [] (fun _ => none) s9) ∧ CS N [] 0 r.2.1 r.2.2.1 r.2.2.2 [] (fun _ => none) sh tn)) := by
    intro h hfl hb
    have e23 : fp_up O 0 1 0 2 3 = O 2 3 := rfl
    have e24 : fp_up O 0 1 0 2 4 = h := hfl.2
    have hr := hfl.1
    refine S.aload_n (pc' := 22) dX11_bank_21 rfl rfl rfl ?_
    refine S.getR (pc' := 25) dX11_bank_22 rfl fX11_16 L_0 rf_0_2 ?_
    refine S.getI (pc' := 28) dX11_bank_25 rfl fX11_98 L_2 ?_
    rw [e23]
    refine S.if_eq (pc' := 31) (tgt := 42) dX11_bank_28 (by decide) rfl (by unfold fp_rng; omega) (fun h28 => ?_) (fun h28 => ?_)
    · exfalso; omega
    · refine S.bipush (pc' := 33) dX11_bank_31 rfl (by decide) ?_
      refine S.aload_n (pc' := 34) dX11_bank_33 rfl rfl rfl ?_
      refine S.getR (pc' := 37) dX11_bank_34 rfl fX11_16 L_0 rf_0_2 ?_
      refine S.getI (pc' := 40) dX11_bank_37 rfl fX11_101 L_2 ?_
      rw [e24]
      refine S.isub (pc' := 41) dX11_bank_40 rfl ?_
      refine S.iret dX11_bank_41 rfl ?_
      refine ⟨f2.kept rfl rfl rfl rfl, fun c hc => by rw [fp_up_ne (by omega)]; exact f1 c (by omega), Or.inl ⟨h, O 2 3, hb, rfl, hcsA _ _ (fp_up_at _ _ _ _) rfl (by omega), ?_⟩⟩
      have hk : ∀ a, 17 ≤ a → fp_up O 0 1 0 a = M a := fun a ha => by rw [fp_up_ne (by omega)]; exact f1 a (by omega)
      exact ⟨hG.kept (fun a q1 q2 => hk a (by omega)), hP.kept (fun a q1 q2 => hk a (by omega)), hV.kept (fun a q1 q2 => hk a (by omega)), hN.kept (fun a q1 q2 => hk a (by omega)), hI.kept (fun a q1 q2 => hk a (by omega)), hS.kept (fun a q1 q2 => hk a (by omega))⟩
  rcases f3 with ⟨h, e1, e2⟩ | ⟨q, e1, e2, e3, e4⟩
  · refine hbad h e2 ?_
    unfold bkR
    rw [e1]
  · rcases e4 with ⟨s1, s2, s3, s4, s5⟩ | ⟨s1, s2⟩
    · have hb : bkR tp = .inr (q.1, q.2.1, pPg q.2, q.2.2.2.2.2.2) := by
        unfold bkR
        rw [e1]
        exact if_pos s1
      subst e2
      have hgo := pPg_ok e3 s1
      refine S.aload_n (pc' := 22) dX11_bank_21 rfl rfl rfl ?_
      refine S.getR (pc' := 25) dX11_bank_22 rfl fX11_16 L_0 rf_0_2 ?_
      refine S.getI (pc' := 28) dX11_bank_25 rfl fX11_98 L_2 ?_
      refine S.if_eq (pc' := 31) (tgt := 42) dX11_bank_28 (by decide) rfl (show fp_rng (O 2 3) by rw [s2]; exact fp_rng0) (fun h28 => ?_) (fun h28 => ?_)
      · refine S.aload_n (pc' := 43) dX11_bank_42 rfl rfl rfl ?_
        refine S.getR (pc' := 46) dX11_bank_43 rfl fX11_23 L_0 rf_0_3 ?_
        refine S.aload_n (pc' := 47) dX11_bank_46 rfl rfl rfl ?_
        refine S.getR (pc' := 50) dX11_bank_47 rfl fX11_16 L_0 rf_0_2 ?_
        refine S.getR (pc' := 53) dX11_bank_50 rfl fX11_104 L_2 rf_2_0 ?_
        refine S.callVv (pc' := 56) dX11_bank_53 rfl cX11_105 (rk_X1_copyFrom gd18 gd3 (by omega) (show gdIs (fp_up O 0 1 0) 3 q.2.1 from s3.kept (fun a q1 q2 => fp_up_ne (by omega)))) rfl (gd_lay gd18) (by decide) rfl (Nat.le_of_ble_eq_true rfl) (fun M53 q53 => ?_)
        obtain ⟨c1, c2⟩ := q53
        refine S.aload_n (pc' := 57) dX11_bank_56 rfl rfl rfl ?_
        refine S.getR (pc' := 60) dX11_bank_57 rfl fX11_30 L_0 rf_0_4 ?_
        refine S.aload_n (pc' := 61) dX11_bank_60 rfl rfl rfl ?_
        refine S.getR (pc' := 64) dX11_bank_61 rfl fX11_16 L_0 rf_0_2 ?_
        refine S.getR (pc' := 67) dX11_bank_64 rfl fX11_109 L_2 rf_2_1 ?_
        refine S.callVv (pc' := 70) dX11_bank_67 rfl cX11_112 (rk_X5_copyFrom (g := q.2.1) (pg := pPg q.2) pl22 pl7 (by decide) (s4.kept (fun a q1 q2 => by rw [c2 a (by omega), fp_up_ne (by omega)])) hgo e3.1) rfl (pl_lay pl22) (by decide) rfl (Nat.le_of_ble_eq_true rfl) (fun M67 q67 => ?_)
        obtain ⟨d1, d2⟩ := q67
        refine S.aload_n (pc' := 71) dX11_bank_70 rfl rfl rfl ?_
        refine S.getR (pc' := 74) dX11_bank_71 rfl fX11_37 L_0 rf_0_5 ?_
        refine S.aload_n (pc' := 75) dX11_bank_74 rfl rfl rfl ?_
        refine S.getR (pc' := 78) dX11_bank_75 rfl fX11_16 L_0 rf_0_2 ?_
        refine S.getR (pc' := 81) dX11_bank_78 rfl fX11_115 L_2 rf_2_2 ?_
        refine S.callVv (pc' := 84) dX11_bank_81 rfl cX11_116 (rk_X10_copyFrom (vs := q.2.2.2.2.2.2) vs27 vs12 (by omega) (s5.kept (fun a q1 q2 => by rw [d2 a (by omega), c2 a (by omega), fp_up_ne (by omega)]))) rfl (vs_lay vs27) (by decide) rfl (Nat.le_of_ble_eq_true rfl) (fun M81 q81 => ?_)
        obtain ⟨g1, g2⟩ := q81
        refine S.aload_n (pc' := 85) dX11_bank_84 rfl rfl rfl ?_
        refine S.getR (pc' := 88) dX11_bank_85 rfl fX11_44 L_0 rf_0_6 ?_
        refine S.iconst (pc' := 89) dX11_bank_88 rfl ?_
        refine S.putI (pc' := 92) dX11_bank_89 rfl fX11_119 (nt_lay nt32) ?_
        refine S.iconst (pc' := 93) dX11_bank_92 rfl ?_
        refine S.istore_n (pc' := 94) (LL' := [_, _, _]) dX11_bank_93 rfl (by decide) rfl rfl rfl ?_
        refine bk_img (A := fp_up M81 32 0 0) (fun N n1 n2 n3 => ?_) 2 0 _ rfl (by omega) (by omega) (fun _ _ _ => rfl) (fun h => absurd h (by omega)) (fun h => absurd h (by omega))
        refine S.iload_n (pc' := 116) dX11_bank_115 rfl rfl rfl ?_
        refine S.iret dX11_bank_116 rfl ?_
        have hr : ∀ a, a ≠ 143 → a ≠ 156 → a ≠ 32 → (a < 18 ∨ 31 < a) → N a = fp_up O 0 1 0 a := fun a q1 q2 q3 q4 => by rw [n1 a q1 q2, fp_up_ne q3, g2 a (by omega), d2 a (by omega), c2 a (by omega)]
        have hk : ∀ a, a ≠ 143 → a ≠ 156 → 32 < a → N a = M a := fun a q1 q2 q3 => by rw [hr a q1 q2 (by omega) (by omega), fp_up_ne (by omega)]; exact f1 a (by omega)
        refine ⟨f2.kept (by rw [hr 4 (by decide) (by decide) (by decide) (by omega)]; rfl) (by rw [hr 5 (by decide) (by decide) (by decide) (by omega)]; rfl) (by rw [hr 6 (by decide) (by decide) (by decide) (by omega)]; rfl) (by rw [hr 11 (by decide) (by decide) (by decide) (by omega)]; rfl), fun c hc => hk c (by omega) (by omega) (by omega), Or.inr ⟨_, hb, rfl, fun s9 h9 => bkR_ok (tp := tp) e3 s1 s9 h9, hcsA _ _ (by rw [hr 0 (by decide) (by decide) (by decide) (by omega)]; exact fp_up_at _ _ _ _) (by rw [hr 2 (by decide) (by decide) (by decide) (by omega)]; exact s2) (by omega), ?_, ?_, ?_, ?_, ?_, ?_⟩⟩
        · exact c1.kept (fun a q1 q2 => by rw [n1 a (by omega) (by omega), fp_up_ne (by omega), g2 a (by omega), d2 a (by omega)])
        · exact d1.kept (fun a q1 q2 => by rw [n1 a (by omega) (by omega), fp_up_ne (by omega), g2 a (by omega)])
        · exact g1.kept (fun a q1 q2 => by rw [n1 a (by omega) (by omega), fp_up_ne (by omega)])
        · exact ⟨by rw [n1 32 (by decide) (by decide), fp_up_at, fp_upf_at]; rfl, by decide, fun i i0 i1 => absurd i1 (by show ¬ i < ((0 : Nat) : Int); omega)⟩
        · intro y y0 y1
          refine Or.inl ⟨rfl, ?_⟩
          rcases (show y = 0 ∨ y = 1 by omega) with rfl | rfl
          · exact n2
          · exact n3
        · exact hS.kept (fun a q1 q2 => hk a (by omega) (by omega) (by omega))
      · exact absurd s2 h28
    · refine hbad _ s2 ?_
      unfold bkR
      rw [e1]
      exact if_neg s1
theorem cc_bank (hc : CS M tp fl g pg vs nt im sh tn) (hi : rdI M) : fp_Ok l G 9 kX11_bank [rV G 0] M (qI fun z N => rdI N ∧ (∀ c, 177 ≤ c → N c = M c) ∧ ((∃ h fl', bkR tp = .inl h ∧ z = -10 - h ∧ CS N [] fl' g pg vs nt im sh tn) ∨ ∃ r, bkR tp = .inr r ∧ z = r.1 ∧ (∀ s9, shOk s9 → OK r.2.1 r.2.2.1 r.2.2.2 [] (fun _ => none) s9) ∧ CS N [] 0 r.2.1 r.2.2.1 r.2.2.2 [] (fun _ => none) sh tn)) := by
  obtain ⟨hA, hG, hP, hV, hN, hI, hS⟩ := hc
  have ht : tpOk tp := ⟨hA.2.1, fun i i0 i1 => (hA.2.2.1 i i0 i1).1⟩
  refine fp_Ok.of (r := 2) rfl (Nat.le_of_ble_eq_true rfl) rfl ?_
  refine S.aload_n (pc' := 1) dX11_bank_0 rfl rfl rfl ?_
  refine S.getR (pc' := 4) dX11_bank_1 rfl fX11_16 L_0 rf_0_2 ?_
  refine S.aload_n (pc' := 5) dX11_bank_4 rfl rfl rfl ?_
  refine S.getR (pc' := 8) dX11_bank_5 rfl fX11_9 L_0 rf_0_0 ?_
  refine S.aload_n (pc' := 9) dX11_bank_8 rfl rfl rfl ?_
  refine S.getI (pc' := 12) dX11_bank_9 rfl fX11_90 L_0 ?_
  refine S.callVi (pc' := 15) dX11_bank_12 rfl cX11_94 (rk_X6_readText hA.1 ht (fun i i0 i1 => (hA.2.2.1 i i0 i1).2) hi) rfl L_2 (by decide) rfl (Nat.le_of_ble_eq_true rfl) (fun z12 M12 q12 => ?_)
  obtain ⟨f1, f2, f3⟩ := q12
  refine S.istore_n (pc' := 16) (LL' := [_, _, _]) dX11_bank_15 rfl (by decide) rfl rfl rfl ?_
  refine S.aload_n (pc' := 17) dX11_bank_16 rfl rfl rfl ?_
  refine S.iconst (pc' := 18) dX11_bank_17 rfl ?_
  refine S.putI (pc' := 21) dX11_bank_18 rfl fX11_90 L_0 ?_
  exact bk_go ⟨hA, hG, hP, hV, hN, hI, hS⟩ f1 f2 f3
end BNK
