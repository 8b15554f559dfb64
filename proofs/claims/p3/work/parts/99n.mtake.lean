/-! A TEXT TAKEN: the reference, in abstract words -/
def tkW (D : pD) (M N : fp_Mem) : Prop := ((∀ a, a ≠ 177 → a ≠ 178 → a ≠ 179 → a ≠ 180 → a ≠ 181 → a ≠ 199 → N a = M a) ∧ ∀ j, j ≠ 4 → j ≠ 5 → j ≠ 6 → N 177 j = M 177 j) ∧ mdIs N D.1 ∧ mpIs N 0 D.1 (pPg D) ∧ mvRow (N 178) D.2.2.2.2.2 ∧ mnRow (N 178) [] ∧ N 199 0 = 0 ∧ N 199 1 = 0
theorem pPg_at {D : pD} (hD : dOk D) (t : Int) : (∃ x, (0 ≤ x ∧ x < 3) ∧ t ∈ D.2.2.1 x ∧ (pPg D).1 t = 10 + x) ∨ ((∀ x, 0 ≤ x → x < 3 → t ∉ D.2.2.1 x) ∧ (pPg D).1 t = D.2.1 t) := by
  show (∃ x, (0 ≤ x ∧ x < 3) ∧ t ∈ D.2.2.1 x ∧ (if t ∈ D.2.2.1 0 then (10 : Int) else if t ∈ D.2.2.1 1 then 11 else if t ∈ D.2.2.1 2 then 12 else D.2.1 t) = 10 + x) ∨ ((∀ x, 0 ≤ x → x < 3 → t ∉ D.2.2.1 x) ∧ (if t ∈ D.2.2.1 0 then (10 : Int) else if t ∈ D.2.2.1 1 then 11 else if t ∈ D.2.2.1 2 then 12 else D.2.1 t) = D.2.1 t)
  by_cases n0 : t ∈ D.2.2.1 0
  · rw [if_pos n0]; exact Or.inl ⟨0, by omega, n0, rfl⟩
  · rw [if_neg n0]
    by_cases n1 : t ∈ D.2.2.1 1
    · rw [if_pos n1]; exact Or.inl ⟨1, by omega, n1, rfl⟩
    · rw [if_neg n1]
      by_cases n2 : t ∈ D.2.2.1 2
      · rw [if_pos n2]; exact Or.inl ⟨2, by omega, n2, rfl⟩
      · rw [if_neg n2]
        refine Or.inr ⟨fun x x0 x1 => ?_, rfl⟩
        rcases (show x = 0 ∨ x = 1 ∨ x = 2 by omega) with rfl | rfl | rfl
        · exact n0
        · exact n1
        · exact n2
/-- the row of the state, all that lies put in its place -/
theorem sm_page {D : pD} {f0 f : Nat → Int} {x : Int} (hD : dOk D) (hs : stOk D) (h : smR D f0 f x 0) (hx : D.1.2.1 ≤ x ∧ x ≤ 3) (hp : mrP f0 D.1 D.2.1 D.2.2.1) : mpRow f 0 D.1 (pPg D) := by
  obtain ⟨h1, h2, h3, h4⟩ := h
  have hg := hD.1.1
  have hg2 := hD.1.2.1
  have hlt : ∀ y t, 0 ≤ y → y < 3 → t ∈ D.2.2.1 y → y < D.1.2.1 := by
    intro y t y0 y1 ht
    by_cases e : y < D.1.2.1
    · exact e
    · rw [(hD.2.2.1 y y0 y1).2.2.1 (by omega)] at ht
      exact (List.not_mem_nil ht).elim
  refine ⟨fun t t0 t1 => ?_, fun t t0 t1 h10 => ?_, fun y y0 y1 => ?_⟩
  · rw [show (0 + t).toNat = t.toNat by omega]
    rcases pPg_at hD t with ⟨y, hy, hm, e⟩ | ⟨hn, e⟩
    · rw [e]; exact (h1 y t hy.1 (by have := hlt y t hy.1 hy.2 hm; omega) hm).1
    · rw [e, h3 t t0 (by omega) (fun y y0 y1 ht => ?_) (by simp)]
      · exact hp.1 t t0 t1
      · by_cases y3 : y < 3
        · exact hn y y0 y3 ht
        · exact absurd y1 (by omega)
  · rw [show (0 + 37 + t).toNat = (37 + t).toNat by omega]
    rcases pPg_at hD t with ⟨y, hy, hm, e⟩ | ⟨hn, e⟩
    · rw [(h1 y t hy.1 (by have := hlt y t hy.1 hy.2 hm; omega) hm).2]
      exact hp.1 t t0 t1
    · rw [e] at h10
      have := hD.2.1 t t0 t1
      omega
  · obtain ⟨p1, p2⟩ := hp.2 y y0 y1
    have hlen := (hD.2.2.1 y y0 y1).1
    show _ = ((D.2.2.1 y).length : Int) ∧ ∀ i : Int, 0 ≤ i → i < ((D.2.2.1 y).length : Int) → _ = (D.2.2.1 y).getD i.toNat 0
    refine ⟨?_, fun i i0 i1 => ?_⟩
    · rw [show (0 + 10 + 9 * y).toNat = (10 + 9 * y).toNat by omega, h4 _ (by omega) (by omega)]; exact p1
    · rw [show (0 + 10 + 9 * y + 1 + i).toNat = (10 + 9 * y + 1 + i).toNat by omega, h4 _ (by omega) (by omega)]; exact p2 i i0 i1
section MTB
variable {l : Launch} {G : fp_WG} {M N O : fp_Mem} {tp : List Int} {D : pD}
theorem tk_26 {N1 : fp_Mem} {o1 o2 o3 : Option Value} {Q : fp_Q} (hd : mrD M D) (hD : dOk D)
    (hend : ∀ (N1 N2 N3 N : fp_Mem) (o1 o2 o3 : Option Value), (∀ a, a ≠ 178 → N1 a = M a) → (∀ j : Nat, N1 178 j = if j < 120 then M 182 j else M 178 j) → (∀ a, a ≠ 179 → a ≠ 180 → a ≠ 181 → N2 a = N1 a) → (∀ j : Nat, N2 180 j = if j < 40 then M 184 j else M 180 j) → (∀ j : Nat, N2 179 j = if j < 10 then M 183 j else M 179 j) → (∀ j : Nat, j < 3 → N2 181 j = M 185 j) → N3 = fp_up (fp_up (fp_up N2 177 4 D.1.1) 177 5 D.1.2.1) 177 6 D.1.2.2.1 → tkP D N3 N → fp_S l G 0 kX12_takes 190 [some (rV G 177), o1, o2, o3] [] N Q)
    (a1 : ∀ a, a ≠ 178 → N1 a = M a) (b1 : ∀ j : Nat, N1 178 j = if j < 120 then M 182 j else M 178 j) : fp_S l G 0 kX12_takes 26 [some (rV G 177), o1, o2, o3] [] N1 Q := by
  obtain ⟨⟨g1, g2, g3, -⟩, ⟨p1, p2⟩, -⟩ := hd
  have hK : ∀ (N2 : fp_Mem) (o1 : Option Value), (∀ a, a ≠ 179 → a ≠ 180 → a ≠ 181 → N2 a = N1 a) → (∀ j : Nat, N2 180 j = if j < 40 then N1 184 j else N1 180 j) → (∀ j : Nat, N2 179 j = if j < 10 then N1 183 j else N1 179 j) → (∀ j : Nat, j < 3 → N2 181 j = N1 185 j) → fp_S l G 0 kX12_takes 86 [some (rV G 177), o1, o2, o3] [] N2 Q := by
    intro N2 o1 a2 b8 b9 b81
    rw [a1 184 (by decide), a1 180 (by decide)] at b8
    rw [a1 183 (by decide), a1 179 (by decide)] at b9
    rw [a1 185 (by decide)] at b81
    have e177 : N2 177 = M 177 := by rw [a2 177 (by decide) (by decide) (by decide), a1 177 (by decide)]
    have e178 : ∀ j : Nat, j < 120 → N2 178 j = M 182 j := fun j hj => by rw [a2 178 (by decide) (by decide) (by decide), b1 j, if_pos hj]
    have x11 : N2 177 11 = D.1.1 := by rw [e177]; exact g1
    have x12 : ∀ z, fp_up N2 177 4 z 177 12 = D.1.2.1 := fun z => by show N2 177 12 = _; rw [e177]; exact g2
    have x13 : ∀ z y, fp_up (fp_up N2 177 4 z) 177 5 y 177 13 = D.1.2.2.1 := fun z y => by show N2 177 13 = _; rw [e177]; exact g3
    have hlen : ∀ x, 0 ≤ x → x < 3 → (D.2.2.1 x).length ≤ 8 := fun x x0 x1 => (hD.2.2.1 x x0 x1).1
    have hg2 := hD.1.2.1
    refine S.aload_n (pc' := 87) dX12_takes_86 rfl rfl rfl ?_
    refine S.aload_n (pc' := 88) dX12_takes_87 rfl rfl rfl ?_
    refine S.getI (pc' := 91) dX12_takes_88 rfl fX12_139 L_177 ?_
    rw [x11]
    refine S.putI (pc' := 94) dX12_takes_91 rfl fX12_181 L_177 ?_
    refine S.aload_n (pc' := 95) dX12_takes_94 rfl rfl rfl ?_
    refine S.aload_n (pc' := 96) dX12_takes_95 rfl rfl rfl ?_
    refine S.getI (pc' := 99) dX12_takes_96 rfl fX12_146 L_177 ?_
    rw [x12]
    refine S.putI (pc' := 102) dX12_takes_99 rfl fX12_184 L_177 ?_
    refine S.aload_n (pc' := 103) dX12_takes_102 rfl rfl rfl ?_
    refine S.aload_n (pc' := 104) dX12_takes_103 rfl rfl rfl ?_
    refine S.getI (pc' := 107) dX12_takes_104 rfl fX12_174 L_177 ?_
    rw [x13]
    refine S.putI (pc' := 110) dX12_takes_107 rfl fX12_22 L_177 ?_
    refine S.iconst (pc' := 111) dX12_takes_110 rfl ?_
    refine S.istore_n (pc' := 112) (LL' := [_, _, _, _]) dX12_takes_111 rfl (by decide) rfl rfl rfl ?_
    refine tk_out (M := fp_up (fp_up (fp_up N2 177 4 D.1.1) 177 5 D.1.2.1) 177 6 D.1.2.2.1) hD (fun x x0 x1 => ?_) rfl (fun N o1 o2 o3 q => hend N1 N2 _ N o1 o2 o3 a1 b1 a2 b8 b9 b81 rfl q) 5 0 _ _ _ (by omega) (by omega) (by omega) (fun _ _ => rfl) ⟨fun y t y0 y1 => absurd y1 (by omega), fun t ht => by simp at ht, fun t _ _ _ _ => rfl, fun j _ _ => rfl⟩ (fun _ _ => rfl)
    · have := hlen x x0 x1
      refine ⟨?_, fun i i0 i1 => ?_⟩
      · show N2 178 _ = _
        rw [e178 _ (by omega)]; exact (p2 x x0 x1).1
      · show N2 178 _ = _
        rw [e178 _ (by omega)]; exact (p2 x x0 x1).2 i i0 i1
  refine S.iconst (pc' := 27) dX12_takes_26 rfl ?_
  refine S.istore_n (pc' := 28) (LL' := [_, _, _, _]) dX12_takes_27 rfl (by decide) rfl rfl rfl ?_
  exact tk_c2 hK 41 0 N1 (by omega) (by omega) (by omega) (fun _ _ _ _ => rfl) (fun j => by rw [if_neg (by omega)]) (fun j => by rw [if_neg (by omega)]) (fun j j0 _ => by omega)
theorem rk_X12_takes (hd : mrD M D) (hD : dOk D) (hs : stOk D) (hi : mrI M) (hz9 : M 179 10 = 0) (hz8 : ∀ p : Int, 0 ≤ p → p < 4 → M 180 (40 + p).toNat = 0) : fp_Ok l G 0 kX12_takes [rV G 177] M (qV fun N => tkW D M N) := by
  refine fp_Ok.of (r := 3) rfl (Nat.le_of_ble_eq_true rfl) rfl ?_
  have hg := hD.1
  have hlen : ∀ x, 0 ≤ x → x < 3 → (D.2.2.1 x).length ≤ 8 := fun x x0 x1 => (hD.2.2.1 x x0 x1).1
  have hend : ∀ (N1 N2 N3 N : fp_Mem) (o1 o2 o3 : Option Value), (∀ a, a ≠ 178 → N1 a = M a) → (∀ j : Nat, N1 178 j = if j < 120 then M 182 j else M 178 j) → (∀ a, a ≠ 179 → a ≠ 180 → a ≠ 181 → N2 a = N1 a) → (∀ j : Nat, N2 180 j = if j < 40 then M 184 j else M 180 j) → (∀ j : Nat, N2 179 j = if j < 10 then M 183 j else M 179 j) → (∀ j : Nat, j < 3 → N2 181 j = M 185 j) → N3 = fp_up (fp_up (fp_up N2 177 4 D.1.1) 177 5 D.1.2.1) 177 6 D.1.2.2.1 → tkP D N3 N → fp_S l G 0 kX12_takes 190 [some (rV G 177), o1, o2, o3] [] N (qV fun N => tkW D M N) := by
    intro N1 N2 N3 N o1 o2 o3 a1 b1 a2 b8 b9 b81 e3 hP
    obtain ⟨f, x, x1, x2, hR, h120⟩ := hP
    have c1 : ∀ a, a ≠ 177 → a ≠ 178 → a ≠ 179 → a ≠ 180 → a ≠ 181 → N a = M a := fun a q1 q2 q3 q4 q5 => by rw [f a q2, e3, fp_up_ne q1, fp_up_ne q1, fp_up_ne q1, a2 a q3 q4 q5, a1 a q2]
    have c2 : ∀ j, j ≠ 4 → j ≠ 5 → j ≠ 6 → N 177 j = M 177 j := fun j j4 j5 j6 => by rw [f 177 (by decide), e3, fp_up_at, fp_upf_ne j6, fp_up_at, fp_upf_ne j5, fp_up_at, fp_upf_ne j4, a2 177 (by decide) (by decide) (by decide), a1 177 (by decide)]
    have g4 : N 177 4 = D.1.1 := by rw [f 177 (by decide), e3]; rfl
    have g5 : N 177 5 = D.1.2.1 := by rw [f 177 (by decide), e3]; rfl
    have g6 : N 177 6 = D.1.2.2.1 := by rw [f 177 (by decide), e3]; rfl
    have r178 : ∀ j : Nat, j < 120 → N3 178 j = M 182 j := fun j hj => by rw [e3, fp_up_ne (by decide), fp_up_ne (by decide), fp_up_ne (by decide), a2 178 (by decide) (by decide) (by decide), b1 j, if_pos hj]
    have r180 : ∀ j : Nat, N 180 j = if j < 40 then M 184 j else M 180 j := fun j => by rw [f 180 (by decide), e3, fp_up_ne (by decide), fp_up_ne (by decide), fp_up_ne (by decide), b8 j]
    have r179 : ∀ j : Nat, N 179 j = if j < 10 then M 183 j else M 179 j := fun j => by rw [f 179 (by decide), e3, fp_up_ne (by decide), fp_up_ne (by decide), fp_up_ne (by decide), b9 j]
    have r181 : ∀ j : Nat, j < 3 → N 181 j = M 185 j := fun j hj => by rw [f 181 (by decide), e3, fp_up_ne (by decide), fp_up_ne (by decide), fp_up_ne (by decide), b81 j hj]
    have hf0 : ∀ j : Nat, 47 ≤ j → j < 120 → N 178 j = M 182 j := fun j j0 j1 => by rw [hR.2.2.2 j (by omega) (by omega)]; exact r178 j j1
    have hmrP : mrP (N3 178) D.1 D.2.1 D.2.2.1 := by
      obtain ⟨p1, p2⟩ := hd.2.1
      refine ⟨fun t t0 t1 => ?_, fun y y0 y1 => ?_⟩
      · have := hg.1; rw [r178 _ (by omega)]; exact p1 t t0 t1
      · have := hlen y y0 y1
        refine ⟨by rw [r178 _ (by omega)]; exact (p2 y y0 y1).1, fun i i0 i1 => ?_⟩
        rw [r178 _ (by omega)]; exact (p2 y y0 y1).2 i i0 i1
    have hpg := sm_page hD hs hR ⟨x1, x2⟩ hmrP
    have hmd : mdIs N D.1 := by
      obtain ⟨k1, k2, k3, k4, k5, k6⟩ := hd.1
      obtain ⟨i1, i2, i3⟩ := hi
      have g1 := hg.1
      have g2 := hg.2.1
      refine ⟨g4, g5, g6, fun t t0 t1 => ?_, ?_, fun t p t0 t1 p0 p1 => ?_, fun p p0 p1 => ?_, fun y y0 y1 => ?_, ⟨by rw [g4]; exact hg.1, by rw [g5]; exact hg.2.1, by rw [g6]; exact hg.2.2.1, fun i i0 i4 => ?_, fun i i0 i4 => ?_, fun y y0 y1 => ?_⟩⟩
      · rw [r179, if_pos (by omega)]; exact k4 t t0 t1
      · rw [r179, if_neg (by omega)]; exact hz9
      · rw [r180, if_pos (by omega)]; exact k5 t p t0 t1 p0 p1
      · rw [r180, if_neg (by omega)]; exact hz8 p p0 p1
      · rw [r181 _ (by omega)]; exact k6 y y0 y1
      · rw [r179]
        by_cases e : i < 10
        · rw [if_pos (by omega)]; have := i1 i i0 e; omega
        · rw [if_neg (by omega), show i.toNat = 10 by omega, hz9]; omega
      · rw [r180]
        by_cases e : i < 40
        · rw [if_pos (by omega)]; exact i2 i i0 e
        · rw [if_neg (by omega)]
          have := hz8 (i - 40) (by omega) (by omega)
          rw [show (40 + (i - 40)).toNat = i.toNat by omega] at this
          rw [this]; omega
      · rw [r181 _ (by omega)]; exact i3 y y0 y1
    have hmv : mvRow (N 178) D.2.2.2.2.2 := by
      obtain ⟨q1, q2, q3⟩ := hd.2.2.1
      refine ⟨by rw [hf0 _ (by omega) (by omega)]; exact q1, q2, fun i i0 i1 => ?_⟩
      rw [hf0 _ (by omega) (by omega), hf0 _ (by omega) (by omega), hf0 _ (by omega) (by omega), hf0 _ (by omega) (by omega)]
      exact q3 i i0 i1
    have hmn : mnRow (N 178) [] := ⟨by rw [hf0 _ (by omega) (by omega)]; exact hd.2.2.2.2.2.1, by simp, fun i i0 i1 => absurd i1 (by simp; omega)⟩
    refine S.aload_n (pc' := 191) dX12_takes_190 rfl rfl rfl ?_
    refine S.getR (pc' := 194) dX12_takes_191 rfl fX12_78 L_177 rf_177_40 ?_
    refine S.iconst (pc' := 195) dX12_takes_194 rfl ?_
    refine S.iconst (pc' := 196) dX12_takes_195 rfl ?_
    refine S.zast (pc' := 197) dX12_takes_196 rfl L_199 (by omega) (by omega) (by first | exact Or.inl rfl | exact Or.inr rfl | omega) ?_
    refine S.aload_n (pc' := 198) dX12_takes_197 rfl rfl rfl ?_
    refine S.getR (pc' := 201) dX12_takes_198 rfl fX12_78 L_177 rf_177_40 ?_
    refine S.iconst (pc' := 202) dX12_takes_201 rfl ?_
    refine S.iconst (pc' := 203) dX12_takes_202 rfl ?_
    refine S.zast (pc' := 204) dX12_takes_203 rfl L_199 (by omega) (by omega) (by first | exact Or.inl rfl | exact Or.inr rfl | omega) ?_
    refine S.vret dX12_takes_204 rfl ?_
    refine ⟨⟨fun a q1 q2 q3 q4 q5 q6 => by rw [fp_up_ne q6, fp_up_ne q6]; exact c1 a q1 q2 q3 q4 q5, fun j j4 j5 j6 => by rw [fp_up_ne (by decide), fp_up_ne (by decide)]; exact c2 j j4 j5 j6⟩, hmd, hpg, hmv, hmn, rfl, rfl⟩
  refine S.iconst (pc' := 1) dX12_takes_0 rfl ?_
  refine S.istore_n (pc' := 2) (LL' := [_, _, _, _]) dX12_takes_1 rfl (by decide) rfl rfl rfl ?_
  refine tk_c1 (fun N1 o1 a1 b1 => ?_) 121 0 M (by omega) (by omega) (by omega) (fun _ _ => rfl) (fun j => by rw [if_neg (by omega)])
  exact tk_26 hd hD hend a1 b1
end MTB
