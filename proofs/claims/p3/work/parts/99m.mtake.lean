/-! A TEXT TAKEN: the reference -/
theorem fp_rem10 {i : Int} (h : 0 ≤ i ∧ i < 40) : Int32.ofInt i - Int32.ofInt i / Int32.ofInt 10 * Int32.ofInt 10 = Int32.ofInt (i % 10) := by
  obtain ⟨n, rfl⟩ := Int.eq_ofNat_of_zero_le h.1
  have q : ∀ n : Nat, n < 40 → Int32.ofInt (n : Int) - Int32.ofInt (n : Int) / Int32.ofInt 10 * Int32.ofInt 10 = Int32.ofInt ((n : Int) % 10) := by decide +kernel
  exact q n (by omega)
theorem fp_rem3 {i : Int} (h : 0 ≤ i ∧ i < 40) : Int32.ofInt i - Int32.ofInt i / Int32.ofInt 3 * Int32.ofInt 3 = Int32.ofInt (i % 3) := by
  obtain ⟨n, rfl⟩ := Int.eq_ofNat_of_zero_le h.1
  have q : ∀ n : Nat, n < 40 → Int32.ofInt (n : Int) - Int32.ofInt (n : Int) / Int32.ofInt 3 * Int32.ofInt 3 = Int32.ofInt ((n : Int) % 3) := by decide +kernel
  exact q n (by omega)
/-- the row of the state while what lies is put in its place -/
def smR (D : pD) (f0 f : Nat → Int) (x i : Int) : Prop := (∀ y t, 0 ≤ y → y < x → t ∈ D.2.2.1 y → f t.toNat = 10 + y ∧ f (37 + t).toNat = f0 t.toNat) ∧ (∀ t ∈ (D.2.2.1 x).take i.toNat, f t.toNat = 10 + x ∧ f (37 + t).toNat = f0 t.toNat) ∧ (∀ t : Int, 0 ≤ t → t < 10 → (∀ y, 0 ≤ y → y < x → t ∉ D.2.2.1 y) → t ∉ (D.2.2.1 x).take i.toNat → f t.toNat = f0 t.toNat) ∧ ∀ j : Nat, 10 ≤ j → (j < 37 ∨ 46 < j) → f j = f0 j
theorem smR_step {D : pD} {f0 f : Nat → Int} {x i : Int} (hD : dOk D) (h : smR D f0 f x i) (x0 : 0 ≤ x) (x1 : x < 3) (i0 : 0 ≤ i) (i1 : i < ((D.2.2.1 x).length : Int)) : smR D f0 (fp_upf (fp_upf f (37 + (D.2.2.1 x).getD i.toNat 0).toNat (f ((D.2.2.1 x).getD i.toNat 0).toNat)) ((D.2.2.1 x).getD i.toNat 0).toNat (10 + x)) x (i + 1) := by
  obtain ⟨h1, h2, h3, h4⟩ := h
  obtain ⟨k1, k2, k3, k4⟩ := hD.2.2.1 x x0 x1
  have hmem : (D.2.2.1 x).getD i.toNat 0 ∈ D.2.2.1 x := by
    rw [List.getD_eq_getElem?_getD, List.getElem?_eq_getElem (by omega)]; exact List.getElem_mem _
  have hnt := take_not k2 (show i.toNat < (D.2.2.1 x).length by omega)
  generalize hu : (D.2.2.1 x).getD i.toNat 0 = u at *
  have hu10 := (k4 u hmem).1
  have hdis : ∀ y, 0 ≤ y → y < x → u ∉ D.2.2.1 y := fun y y0 y1 q => hD.2.2.2.1 x y u x0 x1 y0 (by omega) (by omega) hmem q
  have hfu : f u.toNat = f0 u.toNat := h3 u hu10.1 hu10.2 hdis hnt
  have hoth : ∀ t : Int, 0 ≤ t → t < 10 → t ≠ u → fp_upf (fp_upf f (37 + u).toNat (f u.toNat)) u.toNat (10 + x) t.toNat = f t.toNat ∧ fp_upf (fp_upf f (37 + u).toNat (f u.toNat)) u.toNat (10 + x) (37 + t).toNat = f (37 + t).toNat := by
    intro t t0 t1 ne
    rw [fp_upf_ne (by omega), fp_upf_ne (by omega), fp_upf_ne (by omega), fp_upf_ne (by omega)]
    exact ⟨rfl, rfl⟩
  have hrng : ∀ y, 0 ≤ y → y < 3 → ∀ t ∈ D.2.2.1 y, 0 ≤ t ∧ t < 10 := fun y y0 y1 t ht => ((hD.2.2.1 y y0 y1).2.2.2 t ht).1
  have e1 : (i + 1).toNat = i.toNat + 1 := by omega
  refine ⟨fun y t y0 y1 ht => ?_, fun t ht => ?_, fun t t0 t1 hy hn => ?_, fun j j0 j1 => ?_⟩
  · have r := hrng y y0 (by omega) t ht
    have ne : t ≠ u := fun e => hdis y y0 y1 (e ▸ ht)
    rw [(hoth t r.1 r.2 ne).1, (hoth t r.1 r.2 ne).2]
    exact h1 y t y0 y1 ht
  · rw [e1, take_mem (by omega), hu] at ht
    by_cases e : t = u
    · subst e
      refine ⟨by simp [fp_upf], ?_⟩
      rw [fp_upf_ne (by omega)]
      simp [fp_upf, hfu]
    · have ht2 : t ∈ (D.2.2.1 x).take i.toNat := by
        rcases ht with q | q
        · exact q
        · exact absurd q e
      have r := hrng x x0 x1 t (List.mem_of_mem_take ht2)
      rw [(hoth t r.1 r.2 e).1, (hoth t r.1 r.2 e).2]
      exact h2 t ht2
  · rw [e1, take_mem (by omega), hu] at hn
    have ne : t ≠ u := fun e => hn (Or.inr e)
    rw [(hoth t t0 t1 ne).1]
    exact h3 t t0 t1 hy (fun q => hn (Or.inl q))
  · rw [fp_upf_ne (by omega), fp_upf_ne (by omega)]; exact h4 j j0 j1
theorem smR_next {D : pD} {f0 f : Nat → Int} {x i : Int} (h : smR D f0 f x i) (x0 : 0 ≤ x) (i1 : ((D.2.2.1 x).length : Int) ≤ i) : smR D f0 f (x + 1) 0 := by
  obtain ⟨h1, h2, h3, h4⟩ := h
  rw [List.take_of_length_le (by omega)] at h2 h3
  refine ⟨fun y t y0 y1 ht => ?_, fun t ht => ?_, fun t t0 t1 hy hn => ?_, h4⟩
  · by_cases e : y = x
    · subst e; exact h2 t ht
    · exact h1 y t y0 (by omega) ht
  · simp at ht
  · exact h3 t t0 t1 (fun y y0 y1 => hy y y0 (by omega)) (hy x x0 (by omega))
section MTA
variable {l : Launch} {G : fp_WG} {M N O : fp_Mem} {tp : List Int} {D : pD} {o2 o3 : Option Value}
def tkP (D : pD) (M N : fp_Mem) : Prop := (∀ a, a ≠ 178 → N a = M a) ∧ ∃ x, D.1.2.1 ≤ x ∧ x ≤ 3 ∧ smR D (M 178) (N 178) x 0 ∧ ∀ j, 120 ≤ j → N 178 j = M 178 j
theorem tk_in {Q : fp_Q} {x : Int} (hD : dOk D) (hl : ∀ i : Int, 0 ≤ i → i < ((D.2.2.1 x).length : Int) → M 178 (10 + 9 * x + 1 + i).toNat = (D.2.2.1 x).getD i.toNat 0) (hn : M 178 (10 + 9 * x).toNat = ((D.2.2.1 x).length : Int)) (x0 : 0 ≤ x) (x1 : x < 3) (K : ∀ (N : fp_Mem) (i : Int) (o3 : Option Value), (∀ a, a ≠ 178 → N a = M a) → smR D (M 178) (N 178) (x + 1) 0 → (∀ j, 120 ≤ j → N 178 j = M 178 j) → fp_S l G 0 kX12_takes 184 [some (rV G 177), some (iV x), some (iV i), o3] [] N Q) : ∀ (k : Nat) (i : Int) (N : fp_Mem) (o3 : Option Value), (((D.2.2.1 x).length : Int) - i).toNat < k → 0 ≤ i → i ≤ ((D.2.2.1 x).length : Int) → (∀ a, a ≠ 178 → N a = M a) → smR D (M 178) (N 178) x i → (∀ j, 120 ≤ j → N 178 j = M 178 j) →
    fp_S l G 0 kX12_takes 122 [some (rV G 177), some (iV x), some (iV (1 + i)), o3] [] N Q := by
  obtain ⟨k1, k2, k3, k4⟩ := hD.2.2.1 x x0 x1
  intro k
  induction k with
  | zero => intro i N o3 hk; omega
  | succ k ih =>
    intro i N o3 hk i0 i1 hf hR h120
    have e1 : N 178 (10 + 9 * x).toNat = ((D.2.2.1 x).length : Int) := by rw [hR.2.2.2 _ (by omega) (by omega)]; exact hn
    by_cases hi : i < ((D.2.2.1 x).length : Int)
    · have e2 : N 178 (10 + 9 * x + (1 + i)).toNat = (D.2.2.1 x).getD i.toNat 0 := by rw [hR.2.2.2 _ (by omega) (by omega), ← hl i i0 hi, show (10 + 9 * x + (1 + i)).toNat = (10 + 9 * x + 1 + i).toNat by omega]
      have hmem : (D.2.2.1 x).getD i.toNat 0 ∈ D.2.2.1 x := by
        rw [List.getD_eq_getElem?_getD, List.getElem?_eq_getElem (by omega)]; exact List.getElem_mem _
      have hst := smR_step hD hR x0 x1 i0 hi
      have hu10 := (k4 _ hmem).1
      generalize hu : (D.2.2.1 x).getD i.toNat 0 = u at *
      refine S.iload_n (pc' := 123) dX12_takes_122 rfl rfl rfl ?_
      refine S.aload_n (pc' := 124) dX12_takes_123 rfl rfl rfl ?_
      refine S.getR (pc' := 127) dX12_takes_124 rfl fX12_7 L_177 rf_177_0 ?_
      refine S.bipush (pc' := 129) dX12_takes_127 rfl (by decide) ?_
      refine S.bipush (pc' := 131) dX12_takes_129 rfl (by decide) ?_
      refine S.iload_n (pc' := 132) dX12_takes_131 rfl rfl rfl ?_
      refine S.imul (pc' := 133) dX12_takes_132 rfl ?_
      refine S.iadd (pc' := 134) dX12_takes_133 rfl ?_
      refine S.iald (pc' := 135) dX12_takes_134 rfl L_178 (by omega) (by omega) ?_
      rw [e1]
      refine S.icmp_gt (pc' := 138) (tgt := 184) dX12_takes_135 (by decide) rfl (by unfold fp_rng; omega) (by unfold fp_rng; omega) (fun h135 => ?_) (fun h135 => ?_)
      · exfalso; omega
      · refine S.aload_n (pc' := 139) dX12_takes_138 rfl rfl rfl ?_
        refine S.getR (pc' := 142) dX12_takes_139 rfl fX12_7 L_177 rf_177_0 ?_
        refine S.bipush (pc' := 144) dX12_takes_142 rfl (by decide) ?_
        refine S.bipush (pc' := 146) dX12_takes_144 rfl (by decide) ?_
        refine S.iload_n (pc' := 147) dX12_takes_146 rfl rfl rfl ?_
        refine S.imul (pc' := 148) dX12_takes_147 rfl ?_
        refine S.iadd (pc' := 149) dX12_takes_148 rfl ?_
        refine S.iload_n (pc' := 150) dX12_takes_149 rfl rfl rfl ?_
        refine S.iadd (pc' := 151) dX12_takes_150 rfl ?_
        refine S.iald (pc' := 152) dX12_takes_151 rfl L_178 (by omega) (by omega) ?_
        rw [e2]
        refine S.istore_n (pc' := 153) (LL' := [_, _, _, _]) dX12_takes_152 rfl (by decide) rfl rfl rfl ?_
        refine S.aload_n (pc' := 154) dX12_takes_153 rfl rfl rfl ?_
        refine S.getR (pc' := 157) dX12_takes_154 rfl fX12_7 L_177 rf_177_0 ?_
        refine S.bipush (pc' := 159) dX12_takes_157 rfl (by decide) ?_
        refine S.iload_n (pc' := 160) dX12_takes_159 rfl rfl rfl ?_
        refine S.iadd (pc' := 161) dX12_takes_160 rfl ?_
        refine S.aload_n (pc' := 162) dX12_takes_161 rfl rfl rfl ?_
        refine S.getR (pc' := 165) dX12_takes_162 rfl fX12_7 L_177 rf_177_0 ?_
        refine S.iload_n (pc' := 166) dX12_takes_165 rfl rfl rfl ?_
        refine S.iald (pc' := 167) dX12_takes_166 rfl L_178 (by omega) (by omega) ?_
        refine S.iast (pc' := 168) dX12_takes_167 rfl L_178 (by omega) (by omega) ?_
        refine S.aload_n (pc' := 169) dX12_takes_168 rfl rfl rfl ?_
        refine S.getR (pc' := 172) dX12_takes_169 rfl fX12_7 L_177 rf_177_0 ?_
        refine S.iload_n (pc' := 173) dX12_takes_172 rfl rfl rfl ?_
        refine S.bipush (pc' := 175) dX12_takes_173 rfl (by decide) ?_
        refine S.iload_n (pc' := 176) dX12_takes_175 rfl rfl rfl ?_
        refine S.iadd (pc' := 177) dX12_takes_176 rfl ?_
        refine S.iast (pc' := 178) dX12_takes_177 rfl L_178 (by omega) (by omega) ?_
        refine S.iinc (pc' := 181) (LL' := [_, _, _, _]) dX12_takes_178 rfl (by decide) rfl rfl rfl ?_
        refine S.goto (pc' := 122) dX12_takes_181 (by decide) ?_
        rw [show (1 + i + 1 : Int) = 1 + (i + 1) by omega]
        exact ih (i + 1) _ _ (by omega) (by omega) (by omega) (fun a ha => by rw [fp_up_ne ha, fp_up_ne ha]; exact hf a ha) hst (fun j hj => by rw [fp_up_at, fp_upf_ne (by omega), fp_up_at, fp_upf_ne (by omega)]; exact h120 j hj)
    · refine S.iload_n (pc' := 123) dX12_takes_122 rfl rfl rfl ?_
      refine S.aload_n (pc' := 124) dX12_takes_123 rfl rfl rfl ?_
      refine S.getR (pc' := 127) dX12_takes_124 rfl fX12_7 L_177 rf_177_0 ?_
      refine S.bipush (pc' := 129) dX12_takes_127 rfl (by decide) ?_
      refine S.bipush (pc' := 131) dX12_takes_129 rfl (by decide) ?_
      refine S.iload_n (pc' := 132) dX12_takes_131 rfl rfl rfl ?_
      refine S.imul (pc' := 133) dX12_takes_132 rfl ?_
      refine S.iadd (pc' := 134) dX12_takes_133 rfl ?_
      refine S.iald (pc' := 135) dX12_takes_134 rfl L_178 (by omega) (by omega) ?_
      rw [e1]
      refine S.icmp_gt (pc' := 138) (tgt := 184) dX12_takes_135 (by decide) rfl (by unfold fp_rng; omega) (by unfold fp_rng; omega) (fun h135 => ?_) (fun h135 => ?_)
      · exact K _ _ _ hf (smR_next hR x0 (by omega)) h120
      · exfalso; omega
theorem tk_out {Q : fp_Q} (hD : dOk D) (hl : ∀ x, 0 ≤ x → x < 3 → M 178 (10 + 9 * x).toNat = ((D.2.2.1 x).length : Int) ∧ ∀ i : Int, 0 ≤ i → i < ((D.2.2.1 x).length : Int) → M 178 (10 + 9 * x + 1 + i).toNat = (D.2.2.1 x).getD i.toNat 0) (h5 : M 177 5 = D.1.2.1) (K : ∀ (N : fp_Mem) (o1 o2 o3 : Option Value), tkP D M N → fp_S l G 0 kX12_takes 190 [some (rV G 177), o1, o2, o3] [] N Q) : ∀ (k : Nat) (x : Int) (N : fp_Mem) (o2 o3 : Option Value), (D.1.2.1 - x).toNat < k → 0 ≤ x → x ≤ D.1.2.1 → (∀ a, a ≠ 178 → N a = M a) → smR D (M 178) (N 178) x 0 → (∀ j, 120 ≤ j → N 178 j = M 178 j) →
    fp_S l G 0 kX12_takes 112 [some (rV G 177), some (iV x), o2, o3] [] N Q := by
  have hg := hD.1.2.1
  intro k
  induction k with
  | zero => intro x N o2 o3 hk; omega
  | succ k ih =>
    intro x N o2 o3 hk x0 x1 hf hR h120
    have e5 : N 177 5 = D.1.2.1 := by rw [hf 177 (by decide)]; exact h5
    by_cases hx : x < D.1.2.1
    · obtain ⟨l1, l2⟩ := hl x x0 (by omega)
      have K184 : ∀ (N : fp_Mem) (i : Int) (o3 : Option Value), (∀ a, a ≠ 178 → N a = M a) → smR D (M 178) (N 178) (x + 1) 0 → (∀ j, 120 ≤ j → N 178 j = M 178 j) → fp_S l G 0 kX12_takes 184 [some (rV G 177), some (iV x), some (iV i), o3] [] N Q := by
        intro N2 i o3 f2 r2 h2
        refine S.iinc (pc' := 187) (LL' := [_, _, _, _]) dX12_takes_184 rfl (by decide) rfl rfl rfl ?_
        refine S.goto (pc' := 112) dX12_takes_187 (by decide) ?_
        exact ih (x + 1) _ _ _ (by omega) (by omega) (by omega) f2 r2 h2
      refine S.iload_n (pc' := 113) dX12_takes_112 rfl rfl rfl ?_
      refine S.aload_n (pc' := 114) dX12_takes_113 rfl rfl rfl ?_
      refine S.getI (pc' := 117) dX12_takes_114 rfl fX12_184 L_177 ?_
      rw [e5]
      refine S.icmp_ge (pc' := 120) (tgt := 190) dX12_takes_117 (by decide) rfl (by unfold fp_rng; omega) (by unfold fp_rng; omega) (fun h117 => ?_) (fun h117 => ?_)
      · exfalso; omega
      · refine S.iconst (pc' := 121) dX12_takes_120 rfl ?_
        refine S.istore_n (pc' := 122) (LL' := [_, _, _, _]) dX12_takes_121 rfl (by decide) rfl rfl rfl ?_
        exact tk_in hD l2 l1 x0 (by omega) K184 100 0 N _ (by have := (hD.2.2.1 x x0 (by omega)).1; omega) (by omega) (by omega) hf hR h120
    · refine S.iload_n (pc' := 113) dX12_takes_112 rfl rfl rfl ?_
      refine S.aload_n (pc' := 114) dX12_takes_113 rfl rfl rfl ?_
      refine S.getI (pc' := 117) dX12_takes_114 rfl fX12_184 L_177 ?_
      rw [e5]
      refine S.icmp_ge (pc' := 120) (tgt := 190) dX12_takes_117 (by decide) rfl (by unfold fp_rng; omega) (by unfold fp_rng; omega) (fun h117 => ?_) (fun h117 => ?_)
      · exact K _ _ _ _ ⟨hf, x, by omega, by omega, hR, h120⟩
      · exfalso; omega
/-- the rows are copied -/
def tcP (M N : fp_Mem) : Prop := (∀ a, a ≠ 178 → a ≠ 179 → a ≠ 180 → a ≠ 181 → N a = M a) ∧ (∀ j : Nat, N 178 j = if j < 120 then M 182 j else M 178 j) ∧ (∀ j : Nat, N 180 j = if j < 40 then M 184 j else M 180 j) ∧ (∀ j : Nat, N 179 j = if j < 10 then M 183 j else M 179 j) ∧ ∀ j : Nat, j < 3 → N 181 j = M 185 j
theorem tk_c1 {Q : fp_Q} (K : ∀ (N : fp_Mem) (o1 : Option Value), (∀ a, a ≠ 178 → N a = M a) → (∀ j : Nat, N 178 j = if j < 120 then M 182 j else M 178 j) → fp_S l G 0 kX12_takes 26 [some (rV G 177), o1, o2, o3] [] N Q) : ∀ (k : Nat) (i : Int) (N : fp_Mem), (120 - i).toNat < k → 0 ≤ i → i ≤ 120 → (∀ a, a ≠ 178 → N a = M a) → (∀ j : Nat, N 178 j = if (j : Int) < i then M 182 j else M 178 j) →
    fp_S l G 0 kX12_takes 2 [some (rV G 177), some (iV i), o2, o3] [] N Q := by
  intro k
  induction k with
  | zero => intro i N hk; omega
  | succ k ih =>
    intro i N hk i0 i1 hf hR
    by_cases hi : i < 120
    · refine S.iload_n (pc' := 3) dX12_takes_2 rfl rfl rfl ?_
      refine S.bipush (pc' := 5) dX12_takes_3 rfl (by decide) ?_
      refine S.icmp_ge (pc' := 8) (tgt := 26) dX12_takes_5 (by decide) rfl (by unfold fp_rng; omega) (by unfold fp_rng; omega) (fun h5 => ?_) (fun h5 => ?_)
      · exfalso; omega
      · refine S.aload_n (pc' := 9) dX12_takes_8 rfl rfl rfl ?_
        refine S.getR (pc' := 12) dX12_takes_9 rfl fX12_7 L_177 rf_177_0 ?_
        refine S.iload_n (pc' := 13) dX12_takes_12 rfl rfl rfl ?_
        refine S.aload_n (pc' := 14) dX12_takes_13 rfl rfl rfl ?_
        refine S.getR (pc' := 17) dX12_takes_14 rfl fX12_26 L_177 rf_177_7 ?_
        refine S.iload_n (pc' := 18) dX12_takes_17 rfl rfl rfl ?_
        refine S.iald (pc' := 19) dX12_takes_18 rfl L_182 (by omega) (by omega) ?_
        refine S.iast (pc' := 20) dX12_takes_19 rfl L_178 (by omega) (by omega) ?_
        refine S.iinc (pc' := 23) (LL' := [_, _, _, _]) dX12_takes_20 rfl (by decide) rfl rfl rfl ?_
        refine S.goto (pc' := 2) dX12_takes_23 (by decide) ?_
        refine ih (i + 1) _ (by omega) (by omega) (by omega) (fun a ha => by rw [fp_up_ne ha]; exact hf a ha) (fun j => ?_)
        rw [fp_up_at, hf 182 (by decide)]
        by_cases e : j = i.toNat
        · subst e; rw [if_pos (by omega)]; simp [fp_upf]
        · rw [fp_upf_ne e, hR j]
          by_cases e2 : (j : Int) < i
          · rw [if_pos e2, if_pos (by omega)]
          · rw [if_neg e2, if_neg (by omega)]
    · refine S.iload_n (pc' := 3) dX12_takes_2 rfl rfl rfl ?_
      refine S.bipush (pc' := 5) dX12_takes_3 rfl (by decide) ?_
      refine S.icmp_ge (pc' := 8) (tgt := 26) dX12_takes_5 (by decide) rfl (by unfold fp_rng; omega) (by unfold fp_rng; omega) (fun h5 => ?_) (fun h5 => ?_)
      · refine K _ _ hf (fun j => ?_)
        rw [hR j]
        by_cases e2 : j < 120
        · rw [if_pos e2, if_pos (by omega)]
        · rw [if_neg e2, if_neg (by omega)]
      · exfalso; omega
theorem tk_c2 {Q : fp_Q} (K : ∀ (N : fp_Mem) (o1 : Option Value), (∀ a, a ≠ 179 → a ≠ 180 → a ≠ 181 → N a = M a) → (∀ j : Nat, N 180 j = if j < 40 then M 184 j else M 180 j) → (∀ j : Nat, N 179 j = if j < 10 then M 183 j else M 179 j) → (∀ j : Nat, j < 3 → N 181 j = M 185 j) → fp_S l G 0 kX12_takes 86 [some (rV G 177), o1, o2, o3] [] N Q) : ∀ (k : Nat) (i : Int) (N : fp_Mem), (40 - i).toNat < k → 0 ≤ i → i ≤ 40 → (∀ a, a ≠ 179 → a ≠ 180 → a ≠ 181 → N a = M a) → (∀ j : Nat, N 180 j = if (j : Int) < i then M 184 j else M 180 j) → (∀ j : Nat, N 179 j = if (j : Int) < i ∧ j < 10 then M 183 j else M 179 j) → (∀ j : Nat, (j : Int) < i → j < 3 → N 181 j = M 185 j) →
    fp_S l G 0 kX12_takes 28 [some (rV G 177), some (iV i), o2, o3] [] N Q := by
  intro k
  induction k with
  | zero => intro i N hk; omega
  | succ k ih =>
    intro i N hk i0 i1 hf h8 h9 h81
    by_cases hi : i < 40
    · have m10 : 0 ≤ i % 10 ∧ i % 10 < 10 ∧ i % 10 ≤ i := by omega
      have m3 : 0 ≤ i % 3 ∧ i % 3 < 3 ∧ i % 3 ≤ i := by omega
      have m10' : i < 10 → i % 10 = i := by omega
      have m3' : i < 3 → i % 3 = i := by omega
      refine S.iload_n (pc' := 29) dX12_takes_28 rfl rfl rfl ?_
      refine S.bipush (pc' := 31) dX12_takes_29 rfl (by decide) ?_
      refine S.icmp_ge (pc' := 34) (tgt := 86) dX12_takes_31 (by decide) rfl (by unfold fp_rng; omega) (by unfold fp_rng; omega) (fun h31 => ?_) (fun h31 => ?_)
      · exfalso; omega
      · refine S.aload_n (pc' := 35) dX12_takes_34 rfl rfl rfl ?_
        refine S.getR (pc' := 38) dX12_takes_35 rfl fX12_16 L_177 rf_177_2 ?_
        refine S.iload_n (pc' := 39) dX12_takes_38 rfl rfl rfl ?_
        refine S.aload_n (pc' := 40) dX12_takes_39 rfl rfl rfl ?_
        refine S.getR (pc' := 43) dX12_takes_40 rfl fX12_32 L_177 rf_177_9 ?_
        refine S.iload_n (pc' := 44) dX12_takes_43 rfl rfl rfl ?_
        refine S.iald (pc' := 45) dX12_takes_44 rfl L_184 (by omega) (by omega) ?_
        refine S.iast (pc' := 46) dX12_takes_45 rfl L_180 (by omega) (by omega) ?_
        refine S.aload_n (pc' := 47) dX12_takes_46 rfl rfl rfl ?_
        refine S.getR (pc' := 50) dX12_takes_47 rfl fX12_13 L_177 rf_177_1 ?_
        refine S.iload_n (pc' := 51) dX12_takes_50 rfl rfl rfl ?_
        refine S.bipush (pc' := 53) dX12_takes_51 rfl (by decide) ?_
        refine S.irem (pc' := 54) dX12_takes_53 rfl (by decide) (fp_rem10 (by omega)) ?_
        refine S.aload_n (pc' := 55) dX12_takes_54 rfl rfl rfl ?_
        refine S.getR (pc' := 58) dX12_takes_55 rfl fX12_29 L_177 rf_177_8 ?_
        refine S.iload_n (pc' := 59) dX12_takes_58 rfl rfl rfl ?_
        refine S.bipush (pc' := 61) dX12_takes_59 rfl (by decide) ?_
        refine S.irem (pc' := 62) dX12_takes_61 rfl (by decide) (fp_rem10 (by omega)) ?_
        refine S.iald (pc' := 63) dX12_takes_62 rfl L_183 (by omega) (by omega) ?_
        refine S.iast (pc' := 64) dX12_takes_63 rfl L_179 (by omega) (by omega) ?_
        refine S.aload_n (pc' := 65) dX12_takes_64 rfl rfl rfl ?_
        refine S.getR (pc' := 68) dX12_takes_65 rfl fX12_19 L_177 rf_177_3 ?_
        refine S.iload_n (pc' := 69) dX12_takes_68 rfl rfl rfl ?_
        refine S.iconst (pc' := 70) dX12_takes_69 rfl ?_
        refine S.irem (pc' := 71) dX12_takes_70 rfl (by decide) (fp_rem3 (by omega)) ?_
        refine S.aload_n (pc' := 72) dX12_takes_71 rfl rfl rfl ?_
        refine S.getR (pc' := 75) dX12_takes_72 rfl fX12_35 L_177 rf_177_10 ?_
        refine S.iload_n (pc' := 76) dX12_takes_75 rfl rfl rfl ?_
        refine S.iconst (pc' := 77) dX12_takes_76 rfl ?_
        refine S.irem (pc' := 78) dX12_takes_77 rfl (by decide) (fp_rem3 (by omega)) ?_
        refine S.iald (pc' := 79) dX12_takes_78 rfl L_185 (by omega) (by omega) ?_
        refine S.iast (pc' := 80) dX12_takes_79 rfl L_181 (by omega) (by omega) ?_
        refine S.iinc (pc' := 83) (LL' := [_, _, _, _]) dX12_takes_80 rfl (by decide) rfl rfl rfl ?_
        refine S.goto (pc' := 28) dX12_takes_83 (by decide) ?_
        refine ih (i + 1) _ (by omega) (by omega) (by omega) (fun a a1 a2 a3 => by rw [fp_up_ne a3, fp_up_ne a1, fp_up_ne a2]; exact hf a a1 a2 a3) (fun j => ?_) (fun j => ?_) (fun j j1 j3 => ?_)
        · rw [fp_up_ne (by decide), fp_up_ne (by decide), fp_up_at, hf 184 (by decide) (by decide) (by decide)]
          by_cases e : j = i.toNat
          · subst e; rw [if_pos (by omega)]; simp [fp_upf]
          · rw [fp_upf_ne e, h8 j]
            by_cases e2 : (j : Int) < i
            · rw [if_pos e2, if_pos (by omega)]
            · rw [if_neg e2, if_neg (by omega)]
        · rw [fp_up_ne (by decide), fp_up_at, fp_up_ne (by decide), fp_up_ne (by decide), hf 183 (by decide) (by decide) (by decide)]
          by_cases e : j = (i % 10).toNat
          · subst e; rw [if_pos (by omega)]; simp [fp_upf]
          · rw [fp_upf_ne e, h9 j]
            by_cases e2 : (j : Int) < i ∧ j < 10
            · rw [if_pos e2, if_pos (by omega)]
            · rw [if_neg e2, if_neg (by omega)]
        · rw [fp_up_at, fp_up_ne (by decide), fp_up_ne (by decide), fp_up_ne (by decide), fp_up_ne (by decide), hf 185 (by decide) (by decide) (by decide)]
          by_cases e : j = (i % 3).toNat
          · subst e; simp [fp_upf]
          · rw [fp_upf_ne e]; exact h81 j (by omega) j3
    · refine S.iload_n (pc' := 29) dX12_takes_28 rfl rfl rfl ?_
      refine S.bipush (pc' := 31) dX12_takes_29 rfl (by decide) ?_
      refine S.icmp_ge (pc' := 34) (tgt := 86) dX12_takes_31 (by decide) rfl (by unfold fp_rng; omega) (by unfold fp_rng; omega) (fun h31 => ?_) (fun h31 => ?_)
      · refine K _ _ hf (fun j => ?_) (fun j => ?_) (fun j j3 => h81 j (by omega) j3)
        · rw [h8 j]
          by_cases e2 : j < 40
          · rw [if_pos e2, if_pos (by omega)]
          · rw [if_neg e2, if_neg (by omega)]
        · rw [h9 j]
          by_cases e2 : j < 10
          · rw [if_pos e2, if_pos (by omega)]
          · rw [if_neg e2, if_neg (by omega)]
      · exfalso; omega
end MTA
