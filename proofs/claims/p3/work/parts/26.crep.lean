/-! HOW THE CLASS HOLDS THEM: goods at cell k, a page at cell k -/
def gdIs (M : fp_Mem) (k : Nat) (g : aGd) : Prop := M k 0 = g.1 ∧ M k 1 = g.2.1 ∧ M k 2 = g.2.2.1 ∧ (∀ t, 0 ≤ t → t < g.1 → M (k + 1) t.toNat = g.2.2.2.1 t) ∧ M (k + 1) 10 = 0 ∧ (∀ t p, 0 ≤ t → t < g.1 → 0 ≤ p → p < 4 → M (k + 2) (t * 4 + p).toNat = g.2.2.2.2.1 t p) ∧ (∀ p : Int, 0 ≤ p → p < 4 → M (k + 2) (40 + p).toNat = 0) ∧ (∀ x, 0 ≤ x → x < g.2.1 → M (k + 3) x.toNat = g.2.2.2.2.2 x) ∧ gd_ok M k
def clIs (M : fp_Mem) (k : Nat) (g : aGd) (pg : aPg) : Prop := (∀ t, 0 ≤ t → t < g.1 → M (k + 1) t.toNat = pg.1 t) ∧ (∀ t, g.1 ≤ t → t < 10 → M (k + 1) t.toNat = -4) ∧ (∀ t, 0 ≤ t → t < g.1 → M (k + 2) t.toNat = if pg.1 t < 10 then -4 else pg.2.1 t) ∧
  (∀ x, 0 ≤ x → x < 3 → M (k + 3) x.toNat = (pg.2.2 x).length ∧ ∀ i : Int, 0 ≤ i → i < (pg.2.2 x).length → M (k + 4) (x * 8 + i).toNat = (pg.2.2 x).getD i.toNat 0) ∧ pl_ok M k
/-- the rows of a page alone differ -/
def frP (M N : fp_Mem) (k : Nat) : Prop := ∀ a, (a < k + 1 ∨ k + 4 < a) → N a = M a
theorem gdIs.kept {M N : fp_Mem} {k : Nat} {g : aGd} (h : gdIs M k g) (e : ∀ a, k ≤ a → a ≤ k + 3 → N a = M a) : gdIs N k g := by
  unfold gdIs gd_ok at *
  rw [e k (by omega) (by omega), e (k + 1) (by omega) (by omega), e (k + 2) (by omega) (by omega), e (k + 3) (by omega) (by omega)]
  exact h
theorem clIs.kept {M N : fp_Mem} {k : Nat} {g : aGd} {pg : aPg} (h : clIs M k g pg) (e : ∀ a, k + 1 ≤ a → a ≤ k + 4 → N a = M a) : clIs N k g pg := by
  unfold clIs pl_ok at *
  rw [e (k + 1) (by omega) (by omega), e (k + 2) (by omega) (by omega), e (k + 3) (by omega) (by omega), e (k + 4) (by omega) (by omega)]
  exact h
theorem pl_gd {k kg : Nat} (hk : fp_ispl k) (hg : fp_isgd kg) : kg + 3 < k + 1 ∨ k + 4 < kg := by
  have h : ∀ k ∈ fp_plL, ∀ kg ∈ fp_gdL, kg + 3 < k + 1 ∨ k + 4 < kg := by decide +kernel
  exact h k hk kg hg
theorem pl_vs {k kv : Nat} (hk : fp_ispl k) (hv : fp_isvs kv) : kv + 4 < k + 1 ∨ k + 4 < kv := by
  have h : ∀ k ∈ fp_plL, ∀ kv ∈ fp_vsL, kv + 4 < k + 1 ∨ k + 4 < kv := by decide +kernel
  exact h k hk kv hv
theorem pl_pl {k k2 : Nat} (hk : fp_ispl k) (hk2 : fp_ispl k2) (hne : k ≠ k2) : k2 + 4 < k + 1 ∨ k + 4 < k2 + 1 := by
  have h : ∀ k ∈ fp_plL, ∀ k2 ∈ fp_plL, k ≠ k2 → k2 + 4 < k + 1 ∨ k + 4 < k2 + 1 := by decide +kernel
  exact h k hk k2 hk2 hne
section CRP
variable {M : fp_Mem} {k kg : Nat} {g : aGd} {pg : aPg}
/-- a page's line, read -/
theorem clIs.line (h : clIs M k g pg) (hP : pgOk g pg) {x : Int} (hx : 0 ≤ x ∧ x < g.2.1) (hg : gOk g) : M (k + 3) x.toNat = (pg.2.2 x).length ∧ (∀ i : Int, 0 ≤ i → i < (pg.2.2 x).length → M (k + 4) (x * 8 + i).toNat = (pg.2.2 x).getD i.toNat 0 ∧ 0 ≤ (pg.2.2 x).getD i.toNat 0 ∧ (pg.2.2 x).getD i.toNat 0 < g.1) ∧ (pg.2.2 x).length ≤ 8 := by
  have hx3 : x < 3 := by have := hg.2.1.2; omega
  obtain ⟨h1, h2⟩ := h.2.2.2.1 x hx.1 hx3
  obtain ⟨l1, l2, l3, l4⟩ := hP.2.1 x hx.1 hx3
  refine ⟨h1, fun i h0 hl => ⟨h2 i h0 hl, ?_⟩, l1⟩
  have := l4 _ (fp_getD_mem (L := pg.2.2 x) (i := i.toNat) (by omega))
  exact ⟨this.1, this.2.1⟩
theorem cl_sel (h : clIs M k g pg) (hd : gdIs M kg g) (hP : pgOk g pg) (hg : gOk g) {x : Int} (hx : 0 ≤ x ∧ x < g.2.1) (hne : pg.2.2 x ≠ []) : pl_sel M kg k x = aSel g (pg.2.2 x) (g.2.2.2.2.2 x) := by
  obtain ⟨h1, h2, h3⟩ := h.line hP hx hg
  have hlen : 0 < (pg.2.2 x).length := List.length_pos_iff.mpr hne
  unfold pl_sel aSel
  rw [h1, hd.2.2.2.2.2.2.2.1 x hx.1 hx.2]
  refine fp_giv_congr (by omega) (fun i h0 hl => ?_)
  obtain ⟨e1, e2, e3⟩ := h2 i h0 hl
  rw [e1]
  exact hd.2.2.2.1 _ e2 e3
theorem cl_gives (h : clIs M k g pg) (hd : gdIs M kg g) (hP : pgOk g pg) (hg : gOk g) {x : Int} (hx : 0 ≤ x ∧ x < g.2.1) : pl_gives M kg k x = aGv g pg x := by
  obtain ⟨h1, h2, h3⟩ := h.line hP hx hg
  unfold pl_gives aGv
  rw [h1]
  by_cases hne : pg.2.2 x = []
  · rw [if_pos (by rw [hne]; rfl), if_pos hne]
  · have hlen : 0 < (pg.2.2 x).length := List.length_pos_iff.mpr hne
    rw [if_neg (by omega), if_neg hne, cl_sel h hd hP hg hx hne]
    have hs := aSel_in (g := g) (kind := g.2.2.2.2.2 x) hne
    exact (h2 _ hs.1 hs.2).1
theorem cl_draw (h : clIs M k g pg) (hd : gdIs M kg g) (hP : pgOk g pg) (hg : gOk g) {p x : Int} (hp : 0 ≤ p ∧ p < 4) (hx : 0 ≤ x ∧ x < g.2.1) : clIs (if M (k + 3) x.toNat = 0 then M else pl_give M kg k p x) k g (aDraw g pg p x) := by
  have hx3 : x < 3 := by have := hg.2.1.2; omega
  obtain ⟨h1, h2, h3⟩ := h.line hP hx hg
  unfold aDraw
  by_cases hne : pg.2.2 x = []
  · rw [if_pos (by rw [h1, hne]; rfl), if_pos hne]; exact h
  have hlen : 0 < (pg.2.2 x).length := List.length_pos_iff.mpr hne
  rw [if_neg (by omega), if_neg hne]
  have es := cl_sel h hd hP hg hx hne
  have eg := cl_gives h hd hP hg hx
  have hs := aSel_in (g := g) (kind := g.2.2.2.2.2 x) hne
  have hm := aGv_mem (g := g) hne
  have ht := (hP.2.1 x hx.1 hx3).2.2.2 _ hm
  have hgn := hg.1
  unfold pl_give
  rw [es, eg, h1]
  obtain ⟨c1, c2, c3, c4, o1, o2, o3⟩ := h
  refine ⟨fun t t0 t1 => ?_, fun t t0 t1 => ?_, fun t t0 t1 => ?_, fun y y0 y3 => ?_, ?_⟩
  · rw [fp_spl1]
    show fp_upf _ _ _ _ = fp_ui _ _ _ _
    unfold fp_upf fp_ui
    by_cases e : t = aGv g pg x
    · rw [if_pos (by rw [e]), if_pos e]
    · rw [if_neg (by omega), if_neg e]; exact c1 t t0 t1
  · rw [fp_spl1, fp_upf_ne (by omega)]; exact c2 t t0 t1
  · rw [fp_spl2]
    show _ = if fp_ui pg.1 (aGv g pg x) p t < 10 then -4 else pg.2.1 t
    unfold fp_upf fp_ui
    by_cases e : t = aGv g pg x
    · rw [if_pos (by rw [e]), if_pos e, if_pos (by omega)]
    · rw [if_neg (by omega), if_neg e]; exact c3 t t0 t1
  · rw [fp_spl3, fp_spl4]
    show _ = (List.length (fp_ui pg.2.2 x _ y) : Int) ∧ ∀ i : Int, 0 ≤ i → i < (List.length (fp_ui pg.2.2 x _ y) : Int) → _ = List.getD (fp_ui pg.2.2 x _ y) i.toNat 0
    have hl8 := (hP.2.1 y y0 y3).1
    by_cases e : y = x
    · subst e
      rw [fp_ui_at, fp_upf_at, List.length_eraseIdx_of_lt (by omega)]
      refine ⟨by omega, fun i i0 i1 => ?_⟩
      try dsimp only
      rw [fp_eraD]
      by_cases hi : i < aSel g (pg.2.2 y) (g.2.2.2.2.2 y)
      · rw [if_neg (by omega), if_pos (by omega)]
        exact (h2 i i0 (by omega)).1
      · rw [if_pos (by omega), if_neg (by omega)]
        have := (h2 (i + 1) (by omega) (by omega)).1
        rw [show (y * 8 + (i + 1)).toNat = (y * 8 + i).toNat + 1 by omega, show (i + 1).toNat = i.toNat + 1 by omega] at this
        exact this
    · rw [fp_ui_ne e, fp_upf_ne (by omega)]
      obtain ⟨q1, q2⟩ := c4 y y0 y3
      refine ⟨q1, fun i i0 i1 => ?_⟩
      try dsimp only
      rw [if_neg (by omega)]
      exact q2 i i0 i1
  · refine ⟨fun t t0 t1 => ?_, fun y y0 y1 => ?_, fun i i0 i1 => ?_⟩
    · rw [fp_spl1]; unfold fp_upf; split
      · omega
      · exact o1 t t0 t1
    · rw [fp_spl3]; unfold fp_upf; split
      · omega
      · exact o2 y y0 y1
    · rw [fp_spl4]; split
      · have := o3 (i + 1) (by omega) (by omega)
        rw [show (i + 1).toNat = i.toNat + 1 by omega] at this
        exact this
      · exact o3 i i0 i1
theorem cl_ins (h : clIs M k g pg) (hP : pgOk g pg) (hg : gOk g) {t x : Int} {s : Nat} (ht : 0 ≤ t ∧ t < g.1) (hh : 0 ≤ pg.1 t ∧ pg.1 t ≤ 3) (hx : 0 ≤ x ∧ x < g.2.1) (hl : (pg.2.2 x).length < 8) (hs : s ≤ (pg.2.2 x).length) : clIs (pl_ins M k t x s) k g (aIns pg t x s) := by
  have hx3 : x < 3 := by have := hg.2.1.2; omega
  obtain ⟨h1, h2, h3⟩ := h.line hP hx hg
  have hgn := hg.1
  unfold pl_ins
  rw [h1]
  obtain ⟨c1, c2, c3, c4, o1, o2, o3⟩ := h
  refine ⟨fun u t0 t1 => ?_, fun u t0 t1 => ?_, fun u t0 t1 => ?_, fun y y0 y3 => ?_, ?_⟩
  · rw [fp_spl1]
    show fp_upf _ _ _ _ = fp_ui _ _ _ _
    unfold fp_upf fp_ui
    by_cases e : u = t
    · rw [if_pos (by rw [e]), if_pos e]
    · rw [if_neg (by omega), if_neg e]; exact c1 u t0 t1
  · rw [fp_spl1, fp_upf_ne (by omega)]; exact c2 u t0 t1
  · rw [fp_spl2]
    show _ = if fp_ui pg.1 t (10 + x) u < 10 then -4 else fp_ui pg.2.1 t (pg.1 t) u
    unfold fp_upf fp_ui
    by_cases e : u = t
    · rw [if_pos (by rw [e]), if_pos e, if_neg (by omega), if_pos e]; exact c1 t ht.1 ht.2
    · rw [if_neg (by omega), if_neg e, if_neg e]; exact c3 u t0 t1
  · rw [fp_spl3, fp_spl4]
    show _ = (List.length (fp_ui pg.2.2 x _ y) : Int) ∧ ∀ i : Int, 0 ≤ i → i < (List.length (fp_ui pg.2.2 x _ y) : Int) → _ = List.getD (fp_ui pg.2.2 x _ y) i.toNat 0
    have hl8 := (hP.2.1 y y0 y3).1
    by_cases e : y = x
    · subst e
      rw [fp_ui_at, fp_upf_at, List.length_insertIdx_of_le_length hs]
      refine ⟨by omega, fun i i0 i1 => ?_⟩
      try dsimp only
      rw [fp_insD _ _ _ _ hs]
      by_cases hi : i < s
      · rw [if_neg (by omega), if_neg (by omega), if_pos (by omega)]
        exact (h2 i i0 (by omega)).1
      · by_cases hi2 : i = s
        · rw [if_pos (by omega), if_neg (by omega), if_pos (by omega)]
        · rw [if_neg (by omega), if_pos (by omega), if_neg (by omega), if_neg (by omega)]
          have := (h2 (i - 1) (by omega) (by omega)).1
          rw [show (y * 8 + (i - 1)).toNat = (y * 8 + i).toNat - 1 by omega, show (i - 1).toNat = i.toNat - 1 by omega] at this
          exact this
    · rw [fp_ui_ne e, fp_upf_ne (by omega)]
      obtain ⟨q1, q2⟩ := c4 y y0 y3
      refine ⟨q1, fun i i0 i1 => ?_⟩
      try dsimp only
      rw [if_neg (by omega), if_neg (by omega)]
      exact q2 i i0 i1
  · refine ⟨fun u t0 t1 => ?_, fun y y0 y1 => ?_, fun i i0 i1 => ?_⟩
    · rw [fp_spl1]; unfold fp_upf; split
      · omega
      · exact o1 u t0 t1
    · rw [fp_spl3]; unfold fp_upf; split
      · omega
      · exact o2 y y0 y1
    · rw [fp_spl4]; split
      · omega
      · split
        · have := o3 (i - 1) (by omega) (by omega)
          rw [show (i - 1).toNat = i.toNat - 1 by omega] at this
          exact this
        · exact o3 i i0 i1
end CRP
