/-! HOW THE REFERENCE HOLDS THEM: goods; a page at offset a of the state's row -/
def mdIs (M : fp_Mem) (g : aGd) : Prop := M 177 4 = g.1 ∧ M 177 5 = g.2.1 ∧ M 177 6 = g.2.2.1 ∧ (∀ t, 0 ≤ t → t < g.1 → M 179 t.toNat = g.2.2.2.1 t) ∧ M 179 10 = 0 ∧ (∀ t p, 0 ≤ t → t < g.1 → 0 ≤ p → p < 4 → M 180 (4 * t + p).toNat = g.2.2.2.2.1 t p) ∧ (∀ p : Int, 0 ≤ p → p < 4 → M 180 (40 + p).toNat = 0) ∧ (∀ x, 0 ≤ x → x < g.2.1 → M 181 x.toNat = g.2.2.2.2.2 x) ∧ md_ok M
def mpRow (f : Nat → Int) (a : Int) (g : aGd) (pg : aPg) : Prop := (∀ t, 0 ≤ t → t < g.1 → f (a + t).toNat = pg.1 t) ∧ (∀ t, 0 ≤ t → t < g.1 → 10 ≤ pg.1 t → f (a + 37 + t).toNat = pg.2.1 t) ∧
  ∀ x, 0 ≤ x → x < 3 → f (a + 10 + 9 * x).toNat = (pg.2.2 x).length ∧ ∀ i : Int, 0 ≤ i → i < (pg.2.2 x).length → f (a + 10 + 9 * x + 1 + i).toNat = (pg.2.2 x).getD i.toNat 0
def mpIs (M : fp_Mem) (a : Int) (g : aGd) (pg : aPg) : Prop := mpRow (M 178) a g pg
/-- one page of the state alone differs -/
def frM (M N : fp_Mem) (a : Int) : Prop := (∀ c, c ≠ 178 → N c = M c) ∧ ∀ j : Nat, ((j : Int) < a ∨ a + 47 ≤ j) → N 178 j = M 178 j
theorem frM.refl (M : fp_Mem) (a : Int) : frM M M a := ⟨fun _ _ => rfl, fun _ _ => rfl⟩
theorem frM.trans {M N O : fp_Mem} {a : Int} (h1 : frM M N a) (h2 : frM N O a) : frM M O a := ⟨fun c hc => (h2.1 c hc).trans (h1.1 c hc), fun j hj => (h2.2 j hj).trans (h1.2 j hj)⟩
theorem mdIs.kept {M N : fp_Mem} {g : aGd} (h : mdIs M g) (e : ∀ c, c ≠ 178 → N c = M c) : mdIs N g := by
  unfold mdIs md_ok at *
  rw [e 177 (by decide), e 179 (by decide), e 180 (by decide), e 181 (by decide)]
  exact h
theorem mpIs.kept {M N : fp_Mem} {a : Int} {g : aGd} {pg : aPg} (h : mpIs M a g pg) (hg : gOk g) (hP : pgOk g pg) (ha : 0 ≤ a) (e : ∀ j : Nat, a ≤ j → (j : Int) < a + 47 → N 178 j = M 178 j) : mpIs N a g pg := by
  have hg1 := hg.1
  obtain ⟨h1, h2, h3⟩ := h
  refine ⟨fun t t0 t1 => ?_, fun t t0 t1 t2 => ?_, fun x x0 x1 => ?_⟩
  · rw [e _ (by omega) (by omega)]; exact h1 t t0 t1
  · rw [e _ (by omega) (by omega)]; exact h2 t t0 t1 t2
  · obtain ⟨q1, q2⟩ := h3 x x0 x1
    have hl := (hP.2.1 x x0 x1).1
    rw [e _ (by omega) (by omega)]
    refine ⟨q1, fun i i0 i1 => ?_⟩
    rw [e _ (by omega) (by omega)]; exact q2 i i0 i1
section MRP
variable {f : Nat → Int} {a : Int} {g : aGd} {pg : aPg}
theorem mp_draw (h : mpRow f a g pg) (hP : pgOk g pg) (hg : gOk g) (ha : 0 ≤ a) {p x : Int} (hp : 0 ≤ p ∧ p < 4) (hx : 0 ≤ x ∧ x < g.2.1) (hne : pg.2.2 x ≠ []) : mpRow (fp_upf (md_take f (a + 10 + 9 * x) (aSel g (pg.2.2 x) (g.2.2.2.2.2 x))) (a + aGv g pg x).toNat p) a g (aDraw g pg p x) := by
  have hx3 : x < 3 := by have := hg.2.1.2; omega
  have hlen : 0 < (pg.2.2 x).length := List.length_pos_iff.mpr hne
  have hs := aSel_in (g := g) (kind := g.2.2.2.2.2 x) hne
  have hm := aGv_mem (g := g) hne
  have ht := (hP.2.1 x hx.1 hx3).2.2.2 _ hm
  have hl8 := (hP.2.1 x hx.1 hx3).1
  have hgn := hg.1
  obtain ⟨c1, c2, c3⟩ := h
  obtain ⟨n1, n2⟩ := c3 x hx.1 hx3
  unfold aDraw
  rw [if_neg hne]
  refine ⟨fun t t0 t1 => ?_, fun t t0 t1 t2 => ?_, fun y y0 y3 => ?_⟩
  · show fp_upf _ _ _ _ = fp_ui pg.1 (aGv g pg x) p t
    unfold fp_upf fp_ui md_take
    by_cases e : t = aGv g pg x
    · rw [if_pos (by rw [e]), if_pos e]
    · rw [if_neg (by omega), if_neg (by omega), if_neg (by omega), if_neg e]; exact c1 t t0 t1
  · have t2' : 10 ≤ fp_ui pg.1 (aGv g pg x) p t := t2
    have hne2 : t ≠ aGv g pg x := by
      rintro rfl
      rw [fp_ui_at] at t2'
      omega
    rw [fp_ui_ne hne2] at t2'
    unfold fp_upf md_take
    rw [if_neg (by omega), if_neg (by omega), if_neg (by omega)]
    exact c2 t t0 t1 t2'
  · show _ = (List.length (fp_ui pg.2.2 x _ y) : Int) ∧ ∀ i : Int, 0 ≤ i → i < (List.length (fp_ui pg.2.2 x _ y) : Int) → _ = List.getD (fp_ui pg.2.2 x _ y) i.toNat 0
    have hl8y := (hP.2.1 y y0 y3).1
    by_cases e : y = x
    · subst e
      rw [fp_ui_at, List.length_eraseIdx_of_lt (by omega)]
      refine ⟨?_, fun i i0 i1 => ?_⟩
      · unfold fp_upf md_take
        rw [if_neg (by omega), if_pos (by omega)]; omega
      · rw [fp_eraD]
        unfold fp_upf md_take
        rw [n1]
        by_cases hi : i < aSel g (pg.2.2 y) (g.2.2.2.2.2 y)
        · rw [if_neg (by omega), if_neg (by omega), if_neg (by omega), if_pos (by omega)]
          exact n2 i i0 (by omega)
        · rw [if_neg (by omega), if_neg (by omega), if_pos (by omega), if_neg (by omega)]
          have := n2 (i + 1) (by omega) (by omega)
          rw [show (a + 10 + 9 * y + 1 + (i + 1)).toNat = (a + 10 + 9 * y + 1 + i).toNat + 1 by omega, show (i + 1).toNat = i.toNat + 1 by omega] at this
          exact this
    · rw [fp_ui_ne e]
      obtain ⟨q1, q2⟩ := c3 y y0 y3
      refine ⟨?_, fun i i0 i1 => ?_⟩
      · unfold fp_upf md_take
        rw [n1, if_neg (by omega), if_neg (by omega), if_neg (by omega)]; exact q1
      · unfold fp_upf md_take
        rw [n1, if_neg (by omega), if_neg (by omega), if_neg (by omega)]; exact q2 i i0 i1
theorem mp_ins (h : mpRow f a g pg) (hP : pgOk g pg) (hg : gOk g) (ha : 0 ≤ a) {t x : Int} {s : Nat} (ht : 0 ≤ t ∧ t < g.1) (hh : 0 ≤ pg.1 t ∧ pg.1 t ≤ 3) (hx : 0 ≤ x ∧ x < g.2.1) (hl : (pg.2.2 x).length < 8) (hs : s ≤ (pg.2.2 x).length) : mpRow (fp_upf (fp_upf (md_lay f (a + 10 + 9 * x) t s) (a + t).toNat (10 + x)) (a + 37 + t).toNat (pg.1 t)) a g (aIns pg t x s) := by
  have hx3 : x < 3 := by have := hg.2.1.2; omega
  have hgn := hg.1
  obtain ⟨c1, c2, c3⟩ := h
  obtain ⟨n1, n2⟩ := c3 x hx.1 hx3
  refine ⟨fun u t0 t1 => ?_, fun u t0 t1 t2 => ?_, fun y y0 y3 => ?_⟩
  · show fp_upf _ _ _ _ = fp_ui pg.1 t (10 + x) u
    unfold fp_upf fp_ui md_lay
    by_cases e : u = t
    · rw [if_neg (by omega), if_pos (by rw [e]), if_pos e]
    · rw [if_neg (by omega), if_neg (by omega), if_neg (by omega), if_neg (by omega), if_neg (by omega), if_neg e]; exact c1 u t0 t1
  · show fp_upf _ _ _ _ = fp_ui pg.2.1 t (pg.1 t) u
    have t2' : 10 ≤ fp_ui pg.1 t (10 + x) u := t2
    unfold fp_upf fp_ui md_lay
    by_cases e : u = t
    · rw [if_pos (by rw [e]), if_pos e]
    · rw [fp_ui_ne e] at t2'
      rw [n1, if_neg (by omega), if_neg (by omega), if_neg (by omega), if_neg (by omega), if_neg (by omega), if_neg e]; exact c2 u t0 t1 t2'
  · show _ = (List.length (fp_ui pg.2.2 x _ y) : Int) ∧ ∀ i : Int, 0 ≤ i → i < (List.length (fp_ui pg.2.2 x _ y) : Int) → _ = List.getD (fp_ui pg.2.2 x _ y) i.toNat 0
    have hl8y := (hP.2.1 y y0 y3).1
    by_cases e : y = x
    · subst e
      rw [fp_ui_at, List.length_insertIdx_of_le_length hs]
      refine ⟨?_, fun i i0 i1 => ?_⟩
      · unfold fp_upf md_lay
        rw [if_neg (by omega), if_neg (by omega), if_pos (by omega)]; omega
      · rw [fp_insD _ _ _ _ hs]
        unfold fp_upf md_lay
        rw [n1, if_neg (by omega), if_neg (by omega), if_neg (by omega)]
        by_cases hi : i < s
        · rw [if_neg (by omega), if_neg (by omega), if_pos (by omega)]
          exact n2 i i0 (by omega)
        · by_cases hi2 : i = s
          · rw [if_pos (by omega), if_neg (by omega), if_pos (by omega)]
          · rw [if_neg (by omega), if_pos (by omega), if_neg (by omega), if_neg (by omega)]
            have := n2 (i - 1) (by omega) (by omega)
            rw [show (a + 10 + 9 * y + 1 + (i - 1)).toNat = (a + 10 + 9 * y + 1 + i).toNat - 1 by omega, show (i - 1).toNat = i.toNat - 1 by omega] at this
            exact this
    · rw [fp_ui_ne e]
      obtain ⟨q1, q2⟩ := c3 y y0 y3
      refine ⟨?_, fun i i0 i1 => ?_⟩
      · unfold fp_upf md_lay
        rw [n1, if_neg (by omega), if_neg (by omega), if_neg (by omega), if_neg (by omega), if_neg (by omega)]; exact q1
      · unfold fp_upf md_lay
        rw [n1, if_neg (by omega), if_neg (by omega), if_neg (by omega), if_neg (by omega), if_neg (by omega)]; exact q2 i i0 i1
end MRP
