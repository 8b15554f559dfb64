/-! THE BANK IN WORDS OF ITS OWN: a page is (where things are, who put them in, the lines as lists); goods are (things, lines, chance, weights, values, kinds) -/
abbrev aPg : Type := (Int → Int) × (Int → Int) × (Int → List Int)
abbrev aGd : Type := Int × Int × Int × (Int → Int) × (Int → Int → Int) × (Int → Int)
def fp_ui {α : Type} (f : Int → α) (i : Int) (v : α) : Int → α := fun j => if j = i then v else f j
theorem fp_ui_at {α : Type} (f : Int → α) (i : Int) (v : α) : fp_ui f i v i = v := by simp [fp_ui]
theorem fp_ui_ne {α : Type} {f : Int → α} {i j : Int} {v : α} (h : j ≠ i) : fp_ui f i v j = f j := by simp [fp_ui, h]
def aSel (g : aGd) (L : List Int) (kind : Int) : Int := fp_giv kind (fun i => g.2.2.2.1 (L.getD i.toNat 0)) L.length
def aGv (g : aGd) (pg : aPg) (x : Int) : Int := if pg.2.2 x = [] then -4 else (pg.2.2 x).getD (aSel g (pg.2.2 x) (g.2.2.2.2.2 x)).toNat 0
def aDraw (g : aGd) (pg : aPg) (p x : Int) : aPg := if pg.2.2 x = [] then pg else (fp_ui pg.1 (aGv g pg x) p, pg.2.1, fp_ui pg.2.2 x ((pg.2.2 x).eraseIdx (aSel g (pg.2.2 x) (g.2.2.2.2.2 x)).toNat))
def aIns (pg : aPg) (t x : Int) (s : Nat) : aPg := (fp_ui pg.1 t (10 + x), fp_ui pg.2.1 t (pg.1 t), fp_ui pg.2.2 x ((pg.2.2 x).insertIdx s t))
/-- goods in bounds -/
def gOk (g : aGd) : Prop := (0 ≤ g.1 ∧ g.1 ≤ 10) ∧ (0 ≤ g.2.1 ∧ g.2.1 ≤ 3) ∧ (0 ≤ g.2.2.1 ∧ g.2.2.1 ≤ 10) ∧ (∀ t, 0 ≤ t → t < g.1 → 0 ≤ g.2.2.2.1 t ∧ g.2.2.2.1 t ≤ 9) ∧ (∀ t p, 0 ≤ t → t < g.1 → 0 ≤ p → p < 4 → 0 ≤ g.2.2.2.2.1 t p ∧ g.2.2.2.2.1 t p ≤ 20) ∧ ∀ x, 0 ≤ x → x < g.2.1 → 0 ≤ g.2.2.2.2.2 x ∧ g.2.2.2.2.2 x ≤ 2
/-- a page that can be: who is where -/
def pgOk (g : aGd) (pg : aPg) : Prop :=
  (∀ t, 0 ≤ t → t < g.1 → (0 ≤ pg.1 t ∧ pg.1 t ≤ 3) ∨ (10 ≤ pg.1 t ∧ pg.1 t < 10 + g.2.1)) ∧
  (∀ x, 0 ≤ x → x < 3 → (pg.2.2 x).length ≤ 8 ∧ (pg.2.2 x).Nodup ∧ (g.2.1 ≤ x → pg.2.2 x = []) ∧ ∀ t, t ∈ pg.2.2 x → 0 ≤ t ∧ t < g.1 ∧ pg.1 t = 10 + x) ∧
  (∀ t, 0 ≤ t → t < g.1 → 10 ≤ pg.1 t → t ∈ pg.2.2 (pg.1 t - 10) ∧ True)
theorem fp_eraD (L : List Int) (s i : Nat) : (L.eraseIdx s).getD i 0 = if i < s then L.getD i 0 else L.getD (i + 1) 0 := by
  rw [List.getD_eq_getElem?_getD, List.getElem?_eraseIdx, List.getD_eq_getElem?_getD, List.getD_eq_getElem?_getD]
  split <;> rfl
theorem fp_insD (t : Int) : ∀ (L : List Int) (s i : Nat), s ≤ L.length → (L.insertIdx s t).getD i 0 = if i < s then L.getD i 0 else if i = s then t else L.getD (i - 1) 0
  | L, 0, i, _ => by
    rw [List.insertIdx_zero]
    cases i with
    | zero => simp
    | succ i => simp
  | [], s + 1, i, h => by simp at h
  | a :: L, s + 1, i, h => by
    rw [List.insertIdx_succ_cons]
    cases i with
    | zero => simp
    | succ i =>
      have ih := fp_insD t L s i (by simpa using h)
      simp only [List.getD_cons_succ]
      rw [ih]
      by_cases h1 : i < s
      · rw [if_pos h1, if_pos (show i + 1 < s + 1 by omega)]
      · rw [if_neg h1, if_neg (show ¬ i + 1 < s + 1 by omega)]
        by_cases h2 : i = s
        · rw [if_pos h2, if_pos (show i + 1 = s + 1 by omega)]
        · rw [if_neg h2, if_neg (show ¬ i + 1 = s + 1 by omega)]
          obtain ⟨j, rfl⟩ : ∃ j, i = j + 1 := ⟨i - 1, by omega⟩
          simp
theorem fp_insN {t : Int} : ∀ (L : List Int) (s : Nat), L.Nodup → t ∉ L → s ≤ L.length → (L.insertIdx s t).Nodup
  | L, 0, h, ht, _ => by rw [List.insertIdx_zero]; exact List.nodup_cons.mpr ⟨ht, h⟩
  | [], s + 1, _, _, h => by simp at h
  | a :: L, s + 1, h, ht, hs => by
    rw [List.insertIdx_succ_cons]
    have h1 := List.nodup_cons.mp h
    have hs' : s ≤ L.length := by simpa using hs
    refine List.nodup_cons.mpr ⟨fun hm => ?_, fp_insN L s h1.2 (fun q => ht (List.mem_cons_of_mem _ q)) hs'⟩
    rcases (List.mem_insertIdx hs').mp hm with rfl | q
    · exact ht List.mem_cons_self
    · exact h1.1 q
theorem fp_getD_mem {L : List Int} {i : Nat} (h : i < L.length) : L.getD i 0 ∈ L := by
  rw [List.getD_eq_getElem?_getD, List.getElem?_eq_getElem h]
  exact List.getElem_mem h
theorem fp_mem_era {L : List Int} {s : Nat} {t : Int} (hn : L.Nodup) (hs : s < L.length) : t ∈ L.eraseIdx s ↔ t ∈ L ∧ t ≠ L.getD s 0 := by
  have e : L.getD s 0 = L[s] := by rw [List.getD_eq_getElem?_getD, List.getElem?_eq_getElem hs]; rfl
  rw [e, List.mem_eraseIdx_iff_getElem]
  have hp := List.pairwise_iff_getElem.mp hn
  constructor
  · rintro ⟨i, hi, hne, rfl⟩
    refine ⟨List.getElem_mem hi, fun q => ?_⟩
    rcases Nat.lt_or_gt_of_ne hne with h | h
    · exact hp i s hi hs h q
    · exact hp s i hs hi h q.symm
  · rintro ⟨hm, hne⟩
    obtain ⟨i, hi, rfl⟩ := List.getElem_of_mem hm
    exact ⟨i, hi, fun q => hne (by subst q; rfl), rfl⟩
theorem fp_am_congr {w v : Int → Int} : ∀ n : Nat, (∀ i, 0 ≤ i → i ≤ (n : Int) → w i = v i) → fp_am w n = fp_am v n
  | 0, _ => rfl
  | n + 1, h => by
    have ih := fp_am_congr n (fun i h0 h1 => h i h0 (by omega))
    have hb := fp_am_le v n
    unfold fp_am
    rw [ih, h _ (by omega) (by omega), h (fp_am v n) hb.1 (by omega)]
theorem fp_giv_congr {kind n : Int} {w v : Int → Int} (h1 : 1 ≤ n) (h : ∀ i, 0 ≤ i → i < n → w i = v i) : fp_giv kind w n = fp_giv kind v n := by
  unfold fp_giv
  rw [fp_am_congr (n - 1).toNat (fun i h0 h1 => h i h0 (by omega))]
theorem aSel_in {g : aGd} {L : List Int} {kind : Int} (h : L ≠ []) : 0 ≤ aSel g L kind ∧ aSel g L kind < L.length := by
  have : 0 < L.length := List.length_pos_iff.mpr h
  exact fp_giv_in (by omega)
theorem aGv_mem {g : aGd} {pg : aPg} {x : Int} (h : pg.2.2 x ≠ []) : aGv g pg x ∈ pg.2.2 x := by
  unfold aGv
  rw [if_neg h]
  have := aSel_in (g := g) (kind := g.2.2.2.2.2 x) h
  exact fp_getD_mem (by omega)
theorem aDraw_ok {g : aGd} {pg : aPg} {p x : Int} (hg : gOk g) (h : pgOk g pg) (hp : 0 ≤ p ∧ p < 4) (hx : 0 ≤ x ∧ x < g.2.1) : pgOk g (aDraw g pg p x) := by
  unfold aDraw
  split
  · exact h
  rename_i hne
  have hx3 : x < 3 := by have := hg.2.1.2; omega
  obtain ⟨h1, h2, h3⟩ := h
  obtain ⟨l1, l2, l3, l4⟩ := h2 x hx.1 hx3
  have hm := aGv_mem (g := g) hne
  have ht := l4 _ hm
  have hs := aSel_in (g := g) (kind := g.2.2.2.2.2 x) hne
  have eg : aGv g pg x = (pg.2.2 x).getD (aSel g (pg.2.2 x) (g.2.2.2.2.2 x)).toNat 0 := by unfold aGv; rw [if_neg hne]
  refine ⟨fun t h0 hl => ?_, fun y hy0 hy3 => ?_, fun t h0 hl h10 => ?_⟩
  · by_cases e : t = aGv g pg x
    · subst e; left; show 0 ≤ fp_ui _ _ _ _ ∧ fp_ui _ _ _ _ ≤ 3; rw [fp_ui_at]; omega
    · show (0 ≤ fp_ui _ _ _ _ ∧ fp_ui _ _ _ _ ≤ 3) ∨ _
      simp only [fp_ui_ne e]; exact h1 t h0 hl
  · by_cases e : y = x
    · subst e
      show List.length (fp_ui pg.2.2 y _ y) ≤ 8 ∧ List.Nodup (fp_ui pg.2.2 y _ y) ∧ (_ → fp_ui pg.2.2 y _ y = []) ∧ ∀ t9, t9 ∈ fp_ui pg.2.2 y _ y → 0 ≤ t9 ∧ t9 < g.1 ∧ fp_ui pg.1 _ _ t9 = 10 + y
      rw [fp_ui_at]
      refine ⟨Nat.le_trans (List.length_eraseIdx_le _ _) l1, l2.sublist (List.eraseIdx_sublist _ _), fun q => absurd (l3 q) hne, fun t hm2 => ?_⟩
      rw [fp_mem_era l2 (by omega), ← eg] at hm2
      have := l4 t hm2.1
      rw [fp_ui_ne hm2.2]
      exact this
    · show List.length (fp_ui pg.2.2 x _ y) ≤ 8 ∧ List.Nodup (fp_ui pg.2.2 x _ y) ∧ (_ → fp_ui pg.2.2 x _ y = []) ∧ ∀ t9, t9 ∈ fp_ui pg.2.2 x _ y → 0 ≤ t9 ∧ t9 < g.1 ∧ fp_ui pg.1 _ _ t9 = 10 + y
      rw [fp_ui_ne e]
      obtain ⟨k1, k2, k3, k4⟩ := h2 y hy0 hy3
      refine ⟨k1, k2, k3, fun t hm2 => ?_⟩
      have := k4 t hm2
      rw [fp_ui_ne (fun q => by subst q; omega)]
      exact this
  · have hne2 : t ≠ aGv g pg x := by
      rintro rfl
      have : fp_ui pg.1 (aGv g pg x) p (aGv g pg x) = p := fp_ui_at _ _ _
      have h10' : 10 ≤ fp_ui pg.1 (aGv g pg x) p (aGv g pg x) := h10
      omega
    have e1 : fp_ui pg.1 (aGv g pg x) p t = pg.1 t := fp_ui_ne hne2
    have h10' : 10 ≤ fp_ui pg.1 (aGv g pg x) p t := h10
    rw [e1] at h10'
    have h4 := h3 t h0 hl h10'
    refine ⟨?_, h4.2⟩
    show t ∈ fp_ui pg.2.2 x _ (fp_ui pg.1 (aGv g pg x) p t - 10)
    rw [e1]
    by_cases e2 : pg.1 t - 10 = x
    · rw [e2, fp_ui_at, fp_mem_era l2 (by omega), ← eg]
      exact ⟨e2 ▸ h4.1, hne2⟩
    · rw [fp_ui_ne e2]; exact h4.1
theorem aIns_ok {g : aGd} {pg : aPg} {t x : Int} {s : Nat} (hg : gOk g) (h : pgOk g pg) (ht : 0 ≤ t ∧ t < g.1) (hh : 0 ≤ pg.1 t ∧ pg.1 t ≤ 3) (hx : 0 ≤ x ∧ x < g.2.1) (hl : (pg.2.2 x).length < 8) (hs : s ≤ (pg.2.2 x).length) : pgOk g (aIns pg t x s) := by
  have hx3 : x < 3 := by have := hg.2.1.2; omega
  obtain ⟨h1, h2, h3⟩ := h
  obtain ⟨l1, l2, l3, l4⟩ := h2 x hx.1 hx3
  have hnm : ∀ y, 0 ≤ y → y < 3 → t ∉ pg.2.2 y := fun y hy0 hy3 hm => by
    have := (h2 y hy0 hy3).2.2.2 t hm
    omega
  refine ⟨fun u h0 hl => ?_, fun y hy0 hy3 => ?_, fun u h0 hl h10 => ?_⟩
  · by_cases e : u = t
    · subst e; right; show 10 ≤ fp_ui _ _ _ _ ∧ fp_ui _ _ _ _ < 10 + g.2.1; rw [fp_ui_at]; omega
    · show (0 ≤ fp_ui _ _ _ _ ∧ fp_ui _ _ _ _ ≤ 3) ∨ (10 ≤ fp_ui _ _ _ _ ∧ fp_ui _ _ _ _ < 10 + g.2.1)
      simp only [fp_ui_ne e]; exact h1 u h0 hl
  · by_cases e : y = x
    · subst e
      show List.length (fp_ui pg.2.2 y _ y) ≤ 8 ∧ List.Nodup (fp_ui pg.2.2 y _ y) ∧ (_ → fp_ui pg.2.2 y _ y = []) ∧ ∀ t9, t9 ∈ fp_ui pg.2.2 y _ y → 0 ≤ t9 ∧ t9 < g.1 ∧ fp_ui pg.1 _ _ t9 = 10 + y
      rw [fp_ui_at]
      refine ⟨by rw [List.length_insertIdx_of_le_length hs]; omega, fp_insN _ _ l2 (hnm y hy0 hy3) hs, fun q => by omega, fun u hm2 => ?_⟩
      rcases (List.mem_insertIdx hs).mp hm2 with rfl | q
      · rw [fp_ui_at]; omega
      · have := l4 u q
        rw [fp_ui_ne (show u ≠ t from fun e => hnm y hy0 hy3 (by rw [← e]; exact q))]
        exact this
    · show List.length (fp_ui pg.2.2 x _ y) ≤ 8 ∧ List.Nodup (fp_ui pg.2.2 x _ y) ∧ (_ → fp_ui pg.2.2 x _ y = []) ∧ ∀ t9, t9 ∈ fp_ui pg.2.2 x _ y → 0 ≤ t9 ∧ t9 < g.1 ∧ fp_ui pg.1 _ _ t9 = 10 + y
      rw [fp_ui_ne e]
      obtain ⟨k1, k2, k3, k4⟩ := h2 y hy0 hy3
      refine ⟨k1, k2, k3, fun u hm2 => ?_⟩
      have := k4 u hm2
      rw [fp_ui_ne (show u ≠ t from fun e => hnm y hy0 hy3 (by rw [← e]; exact hm2))]
      exact this
  · by_cases e : u = t
    · subst e
      show u ∈ fp_ui pg.2.2 x _ (fp_ui pg.1 u (10 + x) u - 10) ∧ True
      rw [fp_ui_at, show 10 + x - 10 = x by omega, fp_ui_at]
      exact ⟨(List.mem_insertIdx hs).mpr (Or.inl rfl), trivial⟩
    · have e1 : fp_ui pg.1 t (10 + x) u = pg.1 u := fp_ui_ne e
      have h10' : 10 ≤ fp_ui pg.1 t (10 + x) u := h10
      rw [e1] at h10'
      have h4 := h3 u h0 hl h10'
      show u ∈ fp_ui pg.2.2 x _ (fp_ui pg.1 t (10 + x) u - 10) ∧ True
      rw [e1]
      refine ⟨?_, h4.2⟩
      by_cases e2 : pg.1 u - 10 = x
      · rw [e2, fp_ui_at]; exact (List.mem_insertIdx hs).mpr (Or.inr (e2 ▸ h4.1))
      · rw [fp_ui_ne e2]; exact h4.1
