/-! THE START: what both objects hold when they are made -/
def fp_L0 : List (Nat × Nat) := wModel (wFirstPut [])
theorem fp_all0 : ∀ k, k < 203 → ∀ j, j < (fp_iniL.getD k []).length → fp_ini k j = 0 ∨ (k, j) ∈ fp_L0 := by decide +kernel
theorem fp_ini_len : fp_iniL.length = 203 := by decide +kernel
theorem fp_w0 : fp_w fp_L0 = fp_ini := by
  funext k j
  unfold fp_w
  by_cases h : (k, j) ∈ fp_L0
  · rw [if_pos h]
  · rw [if_neg h]
    by_cases hk : k < 203
    · by_cases hj : j < (fp_iniL.getD k []).length
      · rcases fp_all0 k hk j hj with h1 | h1
        · exact h1.symm
        · exact absurd h1 h
      · unfold fp_ini
        rw [List.getD_eq_getElem?_getD, List.getElem?_eq_none (by omega)]
        rfl
    · unfold fp_ini
      rw [List.getD_eq_getElem?_getD (l := fp_iniL), List.getElem?_eq_none (by rw [fp_ini_len]; omega)]
      simp
theorem fp_all1 : ∀ k, k < 203 → ∀ j, j < (fp_refL.getD k []).length → fp_ref k j = 0 ∨ fp_ini k j = (fp_ref k j : Int) := by decide +kernel
theorem fp_sx0 : fp_sx fp_ini = fp_ini := by
  funext k j
  unfold fp_sx
  by_cases h : fp_ref k j = 0
  · rw [if_pos h]
  · rw [if_neg h]
    by_cases hk : k < 203
    · by_cases hj : j < (fp_refL.getD k []).length
      · rcases fp_all1 k hk j hj with h1 | h1
        · exact absurd h1 h
        · exact h1.symm
      · exfalso
        apply h
        unfold fp_ref
        rw [List.getD_eq_getElem?_getD, List.getElem?_eq_none (by omega)]
        rfl
    · exfalso
      apply h
      unfold fp_ref
      rw [List.getD_eq_getElem?_getD (l := fp_refL), List.getElem?_eq_none (by rw [show fp_refL.length = 203 by decide +kernel]; omega)]
      simp
def s0G : aGd := (0, 0, 10, fun _ => 0, fun _ _ => 0, fun _ => 0)
def s0P : aPg := (fun _ => -4, fun _ => -4, fun _ => [])
def s0I : aIm := fun _ => none
def s0S : aSh := fun _ => (-4, 0, fun _ => 0)
theorem s0_row {k : Nat} (h : fp_iniL.getD k [] = []) (j : Nat) : fp_ini k j = 0 := by
  unfold fp_ini
  rw [h]; rfl
theorem s0_row10 {k : Nat} (h : fp_iniL.getD k [] = [-4, -4, -4, -4, -4, -4, -4, -4, -4, -4]) (j : Nat) (hj : j < 10) : fp_ini k j = -4 := by
  unfold fp_ini
  rw [h]
  rcases (show j = 0 ∨ j = 1 ∨ j = 2 ∨ j = 3 ∨ j = 4 ∨ j = 5 ∨ j = 6 ∨ j = 7 ∨ j = 8 ∨ j = 9 by omega) with rfl | rfl | rfl | rfl | rfl | rfl | rfl | rfl | rfl | rfl <;> rfl
theorem s0_ok : OK s0G s0P [] [] s0I s0S := by
  refine ⟨⟨⟨by decide, by decide⟩, ⟨by decide, by decide⟩, ⟨by decide, by decide⟩, ?_, ?_, ?_⟩, ⟨?_, ?_, ?_⟩, fun v h => (List.not_mem_nil h).elim, ⟨fun v h => (List.not_mem_nil h).elim, List.nodup_nil⟩, ?_, ?_⟩
  · intro t h0 h1; exact absurd h1 (by show ¬ t < 0; omega)
  · intro t p h0 h1; exact absurd h1 (by show ¬ t < 0; omega)
  · intro x h0 h1; exact absurd h1 (by show ¬ x < 0; omega)
  · intro t h0 h1; exact absurd h1 (by show ¬ t < 0; omega)
  · intro x h0 h1
    exact ⟨by show (0 : Nat) ≤ 8; omega, List.nodup_nil, fun _ => rfl, fun t h => (List.not_mem_nil h).elim⟩
  · intro t h0 h1; exact absurd h1 (by show ¬ t < 0; omega)
  · intro k x h; cases h
  · intro k h0 h1; exact Or.inl rfl
theorem s0_cs : CS fp_ini [] 0 s0G s0P [] [] s0I s0S 0 := by
  refine ⟨⟨by decide +kernel, by decide, ?_, by decide +kernel, by decide +kernel, ⟨by decide, by decide⟩, ⟨by decide, by decide⟩⟩, ?_, ?_, ?_, ?_, ?_, ?_⟩
  · intro i h0 h1; exact absurd h1 (by show ¬ i < ((0 : Nat) : Int); omega)
  · refine ⟨by decide +kernel, by decide +kernel, by decide +kernel, ?_, by decide +kernel, ?_, ?_, ?_, ?_⟩
    · intro t h0 h1; exact absurd h1 (by show ¬ t < 0; omega)
    · intro t p h0 h1; exact absurd h1 (by show ¬ t < 0; omega)
    · intro p h0 h1; exact s0_row (k := 20) (by decide +kernel) _
    · intro x h0 h1; exact absurd h1 (by show ¬ x < 0; omega)
    · refine ⟨by decide +kernel, by decide +kernel, by decide +kernel, fun i h0 h1 => ?_, fun i h0 h1 => ?_, fun i h0 h1 => ?_⟩
      · rw [s0_row (k := 18 + 1) (by decide +kernel)]; decide
      · rw [s0_row (k := 18 + 2) (by decide +kernel)]; decide
      · rw [s0_row (k := 18 + 3) (by decide +kernel)]; decide
  · refine ⟨?_, ?_, ?_, ?_, ?_⟩
    · intro t h0 h1; exact absurd h1 (by show ¬ t < 0; omega)
    · intro t h0 h1
      have h0' : (0 : Int) ≤ t := h0
      exact s0_row10 (k := 22 + 1) (by decide +kernel) _ (by omega)
    · intro t h0 h1; exact absurd h1 (by show ¬ t < 0; omega)
    · intro x h0 h1
      refine ⟨s0_row (k := 22 + 3) (by decide +kernel) _, fun i i0 i1 => absurd i1 (by show ¬ i < ((0 : Nat) : Int); omega)⟩
    · refine ⟨fun t h0 h1 => ?_, fun l h0 h1 => ?_, fun i h0 h1 => ?_⟩
      · rw [s0_row10 (k := 22 + 1) (by decide +kernel) _ (by omega)]; decide
      · rw [s0_row (k := 22 + 3) (by decide +kernel)]; decide
      · rw [s0_row (k := 22 + 4) (by decide +kernel)]; decide
  · exact ⟨by decide +kernel, by decide, fun i i0 i1 => absurd i1 (by show ¬ i < ((0 : Nat) : Int); omega)⟩
  · exact ⟨by decide +kernel, by decide, fun i i0 i1 => absurd i1 (by show ¬ i < ((0 : Nat) : Int); omega)⟩
  · intro k h0 h1
    refine Or.inl ⟨rfl, ?_⟩
    rcases (show k = 0 ∨ k = 1 by omega) with rfl | rfl <;> decide +kernel
  · intro k h0 h1
    refine Or.inl ⟨rfl, ?_⟩
    rcases (show k = 0 ∨ k = 1 ∨ k = 2 ∨ k = 3 by omega) with rfl | rfl | rfl | rfl <;> decide +kernel
theorem s0_ms : MS fp_ini [] 0 s0G s0P [] [] s0I s0S 0 := by
  refine ⟨⟨by decide +kernel, by decide, ?_, by decide +kernel, by decide +kernel⟩, ?_, ?_, ?_, ?_, ?_, ?_, ?_⟩
  · intro i h0 h1; exact absurd h1 (by show ¬ i < ((0 : Nat) : Int); omega)
  · refine ⟨by decide +kernel, by decide +kernel, by decide +kernel, ?_, by decide +kernel, ?_, ?_, ?_, ?_⟩
    · intro t h0 h1; exact absurd h1 (by show ¬ t < 0; omega)
    · intro t p h0 h1; exact absurd h1 (by show ¬ t < 0; omega)
    · intro p h0 h1; exact s0_row (k := 180) (by decide +kernel) _
    · intro x h0 h1; exact absurd h1 (by show ¬ x < 0; omega)
    · refine ⟨by decide +kernel, by decide +kernel, by decide +kernel, fun i h0 h1 => ?_, fun i h0 h1 => ?_, fun i h0 h1 => ?_⟩
      · rw [s0_row (k := 179) (by decide +kernel)]; decide
      · rw [s0_row (k := 180) (by decide +kernel)]; decide
      · rw [s0_row (k := 181) (by decide +kernel)]; decide
  · refine ⟨?_, ?_, ?_⟩
    · intro t h0 h1; exact absurd h1 (by show ¬ t < 0; omega)
    · intro t h0 h1; exact absurd h1 (by show ¬ t < 0; omega)
    · intro x h0 h1
      refine ⟨s0_row (k := 178) (by decide +kernel) _, fun i i0 i1 => absurd i1 (by show ¬ i < ((0 : Nat) : Int); omega)⟩
  · exact ⟨by decide +kernel, by decide, fun i i0 i1 => absurd i1 (by show ¬ i < ((0 : Nat) : Int); omega)⟩
  · exact ⟨by decide +kernel, by decide, fun i i0 i1 => absurd i1 (by show ¬ i < ((0 : Nat) : Int); omega)⟩
  · intro k h0 h1
    refine Or.inl ⟨rfl, ?_⟩
    rcases (show k = 0 ∨ k = 1 by omega) with rfl | rfl <;> decide +kernel
  · intro k h0 h1
    refine ⟨?_, fun h => absurd rfl h⟩
    rcases (show k = 0 ∨ k = 1 ∨ k = 2 ∨ k = 3 by omega) with rfl | rfl | rfl | rfl <;> decide +kernel
  · exact ⟨by decide +kernel, by decide +kernel⟩
