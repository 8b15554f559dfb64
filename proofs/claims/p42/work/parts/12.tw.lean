/-! ROWS FOR THE HEAP: fields, arrays -/
theorem fp_hty : ∀ (c : Nat) (q : vw_C), vwCl[c]? = some q → ∃ ty0 : Nat → FieldType, (∀ k, k < q.2.2 → parseFieldDescriptor (q.2.1 k).2.2.1 = some (ty0 k)) ∧ ∀ a, a < q.2.2 → ∀ b, b < q.2.2 → a ≠ b → (q.2.1 a).2.1 ≠ (q.2.1 b).2.1 := by
  have h : ∀ q ∈ vwCl, ∃ ty0 : Nat → FieldType, (∀ k, k < q.2.2 → parseFieldDescriptor (q.2.1 k).2.2.1 = some (ty0 k)) ∧ ∀ a, a < q.2.2 → ∀ b, b < q.2.2 → a ≠ b → (q.2.1 a).2.1 ≠ (q.2.1 b).2.1 := by
    intro q hq
    simp only [vwCl, List.mem_cons, List.not_mem_nil, or_false] at hq
    rcases hq with rfl | rfl | rfl | rfl | rfl | rfl | rfl | rfl | rfl | rfl | rfl | rfl | rfl
    · exact ⟨tyX0, tyX0_ok, nmX0⟩
    · exact ⟨tyX1, tyX1_ok, nmX1⟩
    · exact ⟨tyX2, tyX2_ok, nmX2⟩
    · exact ⟨tyX3, tyX3_ok, nmX3⟩
    · exact ⟨tyX4, tyX4_ok, nmX4⟩
    · exact ⟨tyX5, tyX5_ok, nmX5⟩
    · exact ⟨tyX6, tyX6_ok, nmX6⟩
    · exact ⟨tyX7, tyX7_ok, nmX7⟩
    · exact ⟨tyX8, tyX8_ok, nmX8⟩
    · exact ⟨tyX9, tyX9_ok, nmX9⟩
    · exact ⟨tyX10, tyX10_ok, nmX10⟩
    · exact ⟨tyX11, tyX11_ok, nmX11⟩
    · exact ⟨tyX12, tyX12_ok, nmX12⟩
  exact fun c q hq => h q (List.mem_of_getElem? hq)
theorem fp_cw {G : fp_WG} {s : State} {args : Array Value} {c : Nat} {q : vw_C} (K : fp_K0 G) (hW : G.2.1.WarmedH s.vm) (h : vwCl[c]? = some q) : ∀ w ∈ u_ws q.1 q.2.1 q.2.2, w.before args s = true := by
  intro w hw
  refine fp_word K hW (fp_inT c q h w hw) ?_
  obtain ⟨k, -, rfl⟩ := List.mem_map.mp hw
  unfold u_lay
  split <;> rfl
