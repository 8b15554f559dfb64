/-! WHAT A TEXT TELLS: the reference's rows for it -/
def frQ (M N : fp_Mem) : Prop := (∀ a, (a < 177 ∨ (177 < a ∧ a < 182) ∨ 185 < a) → N a = M a) ∧ ∀ j, (j < 11 ∨ j = 18 ∨ j = 19 ∨ j = 20 ∨ 26 < j) → N 177 j = M 177 j
theorem frQ.refl (M : fp_Mem) : frQ M M := ⟨fun _ _ => rfl, fun _ _ => rfl⟩
theorem frQ.trans {M N O : fp_Mem} (h : frQ M N) (h2 : frQ N O) : frQ M O := ⟨fun a ha => (h2.1 a ha).trans (h.1 a ha), fun j hj => (h2.2 j hj).trans (h.2 j hj)⟩
theorem frW.Q {M N : fp_Mem} (h : frW M N) : frQ M N := ⟨fun a ha => h.1 a (by omega), fun j hj => h.2 j (by omega)⟩
theorem frQ.up {M N : fp_Mem} (h : frQ M N) {k j : Nat} {z : Int} (hk : (182 ≤ k ∧ k ≤ 185) ∨ (k = 177 ∧ ((11 ≤ j ∧ j ≤ 17) ∨ (21 ≤ j ∧ j ≤ 26)))) : frQ M (fp_up N k j z) := by
  refine ⟨fun a ha => by rw [fp_up_ne (by omega)]; exact h.1 a ha, fun i hi => ?_⟩
  by_cases e : k = 177
  · subst e
    rw [fp_up_at, fp_upf_ne (by omega)]; exact h.2 i hi
  · rw [fp_up_ne (fun q => e q.symm)]; exact h.2 i hi
theorem frQ.T {M N : fp_Mem} {tp : List Int} (h : frQ M N) (hm : mtT M tp) : mtT N tp := ⟨by rw [h.2 19 (by omega)]; exact hm.1, fun i i0 i1 => by rw [h.1 186 (by omega)]; exact hm.2 i i0 i1⟩
theorem frQ.K {M N : fp_Mem} (h : frQ M N) (hm : msK M) : msK N := by
  unfold msK at *
  rw [h.1 187 (by omega), h.1 188 (by omega)]; exact hm
/-- what stays in the rows between two texts is within bounds -/
def mrI (M : fp_Mem) : Prop := (∀ i : Int, 0 ≤ i → i < 10 → 0 ≤ M 183 i.toNat ∧ M 183 i.toNat ≤ 9) ∧ (∀ i : Int, 0 ≤ i → i < 40 → 0 ≤ M 184 i.toNat ∧ M 184 i.toNat ≤ 20) ∧ ∀ x : Int, 0 ≤ x → x < 3 → 0 ≤ M 185 x.toNat ∧ M 185 x.toNat ≤ 2
theorem mrI.kept {M N : fp_Mem} (h : mrI M) (e3 : N 183 = M 183) (e4 : N 184 = M 184) (e5 : N 185 = M 185) : mrI N := by
  unfold mrI at *
  rw [e3, e4, e5]; exact h
def mrG (M : fp_Mem) (g : aGd) : Prop := M 177 11 = g.1 ∧ M 177 12 = g.2.1 ∧ M 177 13 = g.2.2.1 ∧ (∀ t, 0 ≤ t → t < g.1 → M 183 t.toNat = g.2.2.2.1 t) ∧ (∀ t p, 0 ≤ t → t < g.1 → 0 ≤ p → p < 4 → M 184 (4 * t + p).toNat = g.2.2.2.2.1 t p) ∧ ∀ x, 0 ≤ x → x < g.2.1 → M 185 x.toNat = g.2.2.2.2.2 x
def mrP (f : Nat → Int) (g : aGd) (wh : Int → Int) (ln : Int → List Int) : Prop := (∀ t, 0 ≤ t → t < g.1 → f t.toNat = wh t) ∧ ∀ x : Int, 0 ≤ x → x < 3 → f (10 + 9 * x).toNat = (ln x).length ∧ ∀ i : Int, 0 ≤ i → i < (ln x).length → f (10 + 9 * x + 1 + i).toNat = (ln x).getD i.toNat 0
def mrH (a b : Int) (ln : Int → List Int) (vs : List aVt) : Prop := (-1 ≤ a ∧ a ≤ 9) ∧ (-1 ≤ b ∧ b ≤ 2) ∧ (∀ n, 0 ≤ n → (a < n ↔ (∀ x t, 0 ≤ x → x < 3 → t ∈ ln x → t < n) ∧ ∀ v ∈ vs, v.2.2.2 < n)) ∧ ∀ n, 0 ≤ n → (b < n ↔ ∀ v ∈ vs, v.2.2.1 < n)
def mrD (M : fp_Mem) (D : pD) : Prop := mrG M D.1 ∧ mrP (M 182) D.1 D.2.1 D.2.2.1 ∧ mvRow (M 182) D.2.2.2.2.2 ∧ M 177 17 = D.2.2.2.1 ∧ M 177 14 = D.2.2.2.2.1 ∧ M 182 104 = 0 ∧ mrH (M 177 15) (M 177 16) D.2.2.1 D.2.2.2.2.2
theorem mrD.kept {M N : fp_Mem} {D : pD} (h : mrD M D) (e : ∀ a, 182 ≤ a → a ≤ 185 → N a = M a) (f : ∀ j, 11 ≤ j → j ≤ 17 → N 177 j = M 177 j) : mrD N D := by
  unfold mrD mrG at *
  rw [e 182 (by omega) (by omega), e 183 (by omega) (by omega), e 184 (by omega) (by omega), e 185 (by omega) (by omega), f 11 (by omega) (by omega), f 12 (by omega) (by omega), f 13 (by omega) (by omega), f 14 (by omega) (by omega), f 15 (by omega) (by omega), f 16 (by omega) (by omega), f 17 (by omega) (by omega)]
  exact h
theorem frW.D {M N : fp_Mem} {D : pD} (h : frW M N) (hd : mrD M D) : mrD N D := hd.kept (fun a a0 a1 => h.1 a (by omega)) (fun j j0 j1 => h.2 j (by omega))
theorem frW.I {M N : fp_Mem} (h : frW M N) (hd : mrI M) : mrI N := hd.kept (h.1 183 (by decide)) (h.1 184 (by decide)) (h.1 185 (by decide))
theorem fp_Ok.wI {l : Launch} {G : fp_WG} {d : Nat} {Y : fp_MR} {a : List Value} {M : fp_Mem} {P P' : Int → fp_Mem → Prop} (h : fp_Ok l G d Y a M (qI P)) (hq : ∀ z N, P z N → P' z N) : fp_Ok l G d Y a M (qI P') := h.weaken (fun r N ⟨z, e, q⟩ => ⟨z, e, hq z N q⟩)
theorem fp_Ok.wV {l : Launch} {G : fp_WG} {d : Nat} {Y : fp_MR} {a : List Value} {M : fp_Mem} {P P' : fp_Mem → Prop} (h : fp_Ok l G d Y a M (qV P)) (hq : ∀ N, P N → P' N) : fp_Ok l G d Y a M (qV P') := h.weaken (fun r N ⟨e, q⟩ => ⟨e, hq N q⟩)
/-- N is A but for the token and the fault -/
def aT (tp : List Int) (A N : fp_Mem) (r : Int ⊕ Int) : Prop := frW A N ∧ mq tp N r
section AT
variable {l : Launch} {G : fp_WG} {M N A : fp_Mem} {tp : List Int} {r r' : Int ⊕ Int}
theorem aT.up (h : aT tp A N r) {k j : Nat} {z : Int} (hk : k ≠ 177 ∨ j < 21 ∨ 26 < j) : aT tp (fp_up A k j z) (fp_up N k j z) r := by
  obtain ⟨h1, h2⟩ := h
  refine ⟨⟨fun a ha => ?_, fun i hi => ?_⟩, h2.fr (fun i i0 i1 => ?_)⟩
  · by_cases e : a = k
    · subst e; rw [fp_up_at, fp_up_at, h1.1 a ha]
    · rw [fp_up_ne e, fp_up_ne e]; exact h1.1 a ha
  · by_cases e : 177 = k
    · subst e
      rw [fp_up_at, fp_up_at]
      by_cases ei : i = j
      · subst ei; simp [fp_upf]
      · rw [fp_upf_ne ei, fp_upf_ne ei]; exact h1.2 i hi
    · rw [fp_up_ne e, fp_up_ne e]; exact h1.2 i hi
  · by_cases e : 177 = k
    · subst e
      rw [fp_up_at, fp_upf_ne (by omega)]
    · rw [fp_up_ne e]
theorem aT.rd (h : aT tp A N r) {k j : Nat} (hk : k ≠ 177 ∨ j < 21 ∨ 26 < j) : N k j = A k j := by
  by_cases e : k = 177
  · subst e; exact h.1.2 j (by omega)
  · rw [h.1.1 k e]
theorem mt_nu {lo hi : Int} (ht : tpOk tp) (h : aT tp A M r) (hm : mtT A tp) (hlo : fp_rng lo) (hhi : fp_rng hi) : fp_Ok l G 2 kX12_number [rV G 177, iV lo, iV hi] M (qI fun z N => aT tp A N (nuR tp lo hi r) ∧ z = nuV tp lo hi r) :=
  fp_Ok.wI (mt_number ht (h.1.T hm) h.2 hlo hhi) (fun z N q => ⟨⟨h.1.trans q.1, q.2.1⟩, q.2.2⟩)
theorem mt_st {s : Int} (ht : tpOk tp) (h : aT tp A M (.inr s)) (ho : mtO tp M s) (hm : mtT A tp) : fp_Ok l G 1 kX12_step [rV G 177] M (qV fun N => aT tp A N (.inr (nxt tp s))) := by
  have hx := nxt_le h.2.1.2
  have h0 := h.2.1.1
  exact fp_Ok.wV (mt_step ht (h.1.T hm) ho.1 h.2.2.1.2.1 (by omega) hx.2) (fun N q => ⟨h.1.trans q.1, ⟨⟨by omega, hx.2⟩, q.2.1, q.2.2⟩⟩)
end AT
/-- the STOP -/
def stR (tp : List Int) : Int ⊕ Int → Int ⊕ Int
  | .inl h => .inl h
  | .inr s => if spOk tp s then .inr (nxt tp s) else .inl (tkS tp s)
def toR : Int ⊕ (Int × pD) → Int ⊕ Int
  | .inl h => .inl h
  | .inr q => .inr q.1
def rlP (tp : List Int) (M N : fp_Mem) (p : Int ⊕ (Int × pD)) : Prop := frQ M N ∧ mrI N ∧ ∃ r, mq tp N r ∧ toR p = stR tp r ∧ ∀ q, p = .inr q → mrD N q.2
