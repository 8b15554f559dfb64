/-! orders: which rows fit, and which is the first of them (p32 alone) -/
/-- what is drawn of a row: the last (kind 1), else the first of the least -/
def oD (K : Int) (W : Int → Int) : List Int → Int
  | [] => 0
  | a :: p => if p = [] ∨ (K ≠ 1 ∧ W a ≤ W (oD K W p)) then a else oD K W p
theorem oD_mem {K : Int} {W : Int → Int} : ∀ {L : List Int}, L ≠ [] → oD K W L ∈ L
  | [], h => absurd rfl h
  | a :: p, _ => by
    rw [oD]
    split
    · exact List.mem_cons_self
    · rename_i h
      exact List.mem_cons_of_mem _ (oD_mem (fun e => h (Or.inl e)))
theorem oD_min {K : Int} {W : Int → Int} (hW : K = 1 → ∀ t u, W t ≤ W u) : ∀ {L : List Int} (x : Int), x ∈ L → W (oD K W L) ≤ W x
  | [], x, h => absurd h List.not_mem_nil
  | a :: p, x, h => by
    by_cases hK : K = 1
    · exact hW hK _ _
    · rw [oD]
      split
      · rename_i c
        rcases List.mem_cons.mp h with e | e
        · rw [e]; exact Int.le_refl _
        · rcases c with c | c
          · rw [c] at e; exact absurd e List.not_mem_nil
          · have := oD_min hW x e; omega
      · rename_i c
        have hlt : ¬ W a ≤ W (oD K W p) := fun e => c (Or.inr ⟨hK, e⟩)
        rcases List.mem_cons.mp h with e | e
        · rw [e]; omega
        · exact oD_min hW x e
/-- whether a row gives these, one behind another -/
def oFit (K : Int) (W : Int → Int) : List Int → List Int → Bool
  | _, [] => true
  | L, n :: ns => decide (L ≠ [] ∧ oD K W L = n) && oFit K W (L.erase n) ns
theorem oFit_cons {K : Int} {W : Int → Int} {L : List Int} {n : Int} {ns : List Int} : oFit K W L (n :: ns) = true ↔ L ≠ [] ∧ oD K W L = n ∧ oFit K W (L.erase n) ns = true := by
  rw [oFit, Bool.and_eq_true, decide_eq_true_eq, and_assoc]
/-- whether some row of these things could -/
def oCan (W : Int → Int) : List Int → List Int → Prop
  | _, [] => True
  | L, n :: ns => n ∈ L ∧ (∀ x, x ∈ L → W n ≤ W x) ∧ oCan W (L.erase n) ns
theorem oCan.perm {W : Int → Int} : ∀ {nt L L' : List Int}, oCan W L nt → List.Perm L L' → oCan W L' nt
  | [], _, _, _, _ => trivial
  | n :: _, _, _, h, e => ⟨e.mem_iff.mp h.1, fun x hx => h.2.1 x (e.mem_iff.mpr hx), oCan.perm h.2.2 (e.erase n)⟩
theorem oFit_can {K : Int} {W : Int → Int} (hW : K = 1 → ∀ t u, W t ≤ W u) : ∀ {nt L : List Int}, oFit K W L nt = true → oCan W L nt
  | [], _, _ => trivial
  | n :: ns, L, h => by
    obtain ⟨h1, h2, h3⟩ := oFit_cons.mp h
    refine ⟨?_, fun x hx => ?_, oFit_can hW h3⟩
    · rw [← h2]; exact oD_mem h1
    · rw [← h2]; exact oD_min hW x hx
theorem oCan.sub {W : Int → Int} : ∀ {nt L : List Int}, oCan W L nt → ∀ t, t ∈ nt → t ∈ L
  | [], _, _, _, h => absurd h List.not_mem_nil
  | n :: ns, L, hc, t, h => by
    rcases List.mem_cons.mp h with e | e
    · rw [e]; exact hc.1
    · exact List.mem_of_mem_erase (oCan.sub hc.2.2 t e)
theorem oCan.len {W : Int → Int} : ∀ {nt L : List Int}, oCan W L nt → nt.length ≤ L.length
  | [], _, _ => Nat.zero_le _
  | n :: ns, L, hc => by
    have h1 := oCan.len hc.2.2
    have h2 := List.length_pos_of_mem hc.1
    rw [List.length_erase_of_mem hc.1] at h1
    rw [List.length_cons]
    omega
theorem oCan.erase {W : Int → Int} {a : Int} : ∀ {nt L : List Int}, oCan W L nt → oCan W (L.erase a) (nt.erase a)
  | [], _, _ => by rw [List.erase_nil]; trivial
  | n :: ns, L, h => by
    by_cases e : n = a
    · subst e
      rw [List.erase_cons_head]; exact h.2.2
    · rw [List.erase_cons_tail (by simpa using e)]
      refine ⟨(List.mem_erase_of_ne e).mpr h.1, fun x hx => h.2.1 x (List.mem_of_mem_erase hx), ?_⟩
      rw [List.erase_comm]; exact h.2.2.erase
/-- whether one may stand first: by what is drawn ahead of it -/
def oMe (W : Int → Int) (a : Int) : List Int → Prop
  | [] => True
  | n :: ns => n = a ∨ (W n ≠ W a ∧ oMe W a ns)
def oMl (a : Int) : List Int → Nat → Prop
  | [], _ => True
  | n :: ns, m => (n = a ∧ m = 1) ∨ (n ≠ a ∧ oMl a ns (m - 1))
def oM (K : Int) (W : Int → Int) (a : Int) (nt : List Int) (m : Nat) : Prop := (K = 1 → oMl a nt m) ∧ (K ≠ 1 → oMe W a nt)
theorem oFit_e {K : Int} {W : Int → Int} (hK : K ≠ 1) {a : Int} : ∀ {nt p : List Int}, (a :: p).Nodup → oCan W (a :: p) nt → (oFit K W (a :: p) nt = true ↔ oMe W a nt ∧ oFit K W p (nt.erase a) = true)
  | [], p, _, _ => by simp [oFit, oMe]
  | n :: ns, p, hn, hc => by
    have hnp := List.nodup_cons.mp hn
    rw [oFit_cons, oMe]
    by_cases e : n = a
    · have hD : oD K W (a :: p) = n := by
        rw [oD]
        split
        · exact e.symm
        · rename_i c
          have hp : p ≠ [] := fun q => c (Or.inl q)
          have h9 := hc.2.1 _ (List.mem_cons_of_mem _ (oD_mem (K := K) (W := W) hp))
          rw [e] at h9
          exact absurd (Or.inr ⟨hK, h9⟩) c
      rw [e] at hD ⊢
      rw [List.erase_cons_head, List.erase_cons_head]
      constructor
      · intro h; exact ⟨Or.inl rfl, h.2.2⟩
      · intro h; exact ⟨List.cons_ne_nil _ _, hD, h.2⟩
    · have hnp2 : n ∈ p := (List.mem_cons.mp hc.1).resolve_left e
      have hp : p ≠ [] := List.ne_nil_of_mem hnp2
      have ea : (a :: p).erase n = a :: p.erase n := List.erase_cons_tail (by simpa using fun q => e q.symm)
      have en : (n :: ns).erase a = n :: ns.erase a := List.erase_cons_tail (by simpa using e)
      have hm : W n ≤ W a := hc.2.1 a List.mem_cons_self
      have ih := oFit_e (K := K) hK (a := a) (nt := ns) (p := p.erase n) (List.nodup_cons.mpr ⟨fun q => hnp.1 (List.mem_of_mem_erase q), hnp.2.erase n⟩) (by rw [← ea]; exact hc.2.2)
      rw [ea, en, oFit_cons, ih]
      by_cases hle : W a ≤ W (oD K W p)
      · have hD : oD K W (a :: p) = a := by rw [oD, if_pos (Or.inr ⟨hK, hle⟩)]
        constructor
        · intro h; exact absurd (h.2.1.symm.trans hD) e
        · intro ⟨h1, h2⟩
          rcases h1 with q | q
          · exact absurd q e
          · have h5 := h2.2.1
            rw [h5] at hle
            exact absurd (Int.le_antisymm hm hle) q.1
      · have hD : oD K W (a :: p) = oD K W p := by
          rw [oD, if_neg]
          intro q
          rcases q with q | q
          · exact hp q
          · exact hle q.2
        rw [hD]
        constructor
        · intro ⟨_, h2, h3, h4⟩
          refine ⟨Or.inr ⟨?_, h3⟩, hp, h2, h4⟩
          intro h5
          rw [h2] at hle
          omega
        · intro ⟨h1, _, h2, h4⟩
          rcases h1 with q | q
          · exact absurd q e
          · exact ⟨List.cons_ne_nil _ _, h2, q.2, h4⟩
theorem oFit_l {W : Int → Int} {a : Int} : ∀ {nt p : List Int}, (a :: p).Nodup → (oFit 1 W (a :: p) nt = true ↔ oMl a nt (p.length + 1) ∧ oFit 1 W p (nt.erase a) = true)
  | [], p, _ => by simp [oFit, oMl]
  | n :: ns, p, hn => by
    have hnp := List.nodup_cons.mp hn
    rw [oFit_cons, oMl]
    by_cases hp : p = []
    · have hD : oD 1 W (a :: p) = a := by rw [oD, if_pos (Or.inl hp)]
      rw [hD]
      by_cases e : n = a
      · rw [e, List.erase_cons_head, List.erase_cons_head]
        constructor
        · intro h; exact ⟨Or.inl ⟨rfl, by rw [hp]; rfl⟩, h.2.2⟩
        · intro h; exact ⟨List.cons_ne_nil _ _, rfl, h.2⟩
      · have en : (n :: ns).erase a = n :: ns.erase a := List.erase_cons_tail (by simpa using e)
        rw [en, oFit_cons]
        constructor
        · intro h; exact absurd h.2.1.symm e
        · intro h; exact absurd hp h.2.1
    · have hD : oD 1 W (a :: p) = oD 1 W p := by
        rw [oD, if_neg]
        intro q
        rcases q with q | q
        · exact hp q
        · exact q.1 rfl
      rw [hD]
      by_cases e : n = a
      · constructor
        · intro h
          have h9 := oD_mem (K := 1) (W := W) hp
          rw [h.2.1, e] at h9
          exact absurd h9 hnp.1
        · intro h
          rcases h.1 with q | q
          · exact absurd (List.length_eq_zero_iff.mp (by omega)) hp
          · exact absurd e q.1
      · have ea : (a :: p).erase n = a :: p.erase n := List.erase_cons_tail (by simpa using fun q => e q.symm)
        have en : (n :: ns).erase a = n :: ns.erase a := List.erase_cons_tail (by simpa using e)
        have ih := oFit_l (W := W) (a := a) (nt := ns) (p := p.erase n) (List.nodup_cons.mpr ⟨fun q => hnp.1 (List.mem_of_mem_erase q), hnp.2.erase n⟩)
        have hl : n ∈ p → (p.erase n).length + 1 = p.length := fun hm => by
          rw [List.length_erase_of_mem hm]
          have := List.length_pos_of_mem hm
          omega
        have hb : oD 1 W p = n → n ∈ p := fun q => by rw [← q]; exact oD_mem hp
        rw [ea, en, oFit_cons, ih, Nat.add_sub_cancel]
        constructor
        · intro ⟨_, h2, h3, h4⟩
          rw [hl (hb h2)] at h3
          exact ⟨Or.inr ⟨e, h3⟩, hp, h2, h4⟩
        · intro ⟨h1, _, h2, h4⟩
          rcases h1 with q | q
          · exact absurd q.1 e
          · refine ⟨List.cons_ne_nil _ _, h2, ?_, h4⟩
            rw [hl (hb h2)]; exact q.2
theorem oFit_row {K : Int} {W : Int → Int} {a : Int} {nt p : List Int} (hn : (a :: p).Nodup) (hc : oCan W (a :: p) nt) : oFit K W (a :: p) nt = true ↔ oM K W a nt (p.length + 1) ∧ oFit K W p (nt.erase a) = true := by
  unfold oM
  by_cases hK : K = 1
  · subst hK
    rw [oFit_l hn]
    exact ⟨fun h => ⟨⟨fun _ => h.1, fun q => absurd rfl q⟩, h.2⟩, fun h => ⟨h.1.1 rfl, h.2⟩⟩
  · rw [oFit_e hK hn hc]
    exact ⟨fun h => ⟨⟨fun q => absurd q hK, fun _ => h.1⟩, h.2⟩, fun h => ⟨h.1.2 hK, h.2⟩⟩
theorem oMl_ex {W : Int → Int} : ∀ {nt S : List Int}, S.Nodup → oCan W S nt → S ≠ [] → ∃ a, a ∈ S ∧ oMl a nt S.length
  | [], [], _, _, h => absurd rfl h
  | [], a :: _, _, _, _ => ⟨a, List.mem_cons_self, trivial⟩
  | n :: ns, S, hn, hc, h => by
    by_cases h1 : S.length = 1
    · exact ⟨n, hc.1, Or.inl ⟨rfl, h1⟩⟩
    · have hl := List.length_erase_of_mem hc.1
      have hpos := List.length_pos_of_mem hc.1
      obtain ⟨a, ha, hm⟩ := oMl_ex (nt := ns) (hn.erase n) hc.2.2 (fun q => by
        have h9 := congrArg List.length q
        rw [hl, List.length_nil] at h9
        omega)
      rw [hl] at hm
      exact ⟨a, List.mem_of_mem_erase ha, Or.inr ⟨fun q => by rw [← q] at ha; exact hn.not_mem_erase ha, hm⟩⟩
theorem oM_ex {K : Int} {W : Int → Int} {nt S : List Int} (hn : S.Nodup) (hc : oCan W S nt) (h : S ≠ []) : ∃ a, a ∈ S ∧ oM K W a nt S.length := by
  by_cases hK : K = 1
  · obtain ⟨a, h1, h2⟩ := oMl_ex hn hc h
    exact ⟨a, h1, fun _ => h2, fun q => absurd hK q⟩
  · cases nt with
    | nil =>
      cases S with
      | nil => exact absurd rfl h
      | cons a p => exact ⟨a, List.mem_cons_self, fun q => absurd q hK, fun _ => trivial⟩
    | cons n ns => exact ⟨n, hc.1, fun q => absurd q hK, fun _ => Or.inl rfl⟩
/-- a row as a number -/
def oLv : List Int → Int
  | [] => 0
  | a :: p => a * 10 ^ p.length + oLv p
theorem oLv_in : ∀ {p : List Int}, (∀ t, t ∈ p → 0 ≤ t ∧ t ≤ 9) → 0 ≤ oLv p ∧ oLv p < 10 ^ p.length
  | [], _ => by show (0 : Int) ≤ 0 ∧ (0 : Int) < 10 ^ 0; decide
  | a :: p, h => by
    have ih := oLv_in (p := p) (fun t ht => h t (List.mem_cons_of_mem _ ht))
    have ha := h a List.mem_cons_self
    rw [oLv, List.length_cons, Int.pow_succ]
    have h1 : a * 10 ^ p.length ≤ 9 * 10 ^ p.length := Int.mul_le_mul_of_nonneg_right ha.2 (by omega)
    have h2 : 0 ≤ a * 10 ^ p.length := Int.mul_nonneg ha.1 (by omega)
    generalize (10 : Int) ^ p.length = T at *
    generalize a * T = U at *
    omega
theorem oLv_lt {a b : Int} {p q : List Int} (hab : a < b) (hl : p.length = q.length) (hp : ∀ t, t ∈ p → 0 ≤ t ∧ t ≤ 9) (hq : ∀ t, t ∈ q → 0 ≤ t ∧ t ≤ 9) : oLv (a :: p) < oLv (b :: q) := by
  have h1 := oLv_in hp
  have h2 := oLv_in hq
  rw [oLv, oLv, ← hl]
  rw [← hl] at h2
  have h3 : (a + 1) * 10 ^ p.length ≤ b * 10 ^ p.length := Int.mul_le_mul_of_nonneg_right (by omega) (by omega)
  rw [Int.add_mul, Int.one_mul] at h3
  generalize (10 : Int) ^ p.length = T at *
  generalize a * T = U at *
  generalize b * T = V at *
  omega
/-- each time the least that may stand there -/
def oG (K : Int) (W : Int → Int) : List Int → List Int → List Int → Prop
  | S, _, [] => S = []
  | S, nt, a :: q => a ∈ S ∧ oM K W a nt S.length ∧ (∀ b, b ∈ S → oM K W b nt S.length → a ≤ b) ∧ oG K W (S.erase a) (nt.erase a) q
theorem oG_ok {K : Int} {W : Int → Int} : ∀ {q S nt : List Int}, S.Nodup → (∀ t, t ∈ S → 0 ≤ t ∧ t ≤ 9) → oCan W S nt → oG K W S nt q → List.Perm q S ∧ oFit K W q nt = true ∧ ∀ p, List.Perm p S → oFit K W p nt = true → oLv q ≤ oLv p
  | [], S, nt, _, _, hc, h => by
    have hS : S = [] := h
    subst hS
    cases nt with
    | nil => exact ⟨List.Perm.nil, by rw [oFit], fun p hp _ => by rw [hp.eq_nil]; exact Int.le_refl _⟩
    | cons n ns => exact absurd hc.1 List.not_mem_nil
  | a :: q, S, nt, hn, hd, hc, h => by
    obtain ⟨h1, h2, h3, h4⟩ := h
    obtain ⟨i1, i2, i3⟩ := oG_ok (K := K) (W := W) (q := q) (hn.erase a) (fun t ht => hd t (List.mem_of_mem_erase ht)) hc.erase h4
    have hp : List.Perm (a :: q) S := List.cons_perm_iff_perm_erase.mpr ⟨h1, i1⟩
    have hl : q.length + 1 = S.length := hp.length_eq
    have hR := oFit_row (K := K) (hp.symm.nodup hn) (hc.perm hp.symm)
    refine ⟨hp, hR.mpr ⟨by rw [hl]; exact h2, i2⟩, fun p hpS hf => ?_⟩
    cases p with
    | nil =>
      have h9 := hpS.length_eq
      rw [List.length_nil] at h9
      omega
    | cons b p' =>
      have hR' := (oFit_row (K := K) (hpS.symm.nodup hn) (hc.perm hpS.symm)).mp hf
      have hb := List.cons_perm_iff_perm_erase.mp hpS
      have hl' : p'.length + 1 = S.length := hpS.length_eq
      rw [hl'] at hR'
      have hab := h3 b hb.1 hR'.1
      by_cases e : a = b
      · subst e
        have h9 := i3 p' hb.2 hR'.2
        rw [oLv, oLv, show p'.length = q.length by omega]
        omega
      · have h9 := oLv_lt (a := a) (b := b) (p := q) (q := p') (by omega) (by omega) (fun t ht => hd t (hp.subset (List.mem_cons_of_mem _ ht))) (fun t ht => hd t (hpS.subset (List.mem_cons_of_mem _ ht)))
        omega
