/-! orders: lists by places; the greedy row, step by step (p32 alone) -/
theorem o_memD {L : List Int} {t : Int} : t ∈ L ↔ ∃ i : Int, (0 ≤ i ∧ i < L.length) ∧ L.getD i.toNat 0 = t := by
  constructor
  · intro h
    obtain ⟨i, hi, e⟩ := List.getElem_of_mem h
    refine ⟨(i : Int), ⟨by omega, by omega⟩, ?_⟩
    rw [Int.toNat_natCast, List.getD_eq_getElem?_getD, List.getElem?_eq_getElem hi, e]
    rfl
  · intro ⟨i, hi, e⟩
    rw [← e]
    exact fp_getD_mem (by omega)
theorem o_takeD {L : List Int} {n i : Nat} (h : i < n) : (L.take n).getD i 0 = L.getD i 0 := by
  rw [List.getD_eq_getElem?_getD, List.getD_eq_getElem?_getD, List.getElem?_take_of_lt h]
theorem o_mem_take {L : List Int} {n i : Nat} (h : i < n) (hi : i < L.length) : L.getD i 0 ∈ L.take n := by
  rw [← o_takeD h]
  exact fp_getD_mem (by rw [List.length_take]; omega)
theorem o_inj {L : List Int} {i j : Nat} (hn : L.Nodup) (hi : i < L.length) (hj : j < L.length) (e : L.getD i 0 = L.getD j 0) : i = j := by
  rcases Nat.lt_trichotomy i j with h | h | h
  · have h9 := take_not hn hj
    rw [← e] at h9
    exact absurd (o_mem_take h hi) h9
  · exact h
  · have h9 := take_not hn hi
    rw [e] at h9
    exact absurd (o_mem_take h hj) h9
theorem o_drop {L : List Int} {i : Nat} (h : i < L.length) : L.drop i = L.getD i 0 :: L.drop (i + 1) := by
  rw [List.drop_eq_getElem_cons h, List.getD_eq_getElem?_getD, List.getElem?_eq_getElem h]
  rfl
/-- where a thing stands among those noted -/
def oSpot (nt : List Int) (s t : Int) : Prop := (s = -4 ∧ t ∉ nt) ∨ ((0 ≤ s ∧ s < nt.length) ∧ nt.getD s.toNat 0 = t)
theorem o_ahead {nt : List Int} {s t i : Int} (hn : nt.Nodup) (hs : oSpot nt s t) : (s ≠ -4 ∧ s < i) ↔ t ∈ nt.take i.toNat := by
  rcases hs with ⟨a, b⟩ | ⟨a, b⟩
  · exact ⟨fun q => absurd a q.1, fun q => absurd (List.mem_of_mem_take q) b⟩
  · constructor
    · intro q
      rw [← b]
      exact o_mem_take (by omega) (by omega)
    · intro q
      obtain ⟨j, hj, e⟩ := o_memD.mp q
      rw [List.length_take] at hj
      rw [o_takeD (by omega)] at e
      have h9 := o_inj hn (i := j.toNat) (j := s.toNat) (by omega) (by omega) (by rw [e, b])
      exact ⟨by omega, by omega⟩
theorem oMl_iff {a : Int} : ∀ {nt : List Int} {k : Nat}, nt.Nodup → nt.length ≤ k → (oMl a nt k ↔ a ∉ nt ∨ (nt.length = k ∧ nt.getD (k - 1) 0 = a))
  | [], k, _, _ => by
    rw [oMl]
    exact ⟨fun _ => Or.inl List.not_mem_nil, fun _ => trivial⟩
  | n :: ns, 0, _, hk => by
    rw [List.length_cons] at hk
    omega
  | n :: ns, k + 1, hn, hk => by
    have hnn := List.nodup_cons.mp hn
    rw [List.length_cons] at hk
    have ih := oMl_iff (a := a) (nt := ns) (k := k) hnn.2 (by omega)
    rw [oMl, Nat.add_sub_cancel, ih, List.length_cons, List.mem_cons]
    cases k with
    | zero =>
      have hns : ns = [] := List.length_eq_zero_iff.mp (by omega)
      subst hns
      constructor
      · intro h
        rcases h with h | h
        · exact Or.inr ⟨rfl, h.1⟩
        · exact Or.inl (fun q => q.elim (fun e => h.1 e.symm) List.not_mem_nil)
      · intro h
        rcases h with h | h
        · exact Or.inr ⟨fun e => h (Or.inl e.symm), Or.inl List.not_mem_nil⟩
        · exact Or.inl ⟨h.2, rfl⟩
    | succ j =>
      constructor
      · intro h
        rcases h with h | ⟨h1, h2⟩
        · have h9 := h.2
          omega
        · rcases h2 with h2 | h2
          · exact Or.inl (fun q => q.elim (fun e => h1 e.symm) h2)
          · exact Or.inr ⟨by omega, h2.2⟩
      · intro h
        rcases h with h | ⟨h1, h2⟩
        · exact Or.inr ⟨fun e => h (Or.inl e.symm), Or.inl (fun q => h (Or.inr q))⟩
        · have h3 : ns.getD j 0 = a := h2
          have hm : a ∈ ns := by
            rw [← h3]
            exact fp_getD_mem (by omega)
          exact Or.inr ⟨fun e => hnn.1 (by rw [e]; exact hm), Or.inr ⟨by omega, h3⟩⟩
/-- those that aren't among these -/
def oFq (q l : List Int) : List Int := l.filter (fun n => decide (n ∉ q))
theorem oFq_cons {q l : List Int} {n : Int} : oFq q (n :: l) = if n ∈ q then oFq q l else n :: oFq q l := by
  unfold oFq
  rw [List.filter_cons]
  by_cases h : n ∈ q
  · rw [if_pos h, if_neg (by simpa using h)]
  · rw [if_neg h, if_pos (by simpa using h)]
theorem oFq_nil (l : List Int) : oFq [] l = l := by
  unfold oFq
  exact List.filter_eq_self.mpr (fun a _ => by simp)
theorem oFq_mem {q l : List Int} {t : Int} : t ∈ oFq q l ↔ t ∈ l ∧ t ∉ q := by
  unfold oFq
  rw [List.mem_filter, decide_eq_true_eq]
theorem oFq_erase {q : List Int} {a : Int} : ∀ {l : List Int}, l.Nodup → (oFq q l).erase a = oFq (q ++ [a]) l
  | [], _ => rfl
  | n :: l, hn => by
    have hnn := List.nodup_cons.mp hn
    have ih := oFq_erase (q := q) (a := a) hnn.2
    rw [oFq_cons, oFq_cons]
    by_cases h : n ∈ q
    · rw [if_pos h, if_pos (List.mem_append.mpr (Or.inl h)), ih]
    · rw [if_neg h]
      by_cases e : n = a
      · subst e
        rw [List.erase_cons_head, if_pos (List.mem_append.mpr (Or.inr (List.mem_singleton.mpr rfl))), ← ih]
        exact (List.erase_of_not_mem (fun hm => hnn.1 (oFq_mem.mp hm).1)).symm
      · rw [List.erase_cons_tail (by simpa using e), ih, if_neg]
        intro hm
        rcases List.mem_append.mp hm with q1 | q1
        · exact h q1
        · exact e (List.mem_singleton.mp q1)
theorem o_eraLast {l : List Int} {k : Nat} (h : l.length = k + 1) : l.eraseIdx k = l.take k := by
  rw [List.eraseIdx_eq_take_drop_succ, List.drop_eq_nil_of_le (by omega), List.append_nil]
/-- so far: these stand, those are left, and what is left of what was drawn -/
def oSt (g : aGd) (K : Int) (L nt q S' nt' : List Int) : Prop := (∀ q', oG K (oW g K) S' nt' q' → oG K (oW g K) L nt (q ++ q')) ∧ nt' = oFq q nt ∧ (∀ t, t ∈ S' ↔ t ∈ L ∧ t ∉ q) ∧ S'.Nodup ∧ oCan (oW g K) S' nt' ∧ S'.length + q.length = L.length ∧ (K = 1 → nt' = nt.take S'.length)
theorem oSt.start {g : aGd} {K : Int} {L nt : List Int} (hL : L.Nodup) (hc : oCan (oW g K) L nt) : oSt g K L nt [] L nt := by
  refine ⟨fun q' h => h, (oFq_nil nt).symm, fun t => ⟨fun h => ⟨h, List.not_mem_nil⟩, fun h => h.1⟩, hL, hc, rfl, fun _ => ?_⟩
  exact (List.take_of_length_le hc.len).symm
theorem oSt.step {g : aGd} {K : Int} {L nt q S' nt' : List Int} {a : Int} (hn : nt.Nodup) (h : oSt g K L nt q S' nt') (ha : a ∈ S') (hm : oM K (oW g K) a nt' S'.length) (hmin : ∀ b, b ∈ S' → oM K (oW g K) b nt' S'.length → a ≤ b) : oSt g K L nt (q ++ [a]) (S'.erase a) (nt'.erase a) := by
  obtain ⟨h1, h2, h3, h4, h5, h6, h7⟩ := h
  have hl := List.length_erase_of_mem ha
  have hpos := List.length_pos_of_mem ha
  have hce : oCan (oW g K) (S'.erase a) (nt'.erase a) := h5.erase
  refine ⟨fun q' hq => ?_, ?_, fun t => ?_, h4.erase a, hce, ?_, fun hK => ?_⟩
  · rw [List.append_assoc]
    exact h1 (a :: q') ⟨ha, hm, hmin, hq⟩
  · rw [h2, oFq_erase hn]
  · rw [h4.mem_erase_iff, h3, List.mem_append, List.mem_singleton]
    constructor
    · intro ⟨a1, a2, a3⟩; exact ⟨a2, fun e => e.elim a3 a1⟩
    · intro ⟨a1, a2⟩; exact ⟨fun e => a2 (Or.inr e), a1, fun e => a2 (Or.inl e)⟩
  · rw [hl, List.length_append, List.length_singleton]
    omega
  · have e7 := h7 hK
    have hn' : nt'.Nodup := by rw [e7]; exact hn.sublist (List.take_sublist _ _)
    have hle := h5.len
    have hle2 := hce.len
    rw [hl] at hle2
    have hml := (oMl_iff hn' hle).mp (hm.1 hK)
    have ht : (nt'.take (S'.length - 1)) = nt.take (S'.length - 1) := by
      rw [e7, List.take_take, Nat.min_eq_left (by omega)]
    rw [hl, ← ht]
    rcases hml with q1 | q1
    · rw [List.erase_of_not_mem q1] at hle2 ⊢
      exact (List.take_of_length_le hle2).symm
    · have h9 : nt'.eraseIdx (S'.length - 1) = nt'.erase (nt'.getD (S'.length - 1) 0) := o_era hn' (by omega)
      rw [q1.2] at h9
      rw [← h9]
      exact o_eraLast (by omega)
theorem oSt.fin {g : aGd} {K : Int} {L nt q S' nt' : List Int} (h : oSt g K L nt q S' nt') (hq : q.length = L.length) : oG K (oW g K) L nt q := by
  have hS : S' = [] := List.length_eq_zero_iff.mp (by have := h.2.2.2.2.2.1; omega)
  have h9 := h.1 [] hS
  rw [List.append_nil] at h9
  exact h9
theorem oSt.has {g : aGd} {K : Int} {L nt q S' nt' : List Int} (h : oSt g K L nt q S' nt') (hq : q.length < L.length) : ∃ a, a ∈ S' ∧ oM K (oW g K) a nt' S'.length :=
  oM_ex h.2.2.2.1 h.2.2.2.2.1 (fun e => by have := h.2.2.2.2.2.1; rw [e, List.length_nil] at this; omega)
theorem oSt.stand {g : aGd} {K : Int} {L nt q S' nt' : List Int} {s t : Int} (hn : nt.Nodup) (h : oSt g K L nt q S' nt') (hK : K = 1) (ht : t ∈ S') (hs : oSpot nt s t) : oM K (oW g K) t nt' S'.length ↔ (s = -4 ∨ (q.length : Int) = L.length - 1 - s) := by
  obtain ⟨h1, h2, h3, h4, h5, h6, h7⟩ := h
  have e7 := h7 hK
  have hn' : nt'.Nodup := by rw [e7]; exact hn.sublist (List.take_sublist _ _)
  have hpos := List.length_pos_of_mem ht
  have hM : oM K (oW g K) t nt' S'.length ↔ oMl t nt' S'.length := ⟨fun q => q.1 hK, fun q => ⟨fun _ => q, fun e => absurd hK e⟩⟩
  rw [hM, oMl_iff hn' h5.len]
  rcases hs with ⟨a, b⟩ | ⟨a, b⟩
  · exact ⟨fun _ => Or.inl a, fun _ => Or.inl (fun q => b (by rw [h2] at q; exact (oFq_mem.mp q).1))⟩
  · have hm : t ∈ nt' := by
      rw [h2]
      exact oFq_mem.mpr ⟨by rw [← b]; exact fp_getD_mem (by omega), ((h3 t).mp ht).2⟩
    have hsk := (o_ahead (i := (S'.length : Int)) hn (Or.inr ⟨a, b⟩)).mpr (by rw [Int.toNat_natCast, ← e7]; exact hm)
    have hlen : nt'.length = min S'.length nt.length := by rw [e7, List.length_take]
    have hg9 : nt'.getD (S'.length - 1) 0 = nt.getD (S'.length - 1) 0 := by rw [e7, o_takeD (by omega)]
    constructor
    · intro q1
      rcases q1 with q1 | q1
      · exact absurd hm q1
      · right
        rw [hg9] at q1
        have h9 := o_inj hn (i := S'.length - 1) (j := s.toNat) (by omega) (by omega) (by rw [q1.2, b])
        omega
    · intro q1
      right
      refine ⟨by omega, ?_⟩
      rw [hg9, ← b]
      congr 1
      omega
theorem oSt.stand2 {g : aGd} {K : Int} {L nt q S' nt' : List Int} {t : Int} (h : oSt g K L nt q S' nt') (hK : K ≠ 1) : oM K (oW g K) t nt' S'.length ↔ oMe (oW g K) t (oFq q nt) := by
  rw [h.2.1]
  exact ⟨fun q => q.2 hK, fun q => ⟨fun e => absurd e hK, fun _ => q⟩⟩
/-- so many of the first j -/
def oCk (L : List Int) (f : Int → Bool) (j : Int) : Int := ((L.take j.toNat).countP f : Nat)
theorem oCk_zero (L : List Int) (f : Int → Bool) : oCk L f 0 = 0 := rfl
theorem oCk_in {L : List Int} {f : Int → Bool} {j : Int} (h : 0 ≤ j) : 0 ≤ oCk L f j ∧ oCk L f j ≤ j := by
  unfold oCk
  have h1 := List.countP_le_length (p := f) (l := L.take j.toNat)
  rw [List.length_take] at h1
  omega
theorem oCk_succ {L : List Int} {f : Int → Bool} {j : Int} (h0 : 0 ≤ j) (h1 : j < L.length) : oCk L f (j + 1) = oCk L f j + if f (L.getD j.toNat 0) = true then 1 else 0 := by
  unfold oCk
  have h2 : j.toNat < L.length := by omega
  rw [show (j + 1).toNat = j.toNat + 1 by omega, List.take_add_one, List.getD_eq_getElem?_getD, List.getElem?_eq_getElem h2, List.countP_append]
  show (((L.take j.toNat).countP f + [L[j.toNat]].countP f : Nat) : Int) = _ + if f L[j.toNat] = true then 1 else 0
  rw [List.countP_cons, List.countP_nil]
  split <;> omega
theorem oCk_all {L : List Int} {f : Int → Bool} {j : Int} (h : (L.length : Int) ≤ j) : oCk L f j = (L.countP f : Nat) := by
  unfold oCk
  rw [List.take_of_length_le (by omega)]
theorem fcI_fct : ∀ k : Nat, fcI k = (fct (k + 1) : Nat)
  | 0 => rfl
  | k + 1 => by
    rw [fcI, fcI_fct k, show fct (k + 1 + 1) = (k + 1 + 1) * fct (k + 1) from rfl, Int.natCast_mul, Int.mul_comm]
    congr 1
theorem fct_7 {n : Nat} (h : n ≤ 7) : fct n ≤ 5040 := by
  have q : ∀ n : Nat, n < 8 → fct n ≤ 5040 := by decide +kernel
  exact q n (by omega)
theorem oCt_in {g : aGd} {K : Int} {L nt : List Int} (h : oIn g L) (h7 : L.length ≤ 7) : 0 ≤ oCt g K L nt ∧ oCt g K L nt ≤ 5040 := by
  have h1 : oCt g K L nt ≤ oCt g K L [] := by
    unfold oCt
    have h9 := List.countP_le_length (p := fun p => oFit K (oW g K) p nt) (l := oRows g L)
    rw [List.countP_eq_length (p := fun p => oFit K (oW g K) p []).mpr (fun p _ => by rw [oFit])]
    omega
  rw [h.full] at h1
  have := fct_7 h7
  refine ⟨?_, by omega⟩
  unfold oCt
  omega
theorem oW_in {g : aGd} {K t : Int} (hg : gOk g) (ht : 0 ≤ t ∧ t < g.1) : 0 ≤ oW g K t ∧ oW g K t ≤ 9 := by
  unfold oW
  split
  · exact hg.2.2.2.1 t ht.1 ht.2
  · omega
/-- the bits of those that stand -/
def oPb (pb : Int) (q : List Int) : Prop := (0 ≤ pb ∧ pb < 1024) ∧ ∀ t : Int, 0 ≤ t → t ≤ 9 → (pb.toNat.testBit t.toNat = true ↔ t ∈ q)
theorem oPb_0 : oPb 0 [] := by
  refine ⟨by decide, fun t _ _ => ?_⟩
  rw [show (0 : Int).toNat = 0 from rfl, Nat.zero_testBit]
  exact ⟨fun h => absurd h (by decide), fun h => absurd h List.not_mem_nil⟩
theorem o_pow9 {a : Int} (ha : 0 ≤ a ∧ a ≤ 9) : (1 : Int) ≤ 2 ^ a.toNat ∧ (2 : Int) ^ a.toNat < 2 ^ 10 := by
  have q : ∀ n : Nat, n < 10 → (1 : Int) ≤ 2 ^ n ∧ (2 : Int) ^ n < 2 ^ 10 := by decide +kernel
  exact q a.toNat (by omega)
theorem oPb.add {pb : Int} {q : List Int} {a : Int} (h : oPb pb q) (ha : 0 ≤ a ∧ a ≤ 9) : oPb (fp_or pb (2 ^ a.toNat)) (q ++ [a]) := by
  have hp := o_pow9 ha
  refine ⟨⟨fp_or_nn _ _, ?_⟩, fun t t0 t1 => ?_⟩
  · have h10 : (2 : Int) ^ 10 = 1024 := by decide
    have h9 := fp_or_lt (n := 10) (by rw [h10]; exact h.1.2) hp.2
    rw [h10] at h9
    exact h9
  · have h2 : ((2 : Int) ^ a.toNat).toNat = 2 ^ a.toNat := by
      have h3 : ((2 ^ a.toNat : Nat) : Int) = 2 ^ a.toNat := by simp
      rw [← h3, Int.toNat_natCast]
    unfold fp_or
    rw [Int.toNat_natCast, Nat.testBit_or, h2, Nat.testBit_two_pow, Bool.or_eq_true, h.2 t t0 t1, decide_eq_true_eq, List.mem_append, List.mem_singleton]
    constructor
    · intro e
      rcases e with e | e
      · exact Or.inl e
      · exact Or.inr (by omega)
    · intro e
      rcases e with e | e
      · exact Or.inl e
      · exact Or.inr (by rw [e])
