/-! orders: the bank's words for it (p32 alone) -/
def oW (g : aGd) (K t : Int) : Int := if K = 2 then g.2.2.2.1 t else 0
theorem oW_one {g : aGd} {K : Int} (h : K = 1) (t u : Int) : oW g K t ≤ oW g K u := by
  unfold oW
  rw [if_neg (by omega), if_neg (by omega)]
  exact Int.le_refl _
theorem fp_am_shift (w : Int → Int) : ∀ n : Nat, fp_am w (n + 1) = if w 0 ≤ w (fp_am (fun i => w (i + 1)) n + 1) then 0 else fp_am (fun i => w (i + 1)) n + 1
  | 0 => by
    have e1 : fp_am w (0 + 1) = if w (0 + 1) < w 0 then 0 + 1 else 0 := rfl
    have e2 : fp_am (fun i => w (i + 1)) 0 = 0 := rfl
    rw [e1, e2]
    by_cases h : w (0 + 1) < w 0
    · rw [if_pos h, if_neg (by omega)]
    · rw [if_neg h, if_pos (by omega)]
  | n + 1 => by
    have ih := fp_am_shift w n
    have e1 : fp_am w (n + 1 + 1) = if w ((n : Int) + 1 + 1) < w (fp_am w (n + 1)) then (n : Int) + 1 + 1 else fp_am w (n + 1) := by
      rw [fp_am, show ((n + 1 : Nat) : Int) = (n : Int) + 1 by omega]
    have e2 : fp_am (fun i => w (i + 1)) (n + 1) = if w ((n : Int) + 1 + 1) < w (fp_am (fun i => w (i + 1)) n + 1) then (n : Int) + 1 else fp_am (fun i => w (i + 1)) n := by rw [fp_am]
    rw [e1, e2, ih]
    generalize fp_am (fun i => w (i + 1)) n = s
    generalize hN : (n : Int) + 1 = N
    by_cases h1 : w 0 ≤ w (s + 1)
    · rw [if_pos h1]
      by_cases h2 : w (N + 1) < w (s + 1)
      · rw [if_pos h2]
        by_cases h3 : w (N + 1) < w 0
        · rw [if_pos h3, if_neg (by omega)]
        · rw [if_neg h3, if_pos (by omega)]
      · rw [if_neg h2, if_neg (by omega), if_pos h1]
    · rw [if_neg h1]
      by_cases h2 : w (N + 1) < w (s + 1)
      · rw [if_pos h2, if_pos h2, if_neg (by omega)]
      · rw [if_neg h2, if_neg h2, if_neg h1]
theorem aSel_cons {g : aGd} {K a : Int} {p : List Int} (hK : 0 ≤ K ∧ K ≤ 2) (hp : p ≠ []) : aSel g (a :: p) K = if K ≠ 1 ∧ oW g K a ≤ oW g K (p.getD (aSel g p K).toNat 0) then 0 else aSel g p K + 1 := by
  have hl : 0 < p.length := List.length_pos_iff.mpr hp
  have h9 := aSel_in (g := g) (kind := K) hp
  rcases (show K = 0 ∨ K = 1 ∨ K = 2 by omega) with e | e | e
  · subst e
    have hw : ∀ t, oW g 0 t = 0 := fun t => by unfold oW; rw [if_neg (by decide)]
    rw [hw, hw, if_pos ⟨by decide, Int.le_refl _⟩]
    unfold aSel fp_giv
    rw [if_pos rfl]
  · subst e
    rw [if_neg (fun q => q.1 rfl)]
    unfold aSel fp_giv
    rw [if_neg (by decide), if_pos rfl, if_neg (by decide), if_pos rfl, List.length_cons]
    omega
  · subst e
    have hw : ∀ t, oW g 2 t = g.2.2.2.1 t := fun t => by unfold oW; rw [if_pos rfl]
    obtain ⟨n, hn⟩ : ∃ n : Nat, p.length = n + 1 := ⟨p.length - 1, by omega⟩
    have e1 : aSel g p 2 = fp_am (fun i => g.2.2.2.1 (p.getD i.toNat 0)) n := by
      unfold aSel fp_giv
      rw [if_neg (by decide), if_neg (by decide), hn, show (((n + 1 : Nat) : Int) - 1).toNat = n by omega]
    have e2 : aSel g (a :: p) 2 = fp_am (fun i => g.2.2.2.1 ((a :: p).getD i.toNat 0)) (n + 1) := by
      unfold aSel fp_giv
      rw [if_neg (by decide), if_neg (by decide), List.length_cons, hn, show (((n + 1 + 1 : Nat) : Int) - 1).toNat = n + 1 by omega]
    have e3 : ∀ i : Int, 0 ≤ i → (a :: p).getD (i + 1).toNat 0 = p.getD i.toNat 0 := fun i hi => by
      rw [show (i + 1).toNat = i.toNat + 1 by omega]
      rfl
    have e4 : fp_am (fun i => g.2.2.2.1 ((a :: p).getD (i + 1).toNat 0)) n = aSel g p 2 := by
      rw [e1]
      exact fp_am_congr n (fun i i0 _ => by rw [e3 i i0])
    rw [e2, fp_am_shift, e4, e3 _ h9.1, hw, hw]
    have e5 : g.2.2.2.1 ((a :: p).getD (0 : Int).toNat 0) = g.2.2.2.1 a := rfl
    rw [e5]
    by_cases h : g.2.2.2.1 a ≤ g.2.2.2.1 (p.getD (aSel g p 2).toNat 0)
    · rw [if_pos h, if_pos ⟨by decide, h⟩]
    · rw [if_neg h, if_neg (fun q => h q.2)]
theorem oD_sel {g : aGd} {K : Int} (hK : 0 ≤ K ∧ K ≤ 2) : ∀ {L : List Int}, L ≠ [] → L.getD (aSel g L K).toNat 0 = oD K (oW g K) L
  | [], h => absurd rfl h
  | a :: p, h => by
    rw [oD]
    by_cases hp : p = []
    · have h9 := aSel_in (g := g) (kind := K) h
      rw [hp, List.length_cons, List.length_nil] at h9
      rw [hp] at ⊢
      rw [if_pos (Or.inl rfl), show (aSel g [a] K).toNat = 0 by omega]
      rfl
    · have ih := oD_sel (g := g) hK hp
      have h9 := aSel_in (g := g) (kind := K) hp
      rw [aSel_cons hK hp, ih]
      by_cases c : K ≠ 1 ∧ oW g K a ≤ oW g K (oD K (oW g K) p)
      · rw [if_pos c, if_pos (Or.inr c)]
        rfl
      · rw [if_neg c, if_neg (fun q => q.elim hp c), show (aSel g p K + 1).toNat = (aSel g p K).toNat + 1 by omega, ← ih]
        rfl
theorem o_era : ∀ {L : List Int} {i : Nat}, L.Nodup → i < L.length → L.eraseIdx i = L.erase (L.getD i 0)
  | [], i, _, h => absurd h (Nat.not_lt_zero _)
  | a :: p, 0, _, _ => by
    show p = (a :: p).erase a
    rw [List.erase_cons_head]
  | a :: p, i + 1, hn, h => by
    have hnp := List.nodup_cons.mp hn
    have hi : i < p.length := by rw [List.length_cons] at h; omega
    have hne : a ≠ p.getD i 0 := fun q => hnp.1 (by rw [q]; exact fp_getD_mem hi)
    show a :: p.eraseIdx i = (a :: p).erase (p.getD i 0)
    rw [List.erase_cons_tail (by simpa using hne), o_era hnp.2 hi]
/-- by places: which could, as the class asks -/
def oCanI (W : Int → Int) (S nt : List Int) : Prop := ∀ i : Nat, i < nt.length → nt.getD i 0 ∈ S ∧ ∀ x, x ∈ S → x ∉ nt.take i → W (nt.getD i 0) ≤ W x
theorem oCan_iff {W : Int → Int} : ∀ {nt S : List Int}, S.Nodup → nt.Nodup → (oCan W S nt ↔ oCanI W S nt)
  | [], S, _, _ => ⟨fun _ i hi => absurd hi (Nat.not_lt_zero _), fun _ => trivial⟩
  | n :: ns, S, hS, hn => by
    have hnn := List.nodup_cons.mp hn
    have ih := oCan_iff (W := W) (hS.erase n) hnn.2
    constructor
    · intro ⟨h1, h2, h3⟩ i hi
      cases i with
      | zero => exact ⟨h1, fun x hx _ => h2 x hx⟩
      | succ i =>
        have h9 := ih.mp h3 i (by rw [List.length_cons] at hi; omega)
        refine ⟨List.mem_of_mem_erase h9.1, fun x hx hnt => ?_⟩
        rw [List.take_succ_cons, List.mem_cons] at hnt
        exact h9.2 x (hS.mem_erase_iff.mpr ⟨fun q => hnt (Or.inl q), hx⟩) (fun q => hnt (Or.inr q))
    · intro h
      have h0 := h 0 (by rw [List.length_cons]; omega)
      refine ⟨h0.1, fun x hx => h0.2 x hx (by rw [List.take_zero]; exact List.not_mem_nil), ih.mpr (fun i hi => ?_)⟩
      have h9 := h (i + 1) (by rw [List.length_cons]; omega)
      have hne : ns.getD i 0 ≠ n := fun q => hnn.1 (by rw [← q]; exact fp_getD_mem hi)
      refine ⟨hS.mem_erase_iff.mpr ⟨hne, h9.1⟩, fun x hx hnt => ?_⟩
      have hx' := hS.mem_erase_iff.mp hx
      exact h9.2 x hx'.2 (by rw [List.take_succ_cons, List.mem_cons]; exact fun q => q.elim hx'.1 hnt)
/-- what lies there, in the order of numbers -/
def oS (L : List Int) : Nat → List Int
  | 0 => []
  | k + 1 => if (k : Int) ∈ L then oS L k ++ [(k : Int)] else oS L k
theorem oS_mem {L : List Int} {t : Int} : ∀ k : Nat, t ∈ oS L k ↔ (0 ≤ t ∧ t < k) ∧ t ∈ L
  | 0 => by
    rw [oS]
    exact ⟨fun h => absurd h List.not_mem_nil, fun h => by have := h.1; omega⟩
  | k + 1 => by
    have ih := oS_mem (L := L) (t := t) k
    rw [oS]
    split
    · rename_i hk
      rw [List.mem_append, ih, List.mem_singleton]
      constructor
      · intro h
        rcases h with h | h
        · exact ⟨by have := h.1; omega, h.2⟩
        · exact ⟨by omega, by rw [h]; exact hk⟩
      · intro h
        by_cases e : t = (k : Int)
        · exact Or.inr e
        · exact Or.inl ⟨by have := h.1; omega, h.2⟩
    · rename_i hk
      rw [ih]
      constructor
      · intro h; exact ⟨by have := h.1; omega, h.2⟩
      · intro h
        refine ⟨?_, h.2⟩
        have h1 := h.1
        have h2 : t ≠ (k : Int) := fun q => hk (by rw [← q]; exact h.2)
        omega
theorem oS_sorted {L : List Int} : ∀ k : Nat, (oS L k).Pairwise (fun a b => a < b)
  | 0 => by rw [oS]; exact List.Pairwise.nil
  | k + 1 => by
    rw [oS]
    split
    · refine List.pairwise_append.mpr ⟨oS_sorted k, List.pairwise_singleton _ _, fun a ha b hb => ?_⟩
      rw [List.mem_singleton] at hb
      have := ((oS_mem k).mp ha).1
      omega
    · exact oS_sorted k
theorem oS_nodup {L : List Int} (k : Nat) : (oS L k).Nodup := (oS_sorted k).imp (fun {a b} h e => by omega)
theorem oS_perm {L : List Int} {k : Nat} (hn : L.Nodup) (hb : ∀ t, t ∈ L → 0 ≤ t ∧ t < k) : List.Perm (oS L k) L := (List.perm_ext_iff_of_nodup (oS_nodup k) hn).mpr (fun t => by rw [oS_mem]; exact ⟨fun h => h.2, fun h => ⟨hb t h, h⟩⟩)
def oRows (g : aGd) (L : List Int) : List (List Int) := pm L.length (oS L g.1.toNat)
def oCt (g : aGd) (K : Int) (L nt : List Int) : Int := ((oRows g L).countP (fun p => oFit K (oW g K) p nt) : Nat)
def oAt (g : aGd) (K : Int) (L nt : List Int) (i : Int) : Int := match (oRows g L).find? (fun p => oFit K (oW g K) p nt) with
  | none => -4
  | some p => if i < L.length then p.getD i.toNat 0 else -4
def A_orders (g : aGd) (pg : aPg) (nt : List Int) (x w : Int) : Int := if (0 ≤ x ∧ x < g.2.1) ∧ (w = 0 ∨ (10 ≤ w ∧ w < 18)) then (if 7 < ((pg.2.2 x).length : Int) then -2 else if w = 0 then oCt g (g.2.2.2.2.2 x) (pg.2.2 x) nt else oAt g (g.2.2.2.2.2 x) (pg.2.2 x) nt (w - 10)) else -1
section OBK
variable {g : aGd} {K : Int} {L nt : List Int}
def oIn (g : aGd) (L : List Int) : Prop := L.Nodup ∧ (∀ t, t ∈ L → 0 ≤ t ∧ t < g.1) ∧ g.1 ≤ 10
theorem oIn.sp (h : oIn g L) : List.Perm (oS L g.1.toNat) L := oS_perm h.1 (fun t ht => by have := h.2.1 t ht; omega)
theorem oIn.d9 (h : oIn g L) : ∀ t, t ∈ oS L g.1.toNat → 0 ≤ t ∧ t ≤ 9 := fun t ht => by
  have h1 := ((oS_mem _).mp ht).1
  have h2 := h.2.2
  omega
theorem oIn.mem (h : oIn g L) (p : List Int) : p ∈ oRows g L ↔ List.Perm p L := by
  unfold oRows
  rw [pm_mem h.sp.length_eq]
  exact ⟨fun q => q.trans h.sp, fun q => q.trans h.sp.symm⟩
theorem oIn.sorted (h : oIn g L) : (oRows g L).Pairwise (fun p q => p.length = q.length ∧ oLv p < oLv q) := pm_sorted h.sp.length_eq (oS_sorted _) h.d9
theorem oIn.nodup (h : oIn g L) : (oRows g L).Nodup := pm_nodup h.sp.length_eq (oS_sorted _) h.d9
theorem oIn.full (h : oIn g L) : oCt g K L [] = fct L.length := by
  unfold oCt
  rw [List.countP_eq_length.mpr (fun p _ => by rw [oFit])]
  unfold oRows
  rw [pm_len h.sp.length_eq]
theorem oIn.step (h : oIn g L) (hc : oCanI (oW g K) L nt) (hn : nt.Nodup) {i : Nat} (hi : i < nt.length) : oCt g K L (nt.take i) = (L.countP (fun t => decide (t ∉ nt.take i ∧ oW g K t = oW g K (nt.getD i 0))) : Nat) * oCt g K L (nt.take (i + 1)) ∧ 0 < L.countP (fun t => decide (t ∉ nt.take i ∧ oW g K t = oW g K (nt.getD i 0))) := by
  have h1 := hc i hi
  have e : nt.take (i + 1) = nt.take i ++ [nt.getD i 0] := by
    rw [List.take_add_one, List.getD_eq_getElem?_getD, List.getElem?_eq_getElem hi]
    rfl
  have hnn : nt.getD i 0 ∉ nt.take i := by
    have h9 : (nt.take (i + 1)).Nodup := hn.sublist (List.take_sublist _ _)
    rw [e, List.nodup_append] at h9
    exact fun q => h9.2.2 _ q _ (List.mem_singleton.mpr rfl) rfl
  refine ⟨?_, List.countP_pos_iff.mpr ⟨nt.getD i 0, h1.1, by rw [decide_eq_true_eq]; exact ⟨hnn, rfl⟩⟩⟩
  unfold oCt
  rw [e, o_step (fun q => oW_one q) h.nodup h.mem h.1 h1.1 hnn h1.2]
  exact Int.natCast_mul _ _
theorem oIn.none (h : oIn g L) (hc : ¬ oCan (oW g K) L nt) : ∀ p, p ∈ oRows g L → ¬ oFit K (oW g K) p nt = true := fun p hp hf => hc ((oFit_can (fun q => oW_one q) hf).perm ((h.mem p).mp hp))
theorem oIn.none_ct (h : oIn g L) (hc : ¬ oCan (oW g K) L nt) : oCt g K L nt = 0 := by
  unfold oCt
  rw [List.countP_eq_zero.mpr (h.none hc)]
  rfl
theorem oIn.none_at (h : oIn g L) (hc : ¬ oCan (oW g K) L nt) (i : Int) : oAt g K L nt i = -4 := by
  unfold oAt
  rw [List.find?_eq_none.mpr (h.none hc)]
theorem o_find {f : List Int → Bool} {P : List (List Int)} {q : List Int} (hs : P.Pairwise (fun p q => p.length = q.length ∧ oLv p < oLv q)) (hq : q ∈ P) (hf : f q = true) (hl : ∀ p, p ∈ P → f p = true → oLv q ≤ oLv p) : P.find? f = some q := by
  cases e : P.find? f with
  | none => exact absurd hf (List.find?_eq_none.mp e q hq)
  | some p =>
    obtain ⟨h1, d, r, h2, h3⟩ := List.find?_eq_some_iff_append.mp e
    rw [h2] at hs hq
    have h4 := hl p (by rw [h2]; exact List.mem_append.mpr (Or.inr List.mem_cons_self)) h1
    rcases List.mem_append.mp hq with q1 | q1
    · have h5 := h3 q q1
      rw [hf] at h5
      cases h5
    · rcases List.mem_cons.mp q1 with q2 | q2
      · rw [q2]
      · have h6 := (List.pairwise_cons.mp (List.pairwise_append.mp hs).2.1).1 q q2
        omega
theorem oIn.first (h : oIn g L) (hc : oCan (oW g K) L nt) {q : List Int} (hq : oG K (oW g K) L nt q) (i : Int) : oAt g K L nt i = if i < L.length then q.getD i.toNat 0 else -4 := by
  obtain ⟨h1, h2, h3⟩ := oG_ok h.1 (fun t ht => by have a := h.2.1 t ht; have b := h.2.2; omega) hc hq
  unfold oAt
  rw [o_find h.sorted ((h.mem q).mpr h1) h2 (fun p hp hf => h3 p ((h.mem p).mp hp) hf)]
end OBK
