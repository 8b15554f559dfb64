/-! orders: the next row, exactly (p32 alone) -/
def sg (f : Nat → Int) : Nat → Nat → List Int
  | _, 0 => []
  | a, n + 1 => f a :: sg f (a + 1) n
theorem sg_len {f : Nat → Int} : ∀ {n a : Nat}, (sg f a n).length = n
  | 0, _ => rfl
  | n + 1, a => by rw [sg, List.length_cons, sg_len]
theorem sg_mem {f : Nat → Int} {t : Int} : ∀ {n a : Nat}, t ∈ sg f a n ↔ ∃ k : Nat, (a ≤ k ∧ k < a + n) ∧ f k = t
  | 0, a => by
    rw [sg]
    exact ⟨fun h => absurd h List.not_mem_nil, fun ⟨k, hk, _⟩ => by omega⟩
  | n + 1, a => by
    rw [sg, List.mem_cons, sg_mem]
    constructor
    · intro h
      rcases h with h | ⟨k, hk, e⟩
      · exact ⟨a, by omega, h.symm⟩
      · exact ⟨k, by omega, e⟩
    · intro ⟨k, hk, e⟩
      by_cases q : k = a
      · rw [q] at e; exact Or.inl e.symm
      · exact Or.inr ⟨k, by omega, e⟩
theorem sg_pw {f : Nat → Int} {R : Int → Int → Prop} : ∀ {n a : Nat}, (∀ u v : Nat, a ≤ u → u < v → v < a + n → R (f u) (f v)) → (sg f a n).Pairwise R
  | 0, a, _ => by rw [sg]; exact List.Pairwise.nil
  | n + 1, a, h => by
    rw [sg]
    refine List.pairwise_cons.mpr ⟨fun t ht => ?_, sg_pw (fun u v h1 h2 h3 => h u v (by omega) h2 (by omega))⟩
    obtain ⟨k, hk, e⟩ := sg_mem.mp ht
    rw [← e]
    exact h a k (Nat.le_refl _) (by omega) (by omega)
theorem sg_app {f : Nat → Int} {m : Nat} : ∀ {n a : Nat}, sg f a (n + m) = sg f a n ++ sg f (a + n) m
  | 0, a => by rw [Nat.zero_add, sg, List.nil_append, Nat.add_zero]
  | n + 1, a => by rw [Nat.succ_add, sg, sg, List.cons_append, sg_app, show a + 1 + n = a + (n + 1) by omega]
theorem sg_congr {f h : Nat → Int} : ∀ {n a : Nat}, (∀ k : Nat, a ≤ k → k < a + n → f k = h k) → sg f a n = sg h a n
  | 0, _, _ => rfl
  | n + 1, a, e => by rw [sg, sg, e a (Nat.le_refl _) (by omega), sg_congr (fun k h1 h2 => e k (by omega) (by omega))]
theorem sg_getD {f : Nat → Int} : ∀ {n a i : Nat}, i < n → (sg f a n).getD i 0 = f (a + i)
  | 0, _, _, h => by omega
  | n + 1, a, 0, _ => rfl
  | n + 1, a, i + 1, h => by
    rw [sg]
    show (sg f (a + 1) n).getD i 0 = _
    rw [sg_getD (by omega), show a + 1 + i = a + (i + 1) by omega]
theorem rOk_d9 {f : Nat → Int} {m : Int} (h : rOk f m) : ∀ t, t ∈ sg f 0 m.toNat → 0 ≤ t ∧ t ≤ 9 := fun t ht => by
  obtain ⟨k, hk, e⟩ := sg_mem.mp ht
  rw [← e]
  exact h.1 k (by omega)
theorem rOk_nd {f : Nat → Int} {m : Int} (h : rOk f m) : (sg f 0 m.toNat).Nodup := sg_pw (fun u v _ h2 h3 => h.2 u v (by omega) (by omega) (by omega))
theorem rOk_of {f : Nat → Int} {m : Int} (h1 : ∀ t, t ∈ sg f 0 m.toNat → 0 ≤ t ∧ t ≤ 9) (h2 : (sg f 0 m.toNat).Nodup) : rOk f m := by
  refine ⟨fun k hk => h1 _ (sg_mem.mpr ⟨k, by omega, rfl⟩), fun u v hu hv huv e => huv ?_⟩
  have e1 : (sg f 0 m.toNat).getD u 0 = f u := by rw [sg_getD (by omega), Nat.zero_add]
  have e2 : (sg f 0 m.toNat).getD v 0 = f v := by rw [sg_getD (by omega), Nat.zero_add]
  exact o_inj h2 (by rw [sg_len]; omega) (by rw [sg_len]; omega) (by rw [e1, e2, e])
/-- the greatest row falls, the least one rises -/
theorem lx_max : ∀ {d q : List Int}, (∀ t, t ∈ d → 0 ≤ t ∧ t ≤ 9) → d.Pairwise (fun a b => b < a) → List.Perm q d → oLv q ≤ oLv d
  | [], q, _, _, h => by rw [h.eq_nil]; exact Int.le_refl _
  | a :: d, [], _, _, h => by
    have h9 := h.length_eq
    rw [List.length_nil, List.length_cons] at h9
    omega
  | a :: d, b :: q, hd, hp, h => by
    have hpc := List.pairwise_cons.mp hp
    have hl : q.length = d.length := by
      have h9 := h.length_eq
      rw [List.length_cons, List.length_cons] at h9
      omega
    by_cases e : b = a
    · subst e
      have ih := lx_max (fun t ht => hd t (List.mem_cons_of_mem _ ht)) hpc.2 h.cons_inv
      rw [oLv, oLv, hl]
      omega
    · have hb : b ∈ d := (List.mem_cons.mp (h.subset List.mem_cons_self)).resolve_left e
      have h9 := oLv_lt (hpc.1 b hb) hl (fun t ht => hd t (h.subset (List.mem_cons_of_mem _ ht))) (fun t ht => hd t (List.mem_cons_of_mem _ ht))
      omega
theorem lx_min : ∀ {d q : List Int}, (∀ t, t ∈ d → 0 ≤ t ∧ t ≤ 9) → d.Pairwise (fun a b => a < b) → List.Perm q d → oLv d ≤ oLv q
  | [], q, _, _, h => by rw [h.eq_nil]; exact Int.le_refl _
  | a :: d, [], _, _, h => by
    have h9 := h.length_eq
    rw [List.length_nil, List.length_cons] at h9
    omega
  | a :: d, b :: q, hd, hp, h => by
    have hpc := List.pairwise_cons.mp hp
    have hl : q.length = d.length := by
      have h9 := h.length_eq
      rw [List.length_cons, List.length_cons] at h9
      omega
    by_cases e : b = a
    · subst e
      have ih := lx_min (fun t ht => hd t (List.mem_cons_of_mem _ ht)) hpc.2 h.cons_inv
      rw [oLv, oLv, hl]
      omega
    · have hb : b ∈ d := (List.mem_cons.mp (h.subset List.mem_cons_self)).resolve_left e
      have h9 := oLv_lt (hpc.1 b hb) hl.symm (fun t ht => hd t (List.mem_cons_of_mem _ ht)) (fun t ht => hd t (h.subset (List.mem_cons_of_mem _ ht)))
      omega
theorem lx_nxt {x y : Int} {d e : List Int} (hde : d.Pairwise (fun a b => b < a)) (hy : y ∈ d) (hxy : x < y) (hmin : ∀ z, z ∈ d → x < z → y ≤ z) (he : e.Pairwise (fun a b => a < b)) (hp : List.Perm (y :: e) (x :: d)) : ∀ {u q : List Int}, (∀ t, t ∈ u ++ x :: d → 0 ≤ t ∧ t ≤ 9) → List.Perm q (u ++ x :: d) → oLv q ≤ oLv (u ++ x :: d) ∨ oLv (u ++ y :: e) ≤ oLv q
  | [], [], _, h => by
    have h9 := h.length_eq
    rw [List.nil_append, List.length_nil, List.length_cons] at h9
    omega
  | [], b :: q, hd, h => by
    rw [List.nil_append] at h hd ⊢
    rw [List.nil_append]
    have hl : q.length = d.length := by
      have h9 := h.length_eq
      rw [List.length_cons, List.length_cons] at h9
      omega
    have hle : e.length = d.length := by
      have h9 := hp.length_eq
      rw [List.length_cons, List.length_cons] at h9
      omega
    have hdq : ∀ t, t ∈ q → 0 ≤ t ∧ t ≤ 9 := fun t ht => hd t (h.subset (List.mem_cons_of_mem _ ht))
    have hdd : ∀ t, t ∈ d → 0 ≤ t ∧ t ≤ 9 := fun t ht => hd t (List.mem_cons_of_mem _ ht)
    have hdee : ∀ t, t ∈ e → 0 ≤ t ∧ t ≤ 9 := fun t ht => hd t (hp.subset (List.mem_cons_of_mem _ ht))
    rcases Int.lt_trichotomy b x with c | c | c
    · left
      have h9 := oLv_lt c hl hdq hdd
      omega
    · left
      subst c
      have h9 := lx_max hdd hde h.cons_inv
      rw [oLv, oLv, hl]
      omega
    · right
      have hb : b ∈ d := (List.mem_cons.mp (h.subset List.mem_cons_self)).resolve_left (by omega)
      have hyb := hmin b hb c
      by_cases e2 : y = b
      · subst e2
        have h9 := lx_min hdee he (h.trans hp.symm).cons_inv
        rw [oLv, oLv, hl, hle]
        omega
      · have h9 := oLv_lt (show y < b by omega) (hle.trans hl.symm) hdee hdq
        omega
  | a :: u, [], _, h => by
    have h9 := h.length_eq
    rw [List.cons_append, List.length_nil, List.length_cons] at h9
    omega
  | a :: u, b :: q, hd, h => by
    rw [List.cons_append] at h hd ⊢
    rw [List.cons_append]
    have hl : q.length = (u ++ x :: d).length := by
      have h9 := h.length_eq
      rw [List.length_cons, List.length_cons] at h9
      omega
    have hle : (u ++ y :: e).length = (u ++ x :: d).length := by
      rw [List.length_append, List.length_append, hp.length_eq]
    have hdq : ∀ t, t ∈ q → 0 ≤ t ∧ t ≤ 9 := fun t ht => hd t (h.subset (List.mem_cons_of_mem _ ht))
    have hdu : ∀ t, t ∈ u ++ x :: d → 0 ≤ t ∧ t ≤ 9 := fun t ht => hd t (List.mem_cons_of_mem _ ht)
    have hdy : ∀ t, t ∈ u ++ y :: e → 0 ≤ t ∧ t ≤ 9 := fun t ht => hdu t (by
      rcases List.mem_append.mp ht with q1 | q1
      · exact List.mem_append.mpr (Or.inl q1)
      · exact List.mem_append.mpr (Or.inr (hp.subset q1)))
    rcases Int.lt_trichotomy b a with c | c | c
    · left
      have h9 := oLv_lt c hl hdq hdu
      omega
    · subst c
      have ih := lx_nxt hde hy hxy hmin he hp hdu h.cons_inv
      rw [oLv, oLv, oLv, hl, hle]
      omega
    · right
      have h9 := oLv_lt c (hle.trans hl.symm) hdy hdq
      omega
theorem oLv_app {p q : List Int} (hl : p.length = q.length) (h : oLv p < oLv q) : ∀ u : List Int, oLv (u ++ p) < oLv (u ++ q)
  | [] => h
  | a :: u => by
    have ih := oLv_app hl h u
    rw [List.cons_append, List.cons_append, oLv, oLv, List.length_append, List.length_append, hl]
    omega
/-- what the next row is -/
def nxP (M N : fp_Mem) (m z : Int) : Prop := (∀ c, c ≠ 194 → N c = M c) ∧ ((z = 0 ∧ ∀ q, List.Perm q (sg (M 194) 0 m.toNat) → oLv q ≤ oLv (sg (M 194) 0 m.toNat)) ∨ (z = 1 ∧ rOk (N 194) m ∧ List.Perm (sg (N 194) 0 m.toNat) (sg (M 194) 0 m.toNat) ∧ oLv (sg (M 194) 0 m.toNat) < oLv (sg (N 194) 0 m.toNat) ∧ ∀ q, List.Perm q (sg (M 194) 0 m.toNat) → oLv q ≤ oLv (sg (M 194) 0 m.toNat) ∨ oLv (sg (N 194) 0 m.toNat) ≤ oLv q))
def swp (f : Nat → Int) (i j : Nat) : Nat → Int := fp_upf (fp_upf f i (f j)) j (f i)
theorem swp_k (f : Nat → Int) (i j k : Nat) : swp f i j k = f (if k = j then i else if k = i then j else k) := by
  unfold swp fp_upf
  by_cases h1 : k = j
  · rw [if_pos h1, if_pos h1]
  · rw [if_neg h1, if_neg h1]
    by_cases h2 : k = i
    · rw [if_pos h2, if_pos h2]
    · rw [if_neg h2, if_neg h2]
theorem nx_fin {M N : fp_Mem} {m i j : Int} (hm : 0 ≤ m ∧ m ≤ 8) (hM : rOk (M 194) m) (hi : 0 ≤ i ∧ i < j ∧ j < m) (hdec : ∀ u v : Nat, i < u → u < v → (v : Int) < m → M 194 v < M 194 u) (hij : M 194 i.toNat < M 194 j.toNat) (hj : ∀ k : Nat, j < k → (k : Int) < m → M 194 k < M 194 i.toNat) (hf : ∀ c, c ≠ 194 → N c = M c)
    (hN : ∀ k : Nat, (k : Int) < m → N 194 k = if i < k then swp (M 194) i.toNat j.toNat (i + m - k).toNat else swp (M 194) i.toNat j.toNat k) : nxP M N m 1 := by
  obtain ⟨i', rfl⟩ : ∃ i' : Nat, i = (i' : Int) := ⟨i.toNat, by omega⟩
  obtain ⟨j', rfl⟩ : ∃ j' : Nat, j = (j' : Int) := ⟨j.toNat, by omega⟩
  obtain ⟨m', rfl⟩ : ∃ m' : Nat, m = (m' : Int) := ⟨m.toNat, by omega⟩
  simp only [Int.toNat_natCast] at hij hj hN
  generalize hF : M 194 = f at *
  obtain ⟨n, hn⟩ : ∃ n : Nat, m' = i' + (n + 1) := ⟨m' - i' - 1, by omega⟩
  have hlo : ∀ k : Nat, k < i' → N 194 k = f k := fun k hk => by
    rw [hN k (by omega), if_neg (by omega), swp_k, if_neg (by omega), if_neg (by omega)]
  have hat : N 194 i' = f j' := by
    rw [hN i' (by omega), if_neg (by omega), swp_k, if_neg (by omega), if_pos rfl]
  have hhi : ∀ k : Nat, i' < k → k < m' → N 194 k = f (if i' + m' - k = j' then i' else i' + m' - k) := fun k h1 h2 => by
    rw [hN k (by omega), if_pos (by omega), show ((i' : Int) + (m' : Int) - (k : Int)).toNat = i' + m' - k by omega, swp_k]
    by_cases e : i' + m' - k = j'
    · rw [if_pos e, if_pos e]
    · rw [if_neg e, if_neg e, if_neg (by omega)]
  have eM : sg f 0 m' = sg f 0 i' ++ f i' :: sg f (i' + 1) n := by
    rw [hn, sg_app, Nat.zero_add]
    rfl
  have eN : sg (N 194) 0 m' = sg f 0 i' ++ f j' :: sg (N 194) (i' + 1) n := by
    rw [hn, sg_app, Nat.zero_add, sg_congr (h := f) (fun k _ h2 => hlo k (by omega))]
    show _ ++ N 194 i' :: _ = _
    rw [hat]
  have hdm : ∀ t, t ∈ sg f (i' + 1) n ↔ ∃ k : Nat, (i' < k ∧ k < m') ∧ f k = t := fun t => by
    rw [sg_mem]
    exact ⟨fun ⟨k, h1, h2⟩ => ⟨k, by omega, h2⟩, fun ⟨k, h1, h2⟩ => ⟨k, by omega, h2⟩⟩
  have hem : ∀ t, t ∈ sg (N 194) (i' + 1) n ↔ ∃ k : Nat, (i' < k ∧ k < m') ∧ N 194 k = t := fun t => by
    rw [sg_mem]
    exact ⟨fun ⟨k, h1, h2⟩ => ⟨k, by omega, h2⟩, fun ⟨k, h1, h2⟩ => ⟨k, by omega, h2⟩⟩
  have hne : ∀ u v : Nat, u < m' → v < m' → u ≠ v → f u ≠ f v := fun u v h1 h2 h3 => hM.2 u v (by omega) (by omega) h3
  have hasc : (sg (N 194) (i' + 1) n).Pairwise (fun a b => a < b) := sg_pw (fun u v h1 h2 h3 => by
    rw [hhi u (by omega) (by omega), hhi v (by omega) (by omega)]
    by_cases e1 : i' + m' - u = j'
    · rw [if_pos e1, if_neg (by omega)]
      have h8 : ¬ f (i' + m' - v) < f i' := fun q => by
        have h7 := hdec (i' + m' - v) j' (by omega) (by omega) (by omega)
        omega
      have h6 := hne (i' + m' - v) i' (by omega) (by omega) (by omega)
      omega
    · rw [if_neg e1]
      by_cases e2 : i' + m' - v = j'
      · rw [if_pos e2]
        exact hj _ (by omega) (by omega)
      · rw [if_neg e2]
        exact hdec _ _ (by omega) (by omega) (by omega))
  have hdsc : (sg f (i' + 1) n).Pairwise (fun a b => b < a) := sg_pw (fun u v h1 h2 h3 => hdec u v (by omega) h2 (by omega))
  have hP : List.Perm (f j' :: sg (N 194) (i' + 1) n) (f i' :: sg f (i' + 1) n) := by
    refine (List.perm_ext_iff_of_nodup ?_ ?_).mpr (fun t => ?_)
    · refine List.nodup_cons.mpr ⟨fun hm2 => ?_, hasc.imp (fun {a b} h e => by omega)⟩
      obtain ⟨k, hk, e⟩ := (hem _).mp hm2
      rw [hhi k hk.1 hk.2] at e
      by_cases e1 : i' + m' - k = j'
      · rw [if_pos e1] at e; exact hne i' j' (by omega) (by omega) (by omega) e
      · rw [if_neg e1] at e; exact hne _ j' (by omega) (by omega) e1 e
    · refine List.nodup_cons.mpr ⟨fun hm2 => ?_, hdsc.imp (fun {a b} h e => by omega)⟩
      obtain ⟨k, hk, e⟩ := (hdm _).mp hm2
      exact hne k i' (by omega) (by omega) (by omega) e
    · rw [List.mem_cons, List.mem_cons, hem, hdm]
      constructor
      · intro h
        rcases h with h | ⟨k, hk, e⟩
        · exact Or.inr ⟨j', by omega, h.symm⟩
        · rw [hhi k hk.1 hk.2] at e
          by_cases e1 : i' + m' - k = j'
          · rw [if_pos e1] at e; exact Or.inl e.symm
          · rw [if_neg e1] at e; exact Or.inr ⟨i' + m' - k, by omega, e⟩
      · intro h
        rcases h with h | ⟨k, hk, e⟩
        · refine Or.inr ⟨i' + m' - j', by omega, ?_⟩
          rw [hhi _ (by omega) (by omega), if_pos (by omega), h]
        · by_cases e1 : k = j'
          · rw [e1] at e; exact Or.inl e.symm
          · refine Or.inr ⟨i' + m' - k, by omega, ?_⟩
            rw [hhi _ (by omega) (by omega), if_neg (by omega), show i' + m' - (i' + m' - k) = k by omega, e]
  have hall : List.Perm (sg (N 194) 0 m') (sg f 0 m') := by
    rw [eM, eN]
    exact hP.append_left _
  have hd9 : ∀ t, t ∈ sg f 0 m' → 0 ≤ t ∧ t ≤ 9 := by
    have h9 := rOk_d9 hM
    rw [Int.toNat_natCast] at h9
    exact h9
  have hnd : (sg f 0 m').Nodup := by
    have h9 := rOk_nd hM
    rw [Int.toNat_natCast] at h9
    exact h9
  have hmem : f j' ∈ sg f (i' + 1) n := (hdm _).mpr ⟨j', by omega, rfl⟩
  refine ⟨hf, Or.inr ⟨rfl, rOk_of (fun t ht => ?_) ?_, ?_, ?_, fun q hq => ?_⟩⟩
  · rw [Int.toNat_natCast] at ht; exact hd9 t (hall.subset ht)
  · rw [Int.toNat_natCast]; exact hall.symm.nodup hnd
  · rw [Int.toNat_natCast, hF]; exact hall
  · rw [Int.toNat_natCast, hF, eM, eN]
    refine oLv_app (by rw [List.length_cons, List.length_cons, sg_len, sg_len]) (oLv_lt hij (by rw [sg_len, sg_len]) (fun t ht => hd9 t (by rw [eM]; exact List.mem_append.mpr (Or.inr (List.mem_cons_of_mem _ ht)))) (fun t ht => hd9 t (hall.subset (by rw [eN]; exact List.mem_append.mpr (Or.inr (List.mem_cons_of_mem _ ht)))))) _
  · rw [Int.toNat_natCast, hF] at hq ⊢
    rw [eN, eM]
    rw [eM] at hq
    refine lx_nxt hdsc hmem hij (fun z hz hxz => ?_) hasc hP (by rw [← eM]; exact hd9) hq
    obtain ⟨k, hk, e⟩ := (hdm z).mp hz
    rw [← e] at hxz ⊢
    by_cases e1 : k = j'
    · rw [e1]; exact Int.le_refl _
    · by_cases e2 : j' < k
      · have h9 := hj k (by omega) (by omega)
        omega
      · exact Int.le_of_lt (hdec k j' (by omega) (by omega) (by omega))
section MXR
variable {l : Launch} {G : fp_WG} {M N : fp_Mem}
theorem xr_rev {m i j : Int} (hm : 0 ≤ m ∧ m ≤ 8) (hi : 0 ≤ i ∧ i < m) (f1 : Nat → Int) (h9 : ∀ k : Nat, (k : Int) < m → 0 ≤ f1 k ∧ f1 k ≤ 9) (KK : ∀ (N : fp_Mem), (∀ c, c ≠ 194 → N c = M c) → (∀ k : Nat, (k : Int) < m → N 194 k = if i < k then f1 (i + m - k).toNat else f1 k) → nxP M N m 1) : ∀ (r : Nat) (h4 a b : Int) (N : fp_Mem), (b - a + 1).toNat < r → i < a → a ≤ m → -1 ≤ b → b < m → a + b = i + m → (∀ c, c ≠ 194 → N c = M c) → (∀ k : Nat, (k : Int) < m → N 194 k = if i < k ∧ ((k : Int) < a ∨ b < k) then f1 (i + m - k).toNat else f1 k) →
    fp_S l G 0 kX12_nextRow 100 [some (rV G 177), some (iV m), some (iV i), some (iV j), some (iV h4), some (iV a), some (iV b)] [] N (qI fun z N => nxP M N m z) := by
  intro r
  induction r with
  | zero => intro h4 a b N hr; omega
  | succ r ih =>
    intro h4 a b N hr ha ha2 hb0 hb hab9 hf hN
    by_cases hab : a < b
    · have ea : N 194 a.toNat = f1 a.toNat := by rw [hN a.toNat (by omega), if_neg (by omega)]
      have eb : N 194 b.toNat = f1 b.toNat := by rw [hN b.toNat (by omega), if_neg (by omega)]
      have r1 := h9 a.toNat (by omega)
      have r2 := h9 b.toNat (by omega)
      refine S.iload (pc' := 102) dX12_nextRow_100 rfl rfl ?_
      refine S.iload (pc' := 104) dX12_nextRow_102 rfl rfl ?_
      refine S.icmp_ge (pc' := 107) (tgt := 148) dX12_nextRow_104 (by decide) rfl (by unfold fp_rng; omega) (by unfold fp_rng; omega) (fun h104 => ?_) (fun h104 => ?_)
      · exfalso; omega
      · refine S.aload_n (pc' := 108) dX12_nextRow_107 rfl rfl rfl ?_
        refine S.getR (pc' := 111) dX12_nextRow_108 rfl fX12_63 L_177 rf_177_35 ?_
        refine S.iload (pc' := 113) dX12_nextRow_111 rfl rfl ?_
        refine S.iald (pc' := 114) dX12_nextRow_113 rfl L_194 (by omega) (by omega) ?_
        refine S.istore (pc' := 116) (LL' := [_, _, _, _, _, _, _]) dX12_nextRow_114 rfl (by decide) rfl rfl ?_
        refine S.aload_n (pc' := 117) dX12_nextRow_116 rfl rfl rfl ?_
        refine S.getR (pc' := 120) dX12_nextRow_117 rfl fX12_63 L_177 rf_177_35 ?_
        refine S.iload (pc' := 122) dX12_nextRow_120 rfl rfl ?_
        refine S.aload_n (pc' := 123) dX12_nextRow_122 rfl rfl rfl ?_
        refine S.getR (pc' := 126) dX12_nextRow_123 rfl fX12_63 L_177 rf_177_35 ?_
        refine S.iload (pc' := 128) dX12_nextRow_126 rfl rfl ?_
        refine S.iald (pc' := 129) dX12_nextRow_128 rfl L_194 (by omega) (by omega) ?_
        refine S.iast (pc' := 130) dX12_nextRow_129 rfl L_194 (by omega) (by omega) ?_
        refine S.aload_n (pc' := 131) dX12_nextRow_130 rfl rfl rfl ?_
        refine S.getR (pc' := 134) dX12_nextRow_131 rfl fX12_63 L_177 rf_177_35 ?_
        refine S.iload (pc' := 136) dX12_nextRow_134 rfl rfl ?_
        refine S.iload (pc' := 138) dX12_nextRow_136 rfl rfl ?_
        refine S.iast (pc' := 139) dX12_nextRow_138 rfl L_194 (by omega) (by omega) ?_
        refine S.iinc (pc' := 142) (LL' := [_, _, _, _, _, _, _]) dX12_nextRow_139 rfl (by decide) rfl rfl rfl ?_
        refine S.iinc (pc' := 145) (LL' := [_, _, _, _, _, _, _]) dX12_nextRow_142 rfl (by decide) rfl rfl rfl ?_
        refine S.goto (pc' := 100) dX12_nextRow_145 (by decide) ?_
        refine ih _ _ _ _ (by omega) (by omega) (by omega) (by omega) (by omega) (by omega) (fun c hc => by rw [fp_up_ne hc, fp_up_ne hc]; exact hf c hc) (fun k hk => ?_)
        rw [fp_up_at, fp_up_at]
        unfold fp_upf
        by_cases e1 : k = b.toNat
        · rw [if_pos e1, if_pos (by omega), ea, show (i + m - (k : Int)).toNat = a.toNat by omega]
        · rw [if_neg e1]
          by_cases e2 : k = a.toNat
          · rw [if_pos e2, if_pos (by omega), eb, show (i + m - (k : Int)).toNat = b.toNat by omega]
          · rw [if_neg e2, hN k hk]
            by_cases e3 : i < k ∧ ((k : Int) < a ∨ b < k)
            · rw [if_pos e3, if_pos (by omega)]
            · rw [if_neg e3, if_neg (by omega)]
    · refine S.iload (pc' := 102) dX12_nextRow_100 rfl rfl ?_
      refine S.iload (pc' := 104) dX12_nextRow_102 rfl rfl ?_
      refine S.icmp_ge (pc' := 107) (tgt := 148) dX12_nextRow_104 (by decide) rfl (by unfold fp_rng; omega) (by unfold fp_rng; omega) (fun h104 => ?_) (fun h104 => ?_)
      · refine S.iconst (pc' := 149) dX12_nextRow_148 rfl ?_
        refine S.zret dX12_nextRow_149 rfl (by first | exact Or.inl rfl | exact Or.inr rfl | omega) ?_
        refine KK N hf (fun k hk => ?_)
        rw [hN k hk]
        by_cases e3 : i < k ∧ ((k : Int) < a ∨ b < k)
        · rw [if_pos e3, if_pos e3.1]
        · rw [if_neg e3]
          by_cases e4 : i < k
          · rw [if_pos e4, show (i + m - (k : Int)).toNat = k by omega]
          · rw [if_neg e4]
      · exfalso; omega
theorem xr_j {m i : Int} (hm : 0 ≤ m ∧ m ≤ 8) (hi : 0 ≤ i ∧ i + 1 < m) (hM : rOk (M 194) m) (hup : M 194 i.toNat ≤ M 194 (i + 1).toNat) (hdec : ∀ u v : Nat, i < u → u < v → (v : Int) < m → M 194 v < M 194 u) : ∀ (r : Nat) (j : Int), (j - i).toNat < r → i < j → j < m → (∀ k : Nat, j < k → (k : Int) < m → M 194 k < M 194 i.toNat) →
    fp_S l G 0 kX12_nextRow 41 [some (rV G 177), some (iV m), some (iV i), some (iV j), none, none, none] [] M (qI fun z N => nxP M N m z) := by
  intro r
  induction r with
  | zero => intro j hr; omega
  | succ r ih =>
    intro j hr hj1 hj2 hj
    have b1 := hM.1 j.toNat (by omega)
    have b2 := hM.1 i.toNat (by omega)
    have hne := hM.2 i.toNat j.toNat (by omega) (by omega) (by omega)
    by_cases hlt : M 194 j.toNat < M 194 i.toNat
    · have hj3 : j ≠ i + 1 := fun e => by rw [e] at hlt; omega
      refine S.aload_n (pc' := 42) dX12_nextRow_41 rfl rfl rfl ?_
      refine S.getR (pc' := 45) dX12_nextRow_42 rfl fX12_63 L_177 rf_177_35 ?_
      refine S.iload_n (pc' := 46) dX12_nextRow_45 rfl rfl rfl ?_
      refine S.iald (pc' := 47) dX12_nextRow_46 rfl L_194 (by omega) (by omega) ?_
      refine S.aload_n (pc' := 48) dX12_nextRow_47 rfl rfl rfl ?_
      refine S.getR (pc' := 51) dX12_nextRow_48 rfl fX12_63 L_177 rf_177_35 ?_
      refine S.iload_n (pc' := 52) dX12_nextRow_51 rfl rfl rfl ?_
      refine S.iald (pc' := 53) dX12_nextRow_52 rfl L_194 (by omega) (by omega) ?_
      refine S.icmp_ge (pc' := 56) (tgt := 62) dX12_nextRow_53 (by decide) rfl (by unfold fp_rng; omega) (by unfold fp_rng; omega) (fun h53 => ?_) (fun h53 => ?_)
      · exfalso; omega
      · refine S.iinc (pc' := 59) (LL' := [_, _, _, _, _, _, _]) dX12_nextRow_56 rfl (by decide) rfl rfl rfl ?_
        refine S.goto (pc' := 41) dX12_nextRow_59 (by decide) ?_
        refine ih _ (by omega) (by omega) (by omega) (fun k k1 k2 => ?_)
        by_cases e : (k : Int) = j
        · rw [show k = j.toNat by omega]; exact hlt
        · exact hj k (by omega) k2
    · have hfin : ∀ N : fp_Mem, (∀ c, c ≠ 194 → N c = M c) → (∀ k : Nat, (k : Int) < m → N 194 k = if i < k then swp (M 194) i.toNat j.toNat (i + m - k).toNat else swp (M 194) i.toNat j.toNat k) → nxP M N m 1 := fun N hf hN => nx_fin hm hM ⟨hi.1, hj1, hj2⟩ hdec (by omega) hj hf hN
      have h9 : ∀ k : Nat, (k : Int) < m → 0 ≤ swp (M 194) i.toNat j.toNat k ∧ swp (M 194) i.toNat j.toNat k ≤ 9 := fun k hk => by
        rw [swp_k]
        refine hM.1 _ ?_
        split
        · omega
        · split <;> omega
      refine S.aload_n (pc' := 42) dX12_nextRow_41 rfl rfl rfl ?_
      refine S.getR (pc' := 45) dX12_nextRow_42 rfl fX12_63 L_177 rf_177_35 ?_
      refine S.iload_n (pc' := 46) dX12_nextRow_45 rfl rfl rfl ?_
      refine S.iald (pc' := 47) dX12_nextRow_46 rfl L_194 (by omega) (by omega) ?_
      refine S.aload_n (pc' := 48) dX12_nextRow_47 rfl rfl rfl ?_
      refine S.getR (pc' := 51) dX12_nextRow_48 rfl fX12_63 L_177 rf_177_35 ?_
      refine S.iload_n (pc' := 52) dX12_nextRow_51 rfl rfl rfl ?_
      refine S.iald (pc' := 53) dX12_nextRow_52 rfl L_194 (by omega) (by omega) ?_
      refine S.icmp_ge (pc' := 56) (tgt := 62) dX12_nextRow_53 (by decide) rfl (by unfold fp_rng; omega) (by unfold fp_rng; omega) (fun h53 => ?_) (fun h53 => ?_)
      · refine S.aload_n (pc' := 63) dX12_nextRow_62 rfl rfl rfl ?_
        refine S.getR (pc' := 66) dX12_nextRow_63 rfl fX12_63 L_177 rf_177_35 ?_
        refine S.iload_n (pc' := 67) dX12_nextRow_66 rfl rfl rfl ?_
        refine S.iald (pc' := 68) dX12_nextRow_67 rfl L_194 (by omega) (by omega) ?_
        refine S.istore (pc' := 70) (LL' := [_, _, _, _, _, _, _]) dX12_nextRow_68 rfl (by decide) rfl rfl ?_
        refine S.aload_n (pc' := 71) dX12_nextRow_70 rfl rfl rfl ?_
        refine S.getR (pc' := 74) dX12_nextRow_71 rfl fX12_63 L_177 rf_177_35 ?_
        refine S.iload_n (pc' := 75) dX12_nextRow_74 rfl rfl rfl ?_
        refine S.aload_n (pc' := 76) dX12_nextRow_75 rfl rfl rfl ?_
        refine S.getR (pc' := 79) dX12_nextRow_76 rfl fX12_63 L_177 rf_177_35 ?_
        refine S.iload_n (pc' := 80) dX12_nextRow_79 rfl rfl rfl ?_
        refine S.iald (pc' := 81) dX12_nextRow_80 rfl L_194 (by omega) (by omega) ?_
        refine S.iast (pc' := 82) dX12_nextRow_81 rfl L_194 (by omega) (by omega) ?_
        refine S.aload_n (pc' := 83) dX12_nextRow_82 rfl rfl rfl ?_
        refine S.getR (pc' := 86) dX12_nextRow_83 rfl fX12_63 L_177 rf_177_35 ?_
        refine S.iload_n (pc' := 87) dX12_nextRow_86 rfl rfl rfl ?_
        refine S.iload (pc' := 89) dX12_nextRow_87 rfl rfl ?_
        refine S.iast (pc' := 90) dX12_nextRow_89 rfl L_194 (by omega) (by omega) ?_
        refine S.iload_n (pc' := 91) dX12_nextRow_90 rfl rfl rfl ?_
        refine S.iconst (pc' := 92) dX12_nextRow_91 rfl ?_
        refine S.iadd (pc' := 93) dX12_nextRow_92 rfl ?_
        refine S.istore (pc' := 95) (LL' := [_, _, _, _, _, _, _]) dX12_nextRow_93 rfl (by decide) rfl rfl ?_
        refine S.iload_n (pc' := 96) dX12_nextRow_95 rfl rfl rfl ?_
        refine S.iconst (pc' := 97) dX12_nextRow_96 rfl ?_
        refine S.isub (pc' := 98) dX12_nextRow_97 rfl ?_
        refine S.istore (pc' := 100) (LL' := [_, _, _, _, _, _, _]) dX12_nextRow_98 rfl (by decide) rfl rfl ?_
        refine xr_rev (M := M) hm (by omega) (swp (M 194) i.toNat j.toNat) h9 hfin _ _ _ _ _ (Nat.lt_succ_self _) (by omega) (by omega) (by omega) (by omega) (by omega) (fun c hc => by rw [fp_up_ne hc, fp_up_ne hc]) (fun k hk => ?_)
        rw [fp_up_at, fp_up_at, if_neg (by omega)]
        rfl
      · exfalso; omega
theorem xk_X12_nextRow {m : Int} (hm : 0 ≤ m ∧ m ≤ 8) (hM : rOk (M 194) m) : fp_Ok l G 0 kX12_nextRow [rV G 177, iV m] M (qI fun z N => nxP M N m z) := by
  refine fp_Ok.of (r := 5) rfl (Nat.le_of_ble_eq_true rfl) rfl ?_
  have hmax : (∀ u v : Nat, u < v → (v : Int) < m → M 194 v < M 194 u) → nxP M M m 0 := fun h => ⟨fun _ _ => rfl, Or.inl ⟨rfl, fun q hq => lx_max (rOk_d9 hM) (sg_pw (fun u v _ h2 h3 => h u v h2 (by omega))) hq⟩⟩
  have hL : ∀ (r : Nat) (i : Int), (i + 1).toNat < r → -1 ≤ i → i + 1 < m → (∀ u v : Nat, i < u → u < v → (v : Int) < m → M 194 v < M 194 u) → fp_S l G 0 kX12_nextRow 4 [some (rV G 177), some (iV m), some (iV i), none, none, none, none] [] M (qI fun z N => nxP M N m z) := by
    intro r
    induction r with
    | zero => intro i hr; omega
    | succ r ih =>
      intro i hr hi0 hi hdec
      by_cases h0 : i < 0
      · refine S.iload_n (pc' := 5) dX12_nextRow_4 rfl rfl rfl ?_
        refine S.if_lt (pc' := 8) (tgt := 31) dX12_nextRow_5 (by decide) rfl (by unfold fp_rng; omega) (fun h5 => ?_) (fun h5 => ?_)
        · refine S.iload_n (pc' := 32) dX12_nextRow_31 rfl rfl rfl ?_
          refine S.if_ge (pc' := 35) (tgt := 37) dX12_nextRow_32 (by decide) rfl (by unfold fp_rng; omega) (fun h32 => ?_) (fun h32 => ?_)
          · exfalso; omega
          · refine S.iconst (pc' := 36) dX12_nextRow_35 rfl ?_
            refine S.zret dX12_nextRow_36 rfl (by first | exact Or.inl rfl | exact Or.inr rfl | omega) ?_
            exact hmax (fun u v h2 h3 => hdec u v (by omega) h2 h3)
        · exfalso; omega
      · have b1 := hM.1 i.toNat (by omega)
        have b2 := hM.1 (i + 1).toNat (by omega)
        by_cases hup : M 194 i.toNat ≤ M 194 (i + 1).toNat
        · refine S.iload_n (pc' := 5) dX12_nextRow_4 rfl rfl rfl ?_
          refine S.if_lt (pc' := 8) (tgt := 31) dX12_nextRow_5 (by decide) rfl (by unfold fp_rng; omega) (fun h5 => ?_) (fun h5 => ?_)
          · refine S.iload_n (pc' := 32) dX12_nextRow_31 rfl rfl rfl ?_
            refine S.if_ge (pc' := 35) (tgt := 37) dX12_nextRow_32 (by decide) rfl (by unfold fp_rng; omega) (fun h32 => ?_) (fun h32 => ?_)
            · refine S.iload_n (pc' := 38) dX12_nextRow_37 rfl rfl rfl ?_
              refine S.iconst (pc' := 39) dX12_nextRow_38 rfl ?_
              refine S.isub (pc' := 40) dX12_nextRow_39 rfl ?_
              refine S.istore_n (pc' := 41) (LL' := [_, _, _, _, _, _, _]) dX12_nextRow_40 rfl (by decide) rfl rfl rfl ?_
              exact xr_j hm (by omega) hM hup hdec _ _ (Nat.lt_succ_self _) (by omega) (by omega) (fun k k1 k2 => by omega)
            · exfalso; omega
          · refine S.aload_n (pc' := 9) dX12_nextRow_8 rfl rfl rfl ?_
            refine S.getR (pc' := 12) dX12_nextRow_9 rfl fX12_63 L_177 rf_177_35 ?_
            refine S.iload_n (pc' := 13) dX12_nextRow_12 rfl rfl rfl ?_
            refine S.iald (pc' := 14) dX12_nextRow_13 rfl L_194 (by omega) (by omega) ?_
            refine S.aload_n (pc' := 15) dX12_nextRow_14 rfl rfl rfl ?_
            refine S.getR (pc' := 18) dX12_nextRow_15 rfl fX12_63 L_177 rf_177_35 ?_
            refine S.iload_n (pc' := 19) dX12_nextRow_18 rfl rfl rfl ?_
            refine S.iconst (pc' := 20) dX12_nextRow_19 rfl ?_
            refine S.iadd (pc' := 21) dX12_nextRow_20 rfl ?_
            refine S.iald (pc' := 22) dX12_nextRow_21 rfl L_194 (by omega) (by omega) ?_
            refine S.icmp_le (pc' := 25) (tgt := 31) dX12_nextRow_22 (by decide) rfl (by unfold fp_rng; omega) (by unfold fp_rng; omega) (fun h22 => ?_) (fun h22 => ?_)
            · refine S.iload_n (pc' := 32) dX12_nextRow_31 rfl rfl rfl ?_
              refine S.if_ge (pc' := 35) (tgt := 37) dX12_nextRow_32 (by decide) rfl (by unfold fp_rng; omega) (fun h32 => ?_) (fun h32 => ?_)
              · refine S.iload_n (pc' := 38) dX12_nextRow_37 rfl rfl rfl ?_
                refine S.iconst (pc' := 39) dX12_nextRow_38 rfl ?_
                refine S.isub (pc' := 40) dX12_nextRow_39 rfl ?_
                refine S.istore_n (pc' := 41) (LL' := [_, _, _, _, _, _, _]) dX12_nextRow_40 rfl (by decide) rfl rfl rfl ?_
                exact xr_j hm (by omega) hM hup hdec _ _ (Nat.lt_succ_self _) (by omega) (by omega) (fun k k1 k2 => by omega)
              · exfalso; omega
            · exfalso; omega
        · refine S.iload_n (pc' := 5) dX12_nextRow_4 rfl rfl rfl ?_
          refine S.if_lt (pc' := 8) (tgt := 31) dX12_nextRow_5 (by decide) rfl (by unfold fp_rng; omega) (fun h5 => ?_) (fun h5 => ?_)
          · exfalso; omega
          · refine S.aload_n (pc' := 9) dX12_nextRow_8 rfl rfl rfl ?_
            refine S.getR (pc' := 12) dX12_nextRow_9 rfl fX12_63 L_177 rf_177_35 ?_
            refine S.iload_n (pc' := 13) dX12_nextRow_12 rfl rfl rfl ?_
            refine S.iald (pc' := 14) dX12_nextRow_13 rfl L_194 (by omega) (by omega) ?_
            refine S.aload_n (pc' := 15) dX12_nextRow_14 rfl rfl rfl ?_
            refine S.getR (pc' := 18) dX12_nextRow_15 rfl fX12_63 L_177 rf_177_35 ?_
            refine S.iload_n (pc' := 19) dX12_nextRow_18 rfl rfl rfl ?_
            refine S.iconst (pc' := 20) dX12_nextRow_19 rfl ?_
            refine S.iadd (pc' := 21) dX12_nextRow_20 rfl ?_
            refine S.iald (pc' := 22) dX12_nextRow_21 rfl L_194 (by omega) (by omega) ?_
            refine S.icmp_le (pc' := 25) (tgt := 31) dX12_nextRow_22 (by decide) rfl (by unfold fp_rng; omega) (by unfold fp_rng; omega) (fun h22 => ?_) (fun h22 => ?_)
            · exfalso; omega
            · refine S.iinc (pc' := 28) (LL' := [_, _, _, _, _, _, _]) dX12_nextRow_25 rfl (by decide) rfl rfl rfl ?_
              refine S.goto (pc' := 4) dX12_nextRow_28 (by decide) ?_
              refine ih _ (by omega) (by omega) (by omega) (fun u v h1 h2 h3 => ?_)
              by_cases e1 : (u : Int) = i
              · have e2 : u = i.toNat := by omega
                by_cases e3 : (v : Int) = i + 1
                · rw [e2, show v = (i + 1).toNat by omega]; omega
                · have h8 := hdec (i + 1).toNat v (by omega) (by omega) h3
                  rw [e2]; omega
              · exact hdec u v (by omega) h2 h3
  by_cases hm1 : 1 ≤ m
  · refine S.iload_n (pc' := 1) dX12_nextRow_0 rfl rfl rfl ?_
    refine S.iconst (pc' := 2) dX12_nextRow_1 rfl ?_
    refine S.isub (pc' := 3) dX12_nextRow_2 rfl ?_
    refine S.istore_n (pc' := 4) (LL' := [_, _, _, _, _, _, _]) dX12_nextRow_3 rfl (by decide) rfl rfl rfl ?_
    exact hL _ _ (Nat.lt_succ_self _) (by omega) (by omega) (fun u v h1 h2 h3 => by omega)
  · refine S.iload_n (pc' := 1) dX12_nextRow_0 rfl rfl rfl ?_
    refine S.iconst (pc' := 2) dX12_nextRow_1 rfl ?_
    refine S.isub (pc' := 3) dX12_nextRow_2 rfl ?_
    refine S.istore_n (pc' := 4) (LL' := [_, _, _, _, _, _, _]) dX12_nextRow_3 rfl (by decide) rfl rfl rfl ?_
    refine S.iload_n (pc' := 5) dX12_nextRow_4 rfl rfl rfl ?_
    refine S.if_lt (pc' := 8) (tgt := 31) dX12_nextRow_5 (by decide) rfl (by unfold fp_rng; omega) (fun h5 => ?_) (fun h5 => ?_)
    · refine S.iload_n (pc' := 32) dX12_nextRow_31 rfl rfl rfl ?_
      refine S.if_ge (pc' := 35) (tgt := 37) dX12_nextRow_32 (by decide) rfl (by unfold fp_rng; omega) (fun h32 => ?_) (fun h32 => ?_)
      · exfalso; omega
      · refine S.iconst (pc' := 36) dX12_nextRow_35 rfl ?_
        refine S.zret dX12_nextRow_36 rfl (by first | exact Or.inl rfl | exact Or.inr rfl | omega) ?_
        exact hmax (fun u v h2 h3 => by omega)
    · exfalso; omega
end MXR
