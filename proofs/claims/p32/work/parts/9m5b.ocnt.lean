/-! orders: all rows, and how many of them fit (p32 alone) -/
def pm : Nat → List Int → List (List Int)
  | 0, _ => [[]]
  | n + 1, S => S.flatMap (fun a => (pm n (S.erase a)).map (fun p => a :: p))
theorem pm_el {n : Nat} {S : List Int} {a : Int} (h : S.length = n + 1) (ha : a ∈ S) : (S.erase a).length = n := by
  rw [List.length_erase_of_mem ha]
  omega
theorem pm_mem : ∀ {n : Nat} {S p : List Int}, S.length = n → (p ∈ pm n S ↔ List.Perm p S)
  | 0, S, p, h => by
    have hS : S = [] := List.length_eq_zero_iff.mp h
    subst hS
    rw [pm, List.mem_singleton]
    exact ⟨fun e => by rw [e], fun e => e.eq_nil⟩
  | n + 1, S, p, h => by
    rw [pm, List.mem_flatMap]
    constructor
    · intro ⟨a, ha, hm⟩
      obtain ⟨p', hp', rfl⟩ := List.mem_map.mp hm
      exact List.cons_perm_iff_perm_erase.mpr ⟨ha, (pm_mem (pm_el h ha)).mp hp'⟩
    · intro hp
      cases p with
      | nil =>
        have h9 := hp.length_eq
        rw [List.length_nil] at h9
        omega
      | cons a p' =>
        obtain ⟨ha, hp'⟩ := List.cons_perm_iff_perm_erase.mp hp
        exact ⟨a, ha, List.mem_map.mpr ⟨p', (pm_mem (pm_el h ha)).mpr hp', rfl⟩⟩
def fct : Nat → Nat
  | 0 => 1
  | n + 1 => (n + 1) * fct n
theorem o_sumc {α : Type} (c : Nat) : ∀ L : List α, (L.map (fun _ => c)).sum = L.length * c
  | [] => by rw [List.map_nil, List.length_nil, Nat.zero_mul]; rfl
  | a :: L => by rw [List.map_cons, List.sum_cons, o_sumc c L, List.length_cons, Nat.succ_mul, Nat.add_comm]
theorem pm_len : ∀ {n : Nat} {S : List Int}, S.length = n → (pm n S).length = fct n
  | 0, S, h => rfl
  | n + 1, S, h => by
    rw [pm, List.length_flatMap]
    have e : S.map (fun a => ((pm n (S.erase a)).map (fun p => a :: p)).length) = S.map (fun _ => fct n) := List.map_congr_left (fun a ha => by rw [List.length_map]; exact pm_len (pm_el h ha))
    rw [e, o_sumc, h]
    rfl
theorem pm_sorted : ∀ {n : Nat} {S : List Int}, S.length = n → S.Pairwise (fun a b => a < b) → (∀ t, t ∈ S → 0 ≤ t ∧ t ≤ 9) → (pm n S).Pairwise (fun p q => p.length = q.length ∧ oLv p < oLv q)
  | 0, S, _, _, _ => by rw [pm]; exact List.pairwise_singleton _ _
  | n + 1, S, h, hs, hd => by
    rw [pm, List.pairwise_flatMap]
    refine ⟨fun a ha => ?_, ?_⟩
    · have ih := pm_sorted (pm_el h ha) (hs.sublist List.erase_sublist) (fun t ht => hd t (List.mem_of_mem_erase ht))
      exact ih.map _ (fun p q e => ⟨by rw [List.length_cons, List.length_cons, e.1], by rw [oLv, oLv, e.1]; have := e.2; omega⟩)
    · refine hs.imp_of_mem (fun {a b} ha hb hab x hx y hy => ?_)
      obtain ⟨p, hp, rfl⟩ := List.mem_map.mp hx
      obtain ⟨q, hq, rfl⟩ := List.mem_map.mp hy
      have p1 := (pm_mem (pm_el h ha)).mp hp
      have q1 := (pm_mem (pm_el h hb)).mp hq
      have el : p.length = q.length := by rw [p1.length_eq, q1.length_eq, pm_el h ha, pm_el h hb]
      exact ⟨by rw [List.length_cons, List.length_cons, el], oLv_lt hab el (fun t ht => hd t (List.mem_of_mem_erase (p1.subset ht))) (fun t ht => hd t (List.mem_of_mem_erase (q1.subset ht)))⟩
theorem pm_nodup {n : Nat} {S : List Int} (h : S.length = n) (hs : S.Pairwise (fun a b => a < b)) (hd : ∀ t, t ∈ S → 0 ≤ t ∧ t ≤ 9) : (pm n S).Nodup := (pm_sorted h hs hd).imp (fun {p q} e f => by rw [f] at e; have := e.2; omega)
theorem pm_head : ∀ {n : Nat} {S : List Int}, S.length = n → ∃ rest, pm n S = S :: rest
  | 0, S, h => by
    have hS : S = [] := List.length_eq_zero_iff.mp h
    subst hS
    exact ⟨[], rfl⟩
  | n + 1, [], h => by rw [List.length_nil] at h; omega
  | n + 1, a :: p, h => by
    obtain ⟨r, hr⟩ := pm_head (n := n) (S := p) (by rw [List.length_cons] at h; omega)
    refine ⟨r.map (fun p => a :: p) ++ p.flatMap (fun b => (pm n ((a :: p).erase b)).map (fun p => b :: p)), ?_⟩
    rw [pm, List.flatMap_cons, List.erase_cons_head, hr]
    rfl
/-- what is left when these are gone -/
def oLef : List Int → List Int → List Int
  | L, [] => L
  | L, n :: ns => oLef (L.erase n) ns
theorem oLef_mem {x : Int} : ∀ {nt L : List Int}, L.Nodup → (x ∈ oLef L nt ↔ x ∈ L ∧ x ∉ nt)
  | [], L, _ => by rw [oLef]; exact ⟨fun h => ⟨h, List.not_mem_nil⟩, fun h => h.1⟩
  | n :: ns, L, hn => by
    rw [oLef, oLef_mem (hn.erase n), hn.mem_erase_iff, List.mem_cons]
    constructor
    · intro ⟨⟨h1, h2⟩, h3⟩; exact ⟨h2, fun q => q.elim h1 h3⟩
    · intro ⟨h1, h2⟩; exact ⟨⟨fun q => h2 (Or.inl q), h1⟩, fun q => h2 (Or.inr q)⟩
theorem oFit_app {K : Int} {W : Int → Int} {t : Int} : ∀ {nt L : List Int}, oFit K W L (nt ++ [t]) = true ↔ oFit K W L nt = true ∧ oLef L nt ≠ [] ∧ oD K W (oLef L nt) = t
  | [], L => by
    rw [List.nil_append, oFit_cons, oLef, oFit, oFit]
    exact ⟨fun h => ⟨rfl, h.1, h.2.1⟩, fun h => ⟨h.2.1, h.2.2, rfl⟩⟩
  | n :: ns, L => by
    rw [List.cons_append, oFit_cons, oFit_cons, oLef, oFit_app]
    exact ⟨fun h => ⟨⟨h.1, h.2.1, h.2.2.1⟩, h.2.2.2⟩, fun h => ⟨h.1.1, h.1.2.1, h.1.2.2, h.2⟩⟩
/-- names changed, weights kept -/
theorem oD_map {K : Int} {W s : Int → Int} : ∀ {L : List Int}, (∀ t, t ∈ L → W (s t) = W t) → L ≠ [] → oD K W (L.map s) = s (oD K W L)
  | [], _, h => absurd rfl h
  | a :: p, hw, _ => by
    rw [List.map_cons, oD, oD]
    by_cases hp : p = []
    · rw [if_pos (Or.inl (by rw [hp]; rfl)), if_pos (Or.inl hp)]
    · have hm : p.map s ≠ [] := fun q => hp (List.map_eq_nil_iff.mp q)
      rw [oD_map (fun t ht => hw t (List.mem_cons_of_mem _ ht)) hp, hw a List.mem_cons_self, hw _ (List.mem_cons_of_mem _ (oD_mem hp))]
      by_cases c : K ≠ 1 ∧ W a ≤ W (oD K W p)
      · rw [if_pos (Or.inr c), if_pos (Or.inr c)]
      · rw [if_neg (fun q => q.elim hm c), if_neg (fun q => q.elim hp c)]
theorem o_erm {s : Int → Int} (hi : ∀ x y, s x = s y → x = y) {n : Int} : ∀ L : List Int, (L.map s).erase (s n) = (L.erase n).map s
  | [] => rfl
  | a :: p => by
    rw [List.map_cons]
    by_cases e : a = n
    · rw [e, List.erase_cons_head, List.erase_cons_head]
    · rw [List.erase_cons_tail (by simpa using fun q => e (hi _ _ q)), List.erase_cons_tail (by simpa using e), List.map_cons, o_erm hi p]
theorem oFit_map {K : Int} {W s : Int → Int} (hi : ∀ x y, s x = s y → x = y) : ∀ {nt L : List Int}, (∀ t, t ∈ L → W (s t) = W t) → (oFit K W (L.map s) (nt.map s) = true ↔ oFit K W L nt = true)
  | [], L, _ => by rw [List.map_nil, oFit, oFit]
  | n :: ns, L, hw => by
    rw [List.map_cons, oFit_cons, oFit_cons, o_erm hi, oFit_map hi (fun t ht => hw t (List.mem_of_mem_erase ht))]
    by_cases hL : L = []
    · constructor
      · intro h; exact absurd (by rw [hL]; rfl) h.1
      · intro h; exact absurd hL h.1
    · rw [oD_map hw hL]
      constructor
      · intro ⟨_, h2, h3⟩; exact ⟨hL, hi _ _ h2, h3⟩
      · intro ⟨_, h2, h3⟩; exact ⟨fun q => hL (List.map_eq_nil_iff.mp q), by rw [h2], h3⟩
def oSw (t n u : Int) : Int := if u = t then n else if u = n then t else u
theorem oSw_sw (t n u : Int) : oSw t n (oSw t n u) = u := by
  unfold oSw
  by_cases h1 : u = t
  · rw [if_pos h1]
    by_cases h2 : n = t
    · rw [if_pos h2, h1, h2]
    · rw [if_neg h2, if_pos rfl, h1]
  · rw [if_neg h1]
    by_cases h2 : u = n
    · rw [if_pos h2, if_pos rfl, h2]
    · rw [if_neg h2, if_neg h1, if_neg h2]
theorem oSw_inj (t n : Int) : ∀ x y, oSw t n x = oSw t n y → x = y := fun x y h => by
  have h9 := congrArg (oSw t n) h
  rw [oSw_sw, oSw_sw] at h9
  exact h9
theorem oSw_w {W : Int → Int} {t n : Int} (hw : W t = W n) (u : Int) : W (oSw t n u) = W u := by
  unfold oSw
  split
  · rename_i h; rw [h, hw]
  · split
    · rename_i h; rw [h, hw]
    · rfl
theorem oSw_in {S : List Int} {t n u : Int} (ht : t ∈ S) (hn : n ∈ S) (hu : u ∈ S) : oSw t n u ∈ S := by
  unfold oSw
  split
  · exact hn
  · split
    · exact ht
    · exact hu
theorem oSw_perm {S : List Int} {t n : Int} (hS : S.Nodup) (ht : t ∈ S) (hn : n ∈ S) : List.Perm (S.map (oSw t n)) S := by
  refine (List.perm_ext_iff_of_nodup (List.Pairwise.map _ (fun a b h e => h (oSw_inj t n a b e)) hS) hS).mpr (fun x => ?_)
  rw [List.mem_map]
  constructor
  · intro ⟨u, hu, e⟩
    rw [← e]; exact oSw_in ht hn hu
  · intro hx
    exact ⟨oSw t n x, oSw_in ht hn hx, oSw_sw t n x⟩
theorem oSw_mm (t n : Int) (p : List Int) : (p.map (oSw t n)).map (oSw t n) = p := by
  rw [List.map_map]
  exact List.map_id'' (fun x => oSw_sw t n x) p
theorem o_sym {K : Int} {W : Int → Int} {P : List (List Int)} {S : List Int} (hP : P.Nodup) (hPm : ∀ p, p ∈ P ↔ List.Perm p S) (hS : S.Nodup) {t n : Int} (ht : t ∈ S) (hn : n ∈ S) (hw : W t = W n) {nt : List Int} (htn : t ∉ nt) (hnn : n ∉ nt) : P.countP (fun p => oFit K W p (nt ++ [t])) = P.countP (fun p => oFit K W p (nt ++ [n])) := by
  have hSS := oSw_perm hS ht hn
  have hPP : List.Perm (P.map (List.map (oSw t n))) P := by
    refine (List.perm_ext_iff_of_nodup (List.Pairwise.map _ (fun a b h e => h ?_) hP) hP).mpr (fun q => ?_)
    · rw [List.mem_map]
      constructor
      · intro ⟨p, hp, e⟩
        rw [← e]
        exact (hPm _).mpr ((((hPm p).mp hp).map _).trans hSS)
      · intro hq
        exact ⟨q.map (oSw t n), (hPm _).mpr ((((hPm q).mp hq).map _).trans hSS), oSw_mm t n q⟩
    · have h9 := congrArg (List.map (oSw t n)) e
      rw [oSw_mm, oSw_mm] at h9
      exact h9
  rw [← hPP.countP_eq, List.countP_map]
  refine List.countP_congr (fun p _ => ?_)
  have en : nt.map (oSw t n) = nt := by
    refine (List.map_congr_left (fun u hu => ?_)).trans (List.map_id' nt)
    unfold oSw
    rw [if_neg (fun q => htn (by rw [← q]; exact hu)), if_neg (fun q => hnn (by rw [← q]; exact hu))]
  have e : nt ++ [t] = (nt ++ [n]).map (oSw t n) := by
    rw [List.map_append, en, List.map_cons, List.map_nil]
    unfold oSw
    by_cases h9 : n = t
    · rw [if_pos h9, h9]
    · rw [if_neg h9, if_pos rfl]
  show oFit K W (p.map (oSw t n)) (nt ++ [t]) = true ↔ _
  rw [e]
  exact oFit_map (oSw_inj t n) (fun u _ => oSw_w hw u)
theorem o_sumadd {f : Int → Nat} {b : Int → Bool} : ∀ C : List Int, (C.map (fun t => f t + if b t then 1 else 0)).sum = (C.map f).sum + C.countP b
  | [] => rfl
  | a :: C => by
    rw [List.map_cons, List.map_cons, List.sum_cons, List.sum_cons, List.countP_cons, o_sumadd C]
    omega
theorem o_part {α : Type} {C : List Int} (hC : C.Nodup) {A : α → Bool} {B : Int → α → Bool} : ∀ {P : List α}, (∀ p, p ∈ P → (A p = true → ∃ t, t ∈ C ∧ ∀ u, B u p = true ↔ u = t) ∧ (A p = false → ∀ u, ¬ B u p = true)) → P.countP A = (C.map (fun t => P.countP (B t))).sum
  | [], _ => by
    have e : C.map (fun t => ([] : List α).countP (B t)) = C.map (fun _ => 0) := List.map_congr_left (fun t _ => rfl)
    rw [e, o_sumc]
    rfl
  | p :: P, h => by
    have ih := o_part hC (P := P) (fun q hq => h q (List.mem_cons_of_mem _ hq))
    have e : (C.map (fun t => (p :: P).countP (B t))).sum = (C.map (fun t => P.countP (B t))).sum + C.countP (fun t => B t p) := by
      rw [← o_sumadd]
      congr 1
      exact List.map_congr_left (fun t _ => List.countP_cons)
    rw [List.countP_cons, ih, e]
    congr 1
    by_cases hA : A p = true
    · obtain ⟨t, ht, hu⟩ := (h p List.mem_cons_self).1 hA
      rw [if_pos hA, List.countP_congr (q := fun u => u == t) (fun u _ => by rw [hu u]; simp), ← List.count_eq_countP, hC.count, if_pos ht]
    · have hA' : A p = false := by simpa using hA
      rw [if_neg hA, List.countP_eq_zero.mpr (fun u _ => (h p List.mem_cons_self).2 hA' u)]
/-- one draw more: so many could have been it, and each in as many rows -/
theorem o_step {K : Int} {W : Int → Int} (hW : K = 1 → ∀ t u, W t ≤ W u) {P : List (List Int)} {S : List Int} (hP : P.Nodup) (hPm : ∀ p, p ∈ P ↔ List.Perm p S) (hS : S.Nodup) {n : Int} {nt : List Int} (hn : n ∈ S) (hnn : n ∉ nt) (hmin : ∀ x, x ∈ S → x ∉ nt → W n ≤ W x) : P.countP (fun p => oFit K W p nt) = S.countP (fun t => decide (t ∉ nt ∧ W t = W n)) * P.countP (fun p => oFit K W p (nt ++ [n])) := by
  have hC : (S.filter (fun t => decide (t ∉ nt ∧ W t = W n))).Nodup := hS.sublist List.filter_sublist
  have hCm : ∀ t, t ∈ S.filter (fun t => decide (t ∉ nt ∧ W t = W n)) ↔ t ∈ S ∧ t ∉ nt ∧ W t = W n := fun t => by
    rw [List.mem_filter, decide_eq_true_eq]
  rw [o_part hC (A := fun p => oFit K W p nt) (B := fun t p => oFit K W p (nt ++ [t])) (fun p hp => ⟨fun hA => ?_, fun hA u hB => ?_⟩)]
  · rw [List.map_congr_left (g := fun _ => P.countP (fun p => oFit K W p (nt ++ [n]))) (fun t ht => ?_), o_sumc, ← List.countP_eq_length_filter]
    have h9 := (hCm t).mp ht
    exact o_sym hP hPm hS h9.1 hn h9.2.2 h9.2.1 hnn
  · have hpS := (hPm p).mp hp
    have hpn := hpS.symm.nodup hS
    have hmem : ∀ x, x ∈ oLef p nt ↔ x ∈ S ∧ x ∉ nt := fun x => by rw [oLef_mem hpn, hpS.mem_iff]
    have hne : oLef p nt ≠ [] := List.ne_nil_of_mem ((hmem n).mpr ⟨hn, hnn⟩)
    have hd := (hmem _).mp (oD_mem (K := K) (W := W) hne)
    have h1 := oD_min hW n ((hmem n).mpr ⟨hn, hnn⟩)
    have h2 := hmin _ hd.1 hd.2
    refine ⟨oD K W (oLef p nt), (hCm _).mpr ⟨hd.1, hd.2, by omega⟩, fun u => ?_⟩
    rw [oFit_app]
    exact ⟨fun h => h.2.2.symm, fun h => ⟨hA, hne, h.symm⟩⟩
  · have h9 := (oFit_app.mp hB).1
    rw [h9] at hA
    cases hA
