/-! THE JUDGEMENT: from this frame of method Y, with the memory M in the heap, the machine comes to the method's return, Q of the answer and the memory there. -/
def fp_lh (ls : Array Slot) (nL : Nat) (LL : List (Option Value)) : Prop := ∃ lv : List (Nat × Value), lv_has ls nL lv ∧ ∀ (i : Nat) (v : Value), LL[i]? = some (some v) → (i, v) ∈ lv
theorem fp_lh_at {ls : Array Slot} {nL i : Nat} {LL : List (Option Value)} {v : Value} (h : fp_lh ls nL LL) (e : LL[i]? = some (some v)) : ls[i]? = some (.val v) := by
  obtain ⟨lv, h1, h2⟩ := h
  exact h1.2.2 (i, v) (h2 i v e)
def fp_cat2 (o : Option Value) : Bool := match o with
  | some v => v.category == 2
  | none => false
def fp_ok1 (LL : List (Option Value)) (i : Nat) : Bool := match i with
  | 0 => true
  | j + 1 => !(fp_cat2 (LL.getD j none))
theorem fp_lh_set {ls' : Array Slot} {nL i : Nat} {v : Value} {LL : List (Option Value)} {lv lv' : List (Nat × Value)} (hlv : ∀ (j : Nat) (w : Value), LL[j]? = some (some w) → (j, w) ∈ lv) (hok : fp_ok1 LL i = true) (h' : lv_has ls' nL lv') (e : (i, v) :: lv.filter (fun q => !(q.1 == i) && !(q.1 + 1 == i && q.2.category == 2)) = lv') : fp_lh ls' nL (LL.set i (some v)) := by
  refine ⟨lv', h', fun j w hj => ?_⟩
  rw [← e]
  by_cases hji : j = i
  · subst hji
    have hlt : j < LL.length := by
      have := (List.getElem?_eq_some_iff.mp hj).1
      simpa using this
    rw [List.getElem?_set_self hlt] at hj
    have hw : v = w := by simpa using hj
    subst hw
    exact List.mem_cons_self
  · rw [List.getElem?_set_ne (fun q => hji q.symm)] at hj
    refine List.mem_cons_of_mem _ (List.mem_filter.mpr ⟨hlv j w hj, ?_⟩)
    have h2 : ¬ (j + 1 = i ∧ w.category = 2) := by
      rintro ⟨rfl, h2⟩
      have hg : LL.getD j none = some w := by simp [List.getD_eq_getElem?_getD, hj]
      have hok2 : fp_cat2 (LL.getD j none) = false := by simpa only [fp_ok1, Bool.not_eq_true'] using hok
      rw [hg] at hok2
      simp [fp_cat2, h2] at hok2
    simp only [Bool.and_eq_true, Bool.not_eq_true', beq_eq_false_iff_ne, Bool.and_eq_false_iff]
    refine ⟨hji, ?_⟩
    by_cases h3 : j + 1 = i
    · exact Or.inr (by simpa using fun q => h2 ⟨h3, q⟩)
    · exact Or.inl h3
theorem fp_lh_set2 {ls' : Array Slot} {nL i : Nat} {v : Value} {LL : List (Option Value)} {lv lv' : List (Nat × Value)} (hlv : ∀ (j : Nat) (w : Value), LL[j]? = some (some w) → (j, w) ∈ lv) (hok : fp_ok1 LL i = true) (h' : lv_has ls' nL lv') (e : (i, v) :: lv.filter (fun q => !(q.1 == i) && (!(q.1 == i + 1) && !(q.1 + 1 == i && q.2.category == 2))) = lv') : fp_lh ls' nL ((LL.set i (some v)).set (i + 1) none) := by
  refine ⟨lv', h', fun j w hj => ?_⟩
  rw [← e]
  by_cases hj1 : j = i + 1
  · subst hj1
    exfalso
    by_cases hlt : i + 1 < (LL.set i (some v)).length
    · rw [List.getElem?_set_self hlt] at hj
      simp at hj
    · rw [List.getElem?_eq_none (by rw [List.length_set]; omega)] at hj
      simp at hj
  rw [List.getElem?_set_ne (fun q => hj1 q.symm)] at hj
  by_cases hji : j = i
  · subst hji
    have hlt : j < LL.length := by
      have := (List.getElem?_eq_some_iff.mp hj).1
      simpa using this
    rw [List.getElem?_set_self hlt] at hj
    have hw : v = w := by simpa using hj
    subst hw
    exact List.mem_cons_self
  · rw [List.getElem?_set_ne (fun q => hji q.symm)] at hj
    refine List.mem_cons_of_mem _ (List.mem_filter.mpr ⟨hlv j w hj, ?_⟩)
    have h2 : ¬ (j + 1 = i ∧ w.category = 2) := by
      rintro ⟨rfl, h2⟩
      have hg : LL.getD j none = some w := by simp [List.getD_eq_getElem?_getD, hj]
      have hok2 : fp_cat2 (LL.getD j none) = false := by simpa only [fp_ok1, Bool.not_eq_true'] using hok
      rw [hg] at hok2
      simp [fp_cat2, h2] at hok2
    simp only [Bool.and_eq_true, Bool.not_eq_true', beq_eq_false_iff_ne, Bool.and_eq_false_iff]
    refine ⟨hji, hj1, ?_⟩
    by_cases h3 : j + 1 = i
    · exact Or.inr (by simpa using fun q => h2 ⟨h3, q⟩)
    · exact Or.inl h3
def fp_Cx (G : fp_WG) (Y : fp_MR) (p : Program) (s : State) (m : MethodId) (meth : Method) (c : Code) : Prop :=
  p.tables.exec = Jvm.exec ∧ c.code = Y.2.1 ∧ c.maxLocals = Y.2.2.1 ∧ s.vm.findClass Y.1.cls = some m.cls ∧ meth.sig.returnType = Y.2.2.2 ∧ meth.locks = false ∧ meth.name = Y.1.name ∧ fp_K0 G ∧ G.2.1.WarmedH s.vm
abbrev fp_rm (d mc ms : Nat) : Room := { frames := d, cells := mc, slots := ms, locals := 40 * d }
abbrev fp_Q : Type := Option Value → fp_Mem → Prop
def fp_Qx (G : fp_WG) (nf : Nat) (Q : fp_Q) : Array Value → State → Outcome → State → Prop := fun _ _ oc t => ∃ (r : Option Value) (M' : fp_Mem), oc = .returned r ∧ Q r M' ∧ fp_Rep G nf M' t.heap
def qI (P : Int → fp_Mem → Prop) : fp_Q := fun r M => ∃ z, r = some (iV z) ∧ P z M
def qJ (P : Int → fp_Mem → Prop) : fp_Q := fun r M => ∃ z, r = some (jV z) ∧ P z M
def qV (P : fp_Mem → Prop) : fp_Q := fun r M => r = none ∧ P M
def qR (G : fp_WG) (P : Nat → fp_Mem → Prop) : fp_Q := fun r M => ∃ k, r = some (rV G k) ∧ P k M
/-- n: cells now; cs, ss: cells and slots made so far; mc, ms: at the end; nf: cells at the end -/
def fp_SP (l : Launch) (G : fp_WG) (d n cs ss mc ms nf : Nat) (Y : fp_MR) (pc : Nat) (LL : List (Option Value)) (st : List Value) (M : fp_Mem) (Q : fp_Q) : Prop :=
  ∀ (p : Program) (e : Env) (s : State) (m : MethodId) (args : Array Value) (below : List Frame) (meth : Method) (c : Code) (H : Heap) (locs : List Loc) (ls : Array Slot), fp_Cx G Y p s m meth c → fp_Rep G n M H → (∀ q ∈ locs, fp_b G ≤ q.base) → fp_lh ls Y.2.2.1 LL →
    W p l e (fp_rm d mc ms) s m args below meth c H locs cs ss (MQ below (fp_Qx G nf Q) args s mc ms (fun q => fp_b G ≤ q)) (F0 m pc ls st)
/-- the references of the layout stand, whatever M says there -/
def fp_sx (M : fp_Mem) : fp_Mem := fun k j => if fp_ref k j = 0 then M k j else (fp_ref k j : Int)
def fp_lq (Q : fp_Q) : fp_Q := fun r X => ∃ M, X = fp_sx M ∧ Q r M
def fp_S (l : Launch) (G : fp_WG) (d : Nat) (Y : fp_MR) (pc : Nat) (LL : List (Option Value)) (st : List Value) (M : fp_Mem) (Q : fp_Q) : Prop := fp_SP l G d fp_K 0 0 0 0 fp_K Y pc LL st (fp_sx M) (fp_lq Q)
section SPR
variable {l : Launch} {G : fp_WG} {d n cs ss mc ms nf : Nat} {Y : fp_MR} {pc pc' : Nat} {LL LL' : List (Option Value)} {st : List Value} {M : fp_Mem} {Q : fp_Q}

theorem SP.iconst {z : Int} (hd : decode Y.2.1 pc = .ok (.iconst z, 1)) (hp : pc + 1 = pc')  (k : fp_SP l G d n cs ss mc ms nf Y pc' LL (iV z :: st) M Q) : fp_SP l G d n cs ss mc ms nf Y pc LL (st) M Q := by
  subst hp
  intro p e s m args below meth c H locs ls C hR hL hl
  have K := k p e s m args below meth c H locs ls C hR hL hl
  exact lv_iconst C.1 C.2.1 hd rfl K
theorem S.iconst {z : Int} (hd : decode Y.2.1 pc = .ok (.iconst z, 1)) (hp : pc + 1 = pc')  (k : fp_S l G d Y pc' LL (iV z :: st) M Q) : fp_S l G d Y pc LL (st) M Q := SP.iconst hd hp  k
theorem SP.bipush {z : Int} (hd : decode Y.2.1 pc = .ok (.bipush z, 2)) (hp : pc + 2 = pc') (hz : (Int8.ofInt z).toInt32 = Int32.ofInt z) (k : fp_SP l G d n cs ss mc ms nf Y pc' LL (iV z :: st) M Q) : fp_SP l G d n cs ss mc ms nf Y pc LL (st) M Q := by
  subst hp
  intro p e s m args below meth c H locs ls C hR hL hl
  have K := k p e s m args below meth c H locs ls C hR hL hl
  exact lv_bipush C.1 C.2.1 hd hz K
theorem S.bipush {z : Int} (hd : decode Y.2.1 pc = .ok (.bipush z, 2)) (hp : pc + 2 = pc') (hz : (Int8.ofInt z).toInt32 = Int32.ofInt z) (k : fp_S l G d Y pc' LL (iV z :: st) M Q) : fp_S l G d Y pc LL (st) M Q := SP.bipush hd hp hz k
theorem SP.sipush {z : Int} (hd : decode Y.2.1 pc = .ok (.sipush z, 3)) (hp : pc + 3 = pc') (hz : (Int16.ofInt z).toInt32 = Int32.ofInt z) (k : fp_SP l G d n cs ss mc ms nf Y pc' LL (iV z :: st) M Q) : fp_SP l G d n cs ss mc ms nf Y pc LL (st) M Q := by
  subst hp
  intro p e s m args below meth c H locs ls C hR hL hl
  have K := k p e s m args below meth c H locs ls C hR hL hl
  exact lv_sipush C.1 C.2.1 hd hz K
theorem S.sipush {z : Int} (hd : decode Y.2.1 pc = .ok (.sipush z, 3)) (hp : pc + 3 = pc') (hz : (Int16.ofInt z).toInt32 = Int32.ofInt z) (k : fp_S l G d Y pc' LL (iV z :: st) M Q) : fp_S l G d Y pc LL (st) M Q := SP.sipush hd hp hz k
theorem SP.lconst {z : Fin 2} {w : Int} (hd : decode Y.2.1 pc = .ok (.lconst z, 1)) (hp : pc + 1 = pc') (hz : Int64.ofNat (z : Nat) = Int64.ofInt w) (k : fp_SP l G d n cs ss mc ms nf Y pc' LL (jV w :: st) M Q) : fp_SP l G d n cs ss mc ms nf Y pc LL (st) M Q := by
  subst hp
  intro p e s m args below meth c H locs ls C hR hL hl
  have K := k p e s m args below meth c H locs ls C hR hL hl
  exact lv_lconst C.1 C.2.1 hd hz K
theorem S.lconst {z : Fin 2} {w : Int} (hd : decode Y.2.1 pc = .ok (.lconst z, 1)) (hp : pc + 1 = pc') (hz : Int64.ofNat (z : Nat) = Int64.ofInt w) (k : fp_S l G d Y pc' LL (jV w :: st) M Q) : fp_S l G d Y pc LL (st) M Q := SP.lconst hd hp hz k
theorem SP.iload_n {q : Fin 4} {i : Nat} {z : Int} (hd : decode Y.2.1 pc = .ok (.iload_n q, 1)) (hp : pc + 1 = pc') (hi : (q : Nat) = i) (h : LL[i]? = some (some (iV z))) (k : fp_SP l G d n cs ss mc ms nf Y pc' LL (iV z :: st) M Q) : fp_SP l G d n cs ss mc ms nf Y pc LL (st) M Q := by
  subst hp
  intro p e s m args below meth c H locs ls C hR hL hl
  have K := k p e s m args below meth c H locs ls C hR hL hl
  exact lv_iload_n C.1 C.2.1 hd hi (fp_lh_at hl h) K
theorem S.iload_n {q : Fin 4} {i : Nat} {z : Int} (hd : decode Y.2.1 pc = .ok (.iload_n q, 1)) (hp : pc + 1 = pc') (hi : (q : Nat) = i) (h : LL[i]? = some (some (iV z))) (k : fp_S l G d Y pc' LL (iV z :: st) M Q) : fp_S l G d Y pc LL (st) M Q := SP.iload_n hd hp hi h k
theorem SP.iload {i : Nat} {z : Int} (hd : decode Y.2.1 pc = .ok (.iload i, 2)) (hp : pc + 2 = pc') (h : LL[i]? = some (some (iV z))) (k : fp_SP l G d n cs ss mc ms nf Y pc' LL (iV z :: st) M Q) : fp_SP l G d n cs ss mc ms nf Y pc LL (st) M Q := by
  subst hp
  intro p e s m args below meth c H locs ls C hR hL hl
  have K := k p e s m args below meth c H locs ls C hR hL hl
  exact lv_iload C.1 C.2.1 hd (fp_lh_at hl h) K
theorem S.iload {i : Nat} {z : Int} (hd : decode Y.2.1 pc = .ok (.iload i, 2)) (hp : pc + 2 = pc') (h : LL[i]? = some (some (iV z))) (k : fp_S l G d Y pc' LL (iV z :: st) M Q) : fp_S l G d Y pc LL (st) M Q := SP.iload hd hp h k
theorem SP.lload_n {q : Fin 4} {i : Nat} {z : Int} (hd : decode Y.2.1 pc = .ok (.lload_n q, 1)) (hp : pc + 1 = pc') (hi : (q : Nat) = i) (h : LL[i]? = some (some (jV z))) (k : fp_SP l G d n cs ss mc ms nf Y pc' LL (jV z :: st) M Q) : fp_SP l G d n cs ss mc ms nf Y pc LL (st) M Q := by
  subst hp
  intro p e s m args below meth c H locs ls C hR hL hl
  have K := k p e s m args below meth c H locs ls C hR hL hl
  exact lv_lload_n C.1 C.2.1 hd hi (fp_lh_at hl h) K
theorem S.lload_n {q : Fin 4} {i : Nat} {z : Int} (hd : decode Y.2.1 pc = .ok (.lload_n q, 1)) (hp : pc + 1 = pc') (hi : (q : Nat) = i) (h : LL[i]? = some (some (jV z))) (k : fp_S l G d Y pc' LL (jV z :: st) M Q) : fp_S l G d Y pc LL (st) M Q := SP.lload_n hd hp hi h k
theorem SP.lload {i : Nat} {z : Int} (hd : decode Y.2.1 pc = .ok (.lload i, 2)) (hp : pc + 2 = pc') (h : LL[i]? = some (some (jV z))) (k : fp_SP l G d n cs ss mc ms nf Y pc' LL (jV z :: st) M Q) : fp_SP l G d n cs ss mc ms nf Y pc LL (st) M Q := by
  subst hp
  intro p e s m args below meth c H locs ls C hR hL hl
  have K := k p e s m args below meth c H locs ls C hR hL hl
  exact lv_lload C.1 C.2.1 hd (fp_lh_at hl h) K
theorem S.lload {i : Nat} {z : Int} (hd : decode Y.2.1 pc = .ok (.lload i, 2)) (hp : pc + 2 = pc') (h : LL[i]? = some (some (jV z))) (k : fp_S l G d Y pc' LL (jV z :: st) M Q) : fp_S l G d Y pc LL (st) M Q := SP.lload hd hp h k
theorem SP.aload_n {q : Fin 4} {i a : Nat} (hd : decode Y.2.1 pc = .ok (.aload_n q, 1)) (hp : pc + 1 = pc') (hi : (q : Nat) = i) (h : LL[i]? = some (some (.ref a))) (k : fp_SP l G d n cs ss mc ms nf Y pc' LL (.ref a :: st) M Q) : fp_SP l G d n cs ss mc ms nf Y pc LL (st) M Q := by
  subst hp
  intro p e s m args below meth c H locs ls C hR hL hl
  have K := k p e s m args below meth c H locs ls C hR hL hl
  exact lv_aload_n C.1 C.2.1 hd hi (fp_lh_at hl h) K
theorem S.aload_n {q : Fin 4} {i a : Nat} (hd : decode Y.2.1 pc = .ok (.aload_n q, 1)) (hp : pc + 1 = pc') (hi : (q : Nat) = i) (h : LL[i]? = some (some (.ref a))) (k : fp_S l G d Y pc' LL (.ref a :: st) M Q) : fp_S l G d Y pc LL (st) M Q := SP.aload_n hd hp hi h k
theorem SP.aload {i a : Nat} (hd : decode Y.2.1 pc = .ok (.aload i, 2)) (hp : pc + 2 = pc') (h : LL[i]? = some (some (.ref a))) (k : fp_SP l G d n cs ss mc ms nf Y pc' LL (.ref a :: st) M Q) : fp_SP l G d n cs ss mc ms nf Y pc LL (st) M Q := by
  subst hp
  intro p e s m args below meth c H locs ls C hR hL hl
  have K := k p e s m args below meth c H locs ls C hR hL hl
  exact lv_aload C.1 C.2.1 hd (fp_lh_at hl h) K
theorem S.aload {i a : Nat} (hd : decode Y.2.1 pc = .ok (.aload i, 2)) (hp : pc + 2 = pc') (h : LL[i]? = some (some (.ref a))) (k : fp_S l G d Y pc' LL (.ref a :: st) M Q) : fp_S l G d Y pc LL (st) M Q := SP.aload hd hp h k
theorem SP.istore_n {q : Fin 4} {i : Nat} {z : Int} (hd : decode Y.2.1 pc = .ok (.istore_n q, 1)) (hp : pc + 1 = pc') (hn : i < Y.2.2.1) (ho : fp_ok1 LL i = true) (hs : LL.set i (some (iV z)) = LL') (hi : (q : Nat) = i) (k : fp_SP l G d n cs ss mc ms nf Y pc' LL' (st) M Q) : fp_SP l G d n cs ss mc ms nf Y pc LL (iV z :: st) M Q := by
  subst hp
  subst hs
  intro p e s m args below meth c H locs ls C hR hL hl
  obtain ⟨lv, hv, hm⟩ := hl
  exact lv_istore_n C.1 C.2.1 hd hi hv hn rfl (fun ls2 h2 => k p e s m args below meth c H locs ls2 C hR hL (fp_lh_set hm ho h2 rfl))
theorem S.istore_n {q : Fin 4} {i : Nat} {z : Int} (hd : decode Y.2.1 pc = .ok (.istore_n q, 1)) (hp : pc + 1 = pc') (hn : i < Y.2.2.1) (ho : fp_ok1 LL i = true) (hs : LL.set i (some (iV z)) = LL') (hi : (q : Nat) = i) (k : fp_S l G d Y pc' LL' (st) M Q) : fp_S l G d Y pc LL (iV z :: st) M Q := SP.istore_n hd hp hn ho hs hi k
theorem SP.istore {i : Nat} {z : Int} (hd : decode Y.2.1 pc = .ok (.istore i, 2)) (hp : pc + 2 = pc') (hn : i < Y.2.2.1) (ho : fp_ok1 LL i = true) (hs : LL.set i (some (iV z)) = LL')  (k : fp_SP l G d n cs ss mc ms nf Y pc' LL' (st) M Q) : fp_SP l G d n cs ss mc ms nf Y pc LL (iV z :: st) M Q := by
  subst hp
  subst hs
  intro p e s m args below meth c H locs ls C hR hL hl
  obtain ⟨lv, hv, hm⟩ := hl
  exact lv_istore C.1 C.2.1 hd hv hn rfl (fun ls2 h2 => k p e s m args below meth c H locs ls2 C hR hL (fp_lh_set hm ho h2 rfl))
theorem S.istore {i : Nat} {z : Int} (hd : decode Y.2.1 pc = .ok (.istore i, 2)) (hp : pc + 2 = pc') (hn : i < Y.2.2.1) (ho : fp_ok1 LL i = true) (hs : LL.set i (some (iV z)) = LL')  (k : fp_S l G d Y pc' LL' (st) M Q) : fp_S l G d Y pc LL (iV z :: st) M Q := SP.istore hd hp hn ho hs  k
theorem SP.astore_n {q : Fin 4} {i a : Nat} (hd : decode Y.2.1 pc = .ok (.astore_n q, 1)) (hp : pc + 1 = pc') (hn : i < Y.2.2.1) (ho : fp_ok1 LL i = true) (hs : LL.set i (some (.ref a)) = LL') (hi : (q : Nat) = i) (k : fp_SP l G d n cs ss mc ms nf Y pc' LL' (st) M Q) : fp_SP l G d n cs ss mc ms nf Y pc LL (.ref a :: st) M Q := by
  subst hp
  subst hs
  intro p e s m args below meth c H locs ls C hR hL hl
  obtain ⟨lv, hv, hm⟩ := hl
  exact lv_astore_n C.1 C.2.1 hd hi hv hn rfl (fun ls2 h2 => k p e s m args below meth c H locs ls2 C hR hL (fp_lh_set hm ho h2 rfl))
theorem S.astore_n {q : Fin 4} {i a : Nat} (hd : decode Y.2.1 pc = .ok (.astore_n q, 1)) (hp : pc + 1 = pc') (hn : i < Y.2.2.1) (ho : fp_ok1 LL i = true) (hs : LL.set i (some (.ref a)) = LL') (hi : (q : Nat) = i) (k : fp_S l G d Y pc' LL' (st) M Q) : fp_S l G d Y pc LL (.ref a :: st) M Q := SP.astore_n hd hp hn ho hs hi k
theorem SP.astore {i a : Nat} (hd : decode Y.2.1 pc = .ok (.astore i, 2)) (hp : pc + 2 = pc') (hn : i < Y.2.2.1) (ho : fp_ok1 LL i = true) (hs : LL.set i (some (.ref a)) = LL')  (k : fp_SP l G d n cs ss mc ms nf Y pc' LL' (st) M Q) : fp_SP l G d n cs ss mc ms nf Y pc LL (.ref a :: st) M Q := by
  subst hp
  subst hs
  intro p e s m args below meth c H locs ls C hR hL hl
  obtain ⟨lv, hv, hm⟩ := hl
  exact lv_astore C.1 C.2.1 hd hv hn rfl (fun ls2 h2 => k p e s m args below meth c H locs ls2 C hR hL (fp_lh_set hm ho h2 rfl))
theorem S.astore {i a : Nat} (hd : decode Y.2.1 pc = .ok (.astore i, 2)) (hp : pc + 2 = pc') (hn : i < Y.2.2.1) (ho : fp_ok1 LL i = true) (hs : LL.set i (some (.ref a)) = LL')  (k : fp_S l G d Y pc' LL' (st) M Q) : fp_S l G d Y pc LL (.ref a :: st) M Q := SP.astore hd hp hn ho hs  k
theorem SP.lstore_n {q : Fin 4} {i : Nat} {z : Int} (hd : decode Y.2.1 pc = .ok (.lstore_n q, 1)) (hp : pc + 1 = pc') (hn : i < Y.2.2.1) (ho : fp_ok1 LL i = true) (hs : (LL.set i (some (jV z))).set (i + 1) none = LL') (hi : (q : Nat) = i) (hn2 : i + 1 < Y.2.2.1) (k : fp_SP l G d n cs ss mc ms nf Y pc' LL' (st) M Q) : fp_SP l G d n cs ss mc ms nf Y pc LL (jV z :: st) M Q := by
  subst hp
  subst hs
  intro p e s m args below meth c H locs ls C hR hL hl
  obtain ⟨lv, hv, hm⟩ := hl
  exact lv_lstore_n C.1 C.2.1 hd hi hv hn2 rfl (fun ls2 h2 => k p e s m args below meth c H locs ls2 C hR hL (fp_lh_set2 hm ho h2 rfl))
theorem S.lstore_n {q : Fin 4} {i : Nat} {z : Int} (hd : decode Y.2.1 pc = .ok (.lstore_n q, 1)) (hp : pc + 1 = pc') (hn : i < Y.2.2.1) (ho : fp_ok1 LL i = true) (hs : (LL.set i (some (jV z))).set (i + 1) none = LL') (hi : (q : Nat) = i) (hn2 : i + 1 < Y.2.2.1) (k : fp_S l G d Y pc' LL' (st) M Q) : fp_S l G d Y pc LL (jV z :: st) M Q := SP.lstore_n hd hp hn ho hs hi hn2 k
theorem SP.lstore {i : Nat} {z : Int} (hd : decode Y.2.1 pc = .ok (.lstore i, 2)) (hp : pc + 2 = pc') (hn : i < Y.2.2.1) (ho : fp_ok1 LL i = true) (hs : (LL.set i (some (jV z))).set (i + 1) none = LL') (hn2 : i + 1 < Y.2.2.1) (k : fp_SP l G d n cs ss mc ms nf Y pc' LL' (st) M Q) : fp_SP l G d n cs ss mc ms nf Y pc LL (jV z :: st) M Q := by
  subst hp
  subst hs
  intro p e s m args below meth c H locs ls C hR hL hl
  obtain ⟨lv, hv, hm⟩ := hl
  exact lv_lstore C.1 C.2.1 hd hv hn2 rfl (fun ls2 h2 => k p e s m args below meth c H locs ls2 C hR hL (fp_lh_set2 hm ho h2 rfl))
theorem S.lstore {i : Nat} {z : Int} (hd : decode Y.2.1 pc = .ok (.lstore i, 2)) (hp : pc + 2 = pc') (hn : i < Y.2.2.1) (ho : fp_ok1 LL i = true) (hs : (LL.set i (some (jV z))).set (i + 1) none = LL') (hn2 : i + 1 < Y.2.2.1) (k : fp_S l G d Y pc' LL' (st) M Q) : fp_S l G d Y pc LL (jV z :: st) M Q := SP.lstore hd hp hn ho hs hn2 k
theorem SP.iinc {i : Nat} {z a : Int} (hd : decode Y.2.1 pc = .ok (.iinc i z, 3)) (hp : pc + 3 = pc') (hn : i < Y.2.2.1) (ho : fp_ok1 LL i = true) (hs : LL.set i (some (iV (a + z))) = LL') (h : LL[i]? = some (some (iV a))) (k : fp_SP l G d n cs ss mc ms nf Y pc' LL' (st) M Q) : fp_SP l G d n cs ss mc ms nf Y pc LL (st) M Q := by
  subst hp
  subst hs
  intro p e s m args below meth c H locs ls C hR hL hl
  obtain ⟨lv, hv, hm⟩ := hl
  obtain ⟨k9, hk9⟩ := List.getElem?_of_mem (hm i _ h)
  exact lv_iinc (v := Int32.ofInt (a + z)) C.1 C.2.1 hd hv hk9 (Int32.ofInt_add a z).symm hn rfl (fun ls2 h2 => k p e s m args below meth c H locs ls2 C hR hL (fp_lh_set hm ho h2 rfl))
theorem S.iinc {i : Nat} {z a : Int} (hd : decode Y.2.1 pc = .ok (.iinc i z, 3)) (hp : pc + 3 = pc') (hn : i < Y.2.2.1) (ho : fp_ok1 LL i = true) (hs : LL.set i (some (iV (a + z))) = LL') (h : LL[i]? = some (some (iV a))) (k : fp_S l G d Y pc' LL' (st) M Q) : fp_S l G d Y pc LL (st) M Q := SP.iinc hd hp hn ho hs h k
theorem SP.iadd {a b : Int} (hd : decode Y.2.1 pc = .ok (.iadd, 1)) (hp : pc + 1 = pc')  (k : fp_SP l G d n cs ss mc ms nf Y pc' LL (iV (a + b) :: st) M Q) : fp_SP l G d n cs ss mc ms nf Y pc LL (iV b :: iV a :: st) M Q := by
  subst hp
  intro p e s m args below meth c H locs ls C hR hL hl
  have K := k p e s m args below meth c H locs ls C hR hL hl
  exact lv_iadd C.1 C.2.1 hd (by rw [← Int32.ofInt_add]; exact K)
theorem S.iadd {a b : Int} (hd : decode Y.2.1 pc = .ok (.iadd, 1)) (hp : pc + 1 = pc')  (k : fp_S l G d Y pc' LL (iV (a + b) :: st) M Q) : fp_S l G d Y pc LL (iV b :: iV a :: st) M Q := SP.iadd hd hp  k
theorem SP.isub {a b : Int} (hd : decode Y.2.1 pc = .ok (.isub, 1)) (hp : pc + 1 = pc')  (k : fp_SP l G d n cs ss mc ms nf Y pc' LL (iV (a - b) :: st) M Q) : fp_SP l G d n cs ss mc ms nf Y pc LL (iV b :: iV a :: st) M Q := by
  subst hp
  intro p e s m args below meth c H locs ls C hR hL hl
  have K := k p e s m args below meth c H locs ls C hR hL hl
  exact lv_isub C.1 C.2.1 hd (by rw [← Int32.ofInt_sub]; exact K)
theorem S.isub {a b : Int} (hd : decode Y.2.1 pc = .ok (.isub, 1)) (hp : pc + 1 = pc')  (k : fp_S l G d Y pc' LL (iV (a - b) :: st) M Q) : fp_S l G d Y pc LL (iV b :: iV a :: st) M Q := SP.isub hd hp  k
theorem SP.imul {a b : Int} (hd : decode Y.2.1 pc = .ok (.imul, 1)) (hp : pc + 1 = pc')  (k : fp_SP l G d n cs ss mc ms nf Y pc' LL (iV (a * b) :: st) M Q) : fp_SP l G d n cs ss mc ms nf Y pc LL (iV b :: iV a :: st) M Q := by
  subst hp
  intro p e s m args below meth c H locs ls C hR hL hl
  have K := k p e s m args below meth c H locs ls C hR hL hl
  exact lv_imul C.1 C.2.1 hd (by rw [← Int32.ofInt_mul]; exact K)
theorem S.imul {a b : Int} (hd : decode Y.2.1 pc = .ok (.imul, 1)) (hp : pc + 1 = pc')  (k : fp_S l G d Y pc' LL (iV (a * b) :: st) M Q) : fp_S l G d Y pc LL (iV b :: iV a :: st) M Q := SP.imul hd hp  k
theorem SP.ladd {a b : Int} (hd : decode Y.2.1 pc = .ok (.ladd, 1)) (hp : pc + 1 = pc')  (k : fp_SP l G d n cs ss mc ms nf Y pc' LL (jV (a + b) :: st) M Q) : fp_SP l G d n cs ss mc ms nf Y pc LL (jV b :: jV a :: st) M Q := by
  subst hp
  intro p e s m args below meth c H locs ls C hR hL hl
  have K := k p e s m args below meth c H locs ls C hR hL hl
  exact lv_ladd C.1 C.2.1 hd (by rw [← Int64.ofInt_add]; exact K)
theorem S.ladd {a b : Int} (hd : decode Y.2.1 pc = .ok (.ladd, 1)) (hp : pc + 1 = pc')  (k : fp_S l G d Y pc' LL (jV (a + b) :: st) M Q) : fp_S l G d Y pc LL (jV b :: jV a :: st) M Q := SP.ladd hd hp  k
theorem SP.lsub {a b : Int} (hd : decode Y.2.1 pc = .ok (.lsub, 1)) (hp : pc + 1 = pc')  (k : fp_SP l G d n cs ss mc ms nf Y pc' LL (jV (a - b) :: st) M Q) : fp_SP l G d n cs ss mc ms nf Y pc LL (jV b :: jV a :: st) M Q := by
  subst hp
  intro p e s m args below meth c H locs ls C hR hL hl
  have K := k p e s m args below meth c H locs ls C hR hL hl
  exact lv_lsub C.1 C.2.1 hd (by rw [← Int64.ofInt_sub]; exact K)
theorem S.lsub {a b : Int} (hd : decode Y.2.1 pc = .ok (.lsub, 1)) (hp : pc + 1 = pc')  (k : fp_S l G d Y pc' LL (jV (a - b) :: st) M Q) : fp_S l G d Y pc LL (jV b :: jV a :: st) M Q := SP.lsub hd hp  k
theorem SP.lmul {a b : Int} (hd : decode Y.2.1 pc = .ok (.lmul, 1)) (hp : pc + 1 = pc')  (k : fp_SP l G d n cs ss mc ms nf Y pc' LL (jV (a * b) :: st) M Q) : fp_SP l G d n cs ss mc ms nf Y pc LL (jV b :: jV a :: st) M Q := by
  subst hp
  intro p e s m args below meth c H locs ls C hR hL hl
  have K := k p e s m args below meth c H locs ls C hR hL hl
  exact lv_lmul C.1 C.2.1 hd (by rw [← Int64.ofInt_mul]; exact K)
theorem S.lmul {a b : Int} (hd : decode Y.2.1 pc = .ok (.lmul, 1)) (hp : pc + 1 = pc')  (k : fp_S l G d Y pc' LL (jV (a * b) :: st) M Q) : fp_S l G d Y pc LL (jV b :: jV a :: st) M Q := SP.lmul hd hp  k
theorem SP.ineg {a : Int} (hd : decode Y.2.1 pc = .ok (.ineg, 1)) (hp : pc + 1 = pc')  (k : fp_SP l G d n cs ss mc ms nf Y pc' LL (iV (-a) :: st) M Q) : fp_SP l G d n cs ss mc ms nf Y pc LL (iV a :: st) M Q := by
  subst hp
  intro p e s m args below meth c H locs ls C hR hL hl
  have K := k p e s m args below meth c H locs ls C hR hL hl
  exact lv_ineg C.1 C.2.1 hd (by rw [Int32.neg_ofInt]; exact K)
theorem S.ineg {a : Int} (hd : decode Y.2.1 pc = .ok (.ineg, 1)) (hp : pc + 1 = pc')  (k : fp_S l G d Y pc' LL (iV (-a) :: st) M Q) : fp_S l G d Y pc LL (iV a :: st) M Q := SP.ineg hd hp  k
theorem SP.iand {a b c9 : Int} (hd : decode Y.2.1 pc = .ok (.iand, 1)) (hp : pc + 1 = pc') (hv9 : Int32.ofInt a &&& Int32.ofInt b = Int32.ofInt c9) (k : fp_SP l G d n cs ss mc ms nf Y pc' LL (iV c9 :: st) M Q) : fp_SP l G d n cs ss mc ms nf Y pc LL (iV b :: iV a :: st) M Q := by
  subst hp
  intro p e s m args below meth c H locs ls C hR hL hl
  have K := k p e s m args below meth c H locs ls C hR hL hl
  exact lv_iand C.1 C.2.1 hd (by rw [hv9]; exact K)
theorem S.iand {a b c9 : Int} (hd : decode Y.2.1 pc = .ok (.iand, 1)) (hp : pc + 1 = pc') (hv9 : Int32.ofInt a &&& Int32.ofInt b = Int32.ofInt c9) (k : fp_S l G d Y pc' LL (iV c9 :: st) M Q) : fp_S l G d Y pc LL (iV b :: iV a :: st) M Q := SP.iand hd hp hv9 k
theorem SP.ior {a b c9 : Int} (hd : decode Y.2.1 pc = .ok (.ior, 1)) (hp : pc + 1 = pc') (hv9 : Int32.ofInt a ||| Int32.ofInt b = Int32.ofInt c9) (k : fp_SP l G d n cs ss mc ms nf Y pc' LL (iV c9 :: st) M Q) : fp_SP l G d n cs ss mc ms nf Y pc LL (iV b :: iV a :: st) M Q := by
  subst hp
  intro p e s m args below meth c H locs ls C hR hL hl
  have K := k p e s m args below meth c H locs ls C hR hL hl
  exact lv_ior C.1 C.2.1 hd (by rw [hv9]; exact K)
theorem S.ior {a b c9 : Int} (hd : decode Y.2.1 pc = .ok (.ior, 1)) (hp : pc + 1 = pc') (hv9 : Int32.ofInt a ||| Int32.ofInt b = Int32.ofInt c9) (k : fp_S l G d Y pc' LL (iV c9 :: st) M Q) : fp_S l G d Y pc LL (iV b :: iV a :: st) M Q := SP.ior hd hp hv9 k
theorem SP.ixor {a b c9 : Int} (hd : decode Y.2.1 pc = .ok (.ixor, 1)) (hp : pc + 1 = pc') (hv9 : Int32.ofInt a ^^^ Int32.ofInt b = Int32.ofInt c9) (k : fp_SP l G d n cs ss mc ms nf Y pc' LL (iV c9 :: st) M Q) : fp_SP l G d n cs ss mc ms nf Y pc LL (iV b :: iV a :: st) M Q := by
  subst hp
  intro p e s m args below meth c H locs ls C hR hL hl
  have K := k p e s m args below meth c H locs ls C hR hL hl
  exact lv_ixor C.1 C.2.1 hd (by rw [hv9]; exact K)
theorem S.ixor {a b c9 : Int} (hd : decode Y.2.1 pc = .ok (.ixor, 1)) (hp : pc + 1 = pc') (hv9 : Int32.ofInt a ^^^ Int32.ofInt b = Int32.ofInt c9) (k : fp_S l G d Y pc' LL (iV c9 :: st) M Q) : fp_S l G d Y pc LL (iV b :: iV a :: st) M Q := SP.ixor hd hp hv9 k
theorem SP.land {a b c9 : Int} (hd : decode Y.2.1 pc = .ok (.land, 1)) (hp : pc + 1 = pc') (hv9 : Int64.ofInt a &&& Int64.ofInt b = Int64.ofInt c9) (k : fp_SP l G d n cs ss mc ms nf Y pc' LL (jV c9 :: st) M Q) : fp_SP l G d n cs ss mc ms nf Y pc LL (jV b :: jV a :: st) M Q := by
  subst hp
  intro p e s m args below meth c H locs ls C hR hL hl
  have K := k p e s m args below meth c H locs ls C hR hL hl
  exact lv_land C.1 C.2.1 hd (by rw [hv9]; exact K)
theorem S.land {a b c9 : Int} (hd : decode Y.2.1 pc = .ok (.land, 1)) (hp : pc + 1 = pc') (hv9 : Int64.ofInt a &&& Int64.ofInt b = Int64.ofInt c9) (k : fp_S l G d Y pc' LL (jV c9 :: st) M Q) : fp_S l G d Y pc LL (jV b :: jV a :: st) M Q := SP.land hd hp hv9 k
theorem SP.lor {a b c9 : Int} (hd : decode Y.2.1 pc = .ok (.lor, 1)) (hp : pc + 1 = pc') (hv9 : Int64.ofInt a ||| Int64.ofInt b = Int64.ofInt c9) (k : fp_SP l G d n cs ss mc ms nf Y pc' LL (jV c9 :: st) M Q) : fp_SP l G d n cs ss mc ms nf Y pc LL (jV b :: jV a :: st) M Q := by
  subst hp
  intro p e s m args below meth c H locs ls C hR hL hl
  have K := k p e s m args below meth c H locs ls C hR hL hl
  exact lv_lor C.1 C.2.1 hd (by rw [hv9]; exact K)
theorem S.lor {a b c9 : Int} (hd : decode Y.2.1 pc = .ok (.lor, 1)) (hp : pc + 1 = pc') (hv9 : Int64.ofInt a ||| Int64.ofInt b = Int64.ofInt c9) (k : fp_S l G d Y pc' LL (jV c9 :: st) M Q) : fp_S l G d Y pc LL (jV b :: jV a :: st) M Q := SP.lor hd hp hv9 k
theorem SP.ishl {a b c9 : Int} (hd : decode Y.2.1 pc = .ok (.ishl, 1)) (hp : pc + 1 = pc') (hv9 : Int32.ofInt a <<< (Int32.ofInt b &&& 31) = Int32.ofInt c9) (k : fp_SP l G d n cs ss mc ms nf Y pc' LL (iV c9 :: st) M Q) : fp_SP l G d n cs ss mc ms nf Y pc LL (iV b :: iV a :: st) M Q := by
  subst hp
  intro p e s m args below meth c H locs ls C hR hL hl
  have K := k p e s m args below meth c H locs ls C hR hL hl
  exact lv_ishl C.1 C.2.1 hd (by rw [hv9]; exact K)
theorem S.ishl {a b c9 : Int} (hd : decode Y.2.1 pc = .ok (.ishl, 1)) (hp : pc + 1 = pc') (hv9 : Int32.ofInt a <<< (Int32.ofInt b &&& 31) = Int32.ofInt c9) (k : fp_S l G d Y pc' LL (iV c9 :: st) M Q) : fp_S l G d Y pc LL (iV b :: iV a :: st) M Q := SP.ishl hd hp hv9 k
theorem SP.ishr {a b c9 : Int} (hd : decode Y.2.1 pc = .ok (.ishr, 1)) (hp : pc + 1 = pc') (hv9 : Int32.ofInt a >>> (Int32.ofInt b &&& 31) = Int32.ofInt c9) (k : fp_SP l G d n cs ss mc ms nf Y pc' LL (iV c9 :: st) M Q) : fp_SP l G d n cs ss mc ms nf Y pc LL (iV b :: iV a :: st) M Q := by
  subst hp
  intro p e s m args below meth c H locs ls C hR hL hl
  have K := k p e s m args below meth c H locs ls C hR hL hl
  exact lv_ishr C.1 C.2.1 hd (by rw [hv9]; exact K)
theorem S.ishr {a b c9 : Int} (hd : decode Y.2.1 pc = .ok (.ishr, 1)) (hp : pc + 1 = pc') (hv9 : Int32.ofInt a >>> (Int32.ofInt b &&& 31) = Int32.ofInt c9) (k : fp_S l G d Y pc' LL (iV c9 :: st) M Q) : fp_S l G d Y pc LL (iV b :: iV a :: st) M Q := SP.ishr hd hp hv9 k
theorem SP.lshl {a b c9 : Int} (hd : decode Y.2.1 pc = .ok (.lshl, 1)) (hp : pc + 1 = pc') (hv9 : Int64.ofInt a <<< ((Int32.ofInt b).toInt64 &&& 63) = Int64.ofInt c9) (k : fp_SP l G d n cs ss mc ms nf Y pc' LL (jV c9 :: st) M Q) : fp_SP l G d n cs ss mc ms nf Y pc LL (iV b :: jV a :: st) M Q := by
  subst hp
  intro p e s m args below meth c H locs ls C hR hL hl
  have K := k p e s m args below meth c H locs ls C hR hL hl
  exact lv_lshl C.1 C.2.1 hd hv9 K
theorem S.lshl {a b c9 : Int} (hd : decode Y.2.1 pc = .ok (.lshl, 1)) (hp : pc + 1 = pc') (hv9 : Int64.ofInt a <<< ((Int32.ofInt b).toInt64 &&& 63) = Int64.ofInt c9) (k : fp_S l G d Y pc' LL (jV c9 :: st) M Q) : fp_S l G d Y pc LL (iV b :: jV a :: st) M Q := SP.lshl hd hp hv9 k
theorem SP.lshr {a b c9 : Int} (hd : decode Y.2.1 pc = .ok (.lshr, 1)) (hp : pc + 1 = pc') (hv9 : Int64.ofInt a >>> ((Int32.ofInt b).toInt64 &&& 63) = Int64.ofInt c9) (k : fp_SP l G d n cs ss mc ms nf Y pc' LL (jV c9 :: st) M Q) : fp_SP l G d n cs ss mc ms nf Y pc LL (iV b :: jV a :: st) M Q := by
  subst hp
  intro p e s m args below meth c H locs ls C hR hL hl
  have K := k p e s m args below meth c H locs ls C hR hL hl
  exact lv_lshr C.1 C.2.1 hd hv9 K
theorem S.lshr {a b c9 : Int} (hd : decode Y.2.1 pc = .ok (.lshr, 1)) (hp : pc + 1 = pc') (hv9 : Int64.ofInt a >>> ((Int32.ofInt b).toInt64 &&& 63) = Int64.ofInt c9) (k : fp_S l G d Y pc' LL (jV c9 :: st) M Q) : fp_S l G d Y pc LL (iV b :: jV a :: st) M Q := SP.lshr hd hp hv9 k
theorem SP.idiv {a b c9 : Int} (hd : decode Y.2.1 pc = .ok (.idiv, 1)) (hp : pc + 1 = pc') (hne : ¬ Int32.ofInt b = 0) (hv9 : Int32.ofInt a / Int32.ofInt b = Int32.ofInt c9) (k : fp_SP l G d n cs ss mc ms nf Y pc' LL (iV c9 :: st) M Q) : fp_SP l G d n cs ss mc ms nf Y pc LL (iV b :: iV a :: st) M Q := by
  subst hp
  intro p e s m args below meth c H locs ls C hR hL hl
  have K := k p e s m args below meth c H locs ls C hR hL hl
  exact lv_idiv C.1 C.2.1 hd hne (by rw [hv9]; exact K)
theorem S.idiv {a b c9 : Int} (hd : decode Y.2.1 pc = .ok (.idiv, 1)) (hp : pc + 1 = pc') (hne : ¬ Int32.ofInt b = 0) (hv9 : Int32.ofInt a / Int32.ofInt b = Int32.ofInt c9) (k : fp_S l G d Y pc' LL (iV c9 :: st) M Q) : fp_S l G d Y pc LL (iV b :: iV a :: st) M Q := SP.idiv hd hp hne hv9 k
theorem SP.irem {a b c9 : Int} (hd : decode Y.2.1 pc = .ok (.irem, 1)) (hp : pc + 1 = pc') (hne : ¬ Int32.ofInt b = 0) (hv9 : Int32.ofInt a - Int32.ofInt a / Int32.ofInt b * Int32.ofInt b = Int32.ofInt c9) (k : fp_SP l G d n cs ss mc ms nf Y pc' LL (iV c9 :: st) M Q) : fp_SP l G d n cs ss mc ms nf Y pc LL (iV b :: iV a :: st) M Q := by
  subst hp
  intro p e s m args below meth c H locs ls C hR hL hl
  have K := k p e s m args below meth c H locs ls C hR hL hl
  exact lv_irem C.1 C.2.1 hd hne (by rw [hv9]; exact K)
theorem S.irem {a b c9 : Int} (hd : decode Y.2.1 pc = .ok (.irem, 1)) (hp : pc + 1 = pc') (hne : ¬ Int32.ofInt b = 0) (hv9 : Int32.ofInt a - Int32.ofInt a / Int32.ofInt b * Int32.ofInt b = Int32.ofInt c9) (k : fp_S l G d Y pc' LL (iV c9 :: st) M Q) : fp_S l G d Y pc LL (iV b :: iV a :: st) M Q := SP.irem hd hp hne hv9 k
theorem SP.ldiv {a b c9 : Int} (hd : decode Y.2.1 pc = .ok (.ldiv, 1)) (hp : pc + 1 = pc') (hne : ¬ Int64.ofInt b = 0) (hv9 : Int64.ofInt a / Int64.ofInt b = Int64.ofInt c9) (k : fp_SP l G d n cs ss mc ms nf Y pc' LL (jV c9 :: st) M Q) : fp_SP l G d n cs ss mc ms nf Y pc LL (jV b :: jV a :: st) M Q := by
  subst hp
  intro p e s m args below meth c H locs ls C hR hL hl
  have K := k p e s m args below meth c H locs ls C hR hL hl
  exact lv_ldiv C.1 C.2.1 hd hne (by rw [hv9]; exact K)
theorem S.ldiv {a b c9 : Int} (hd : decode Y.2.1 pc = .ok (.ldiv, 1)) (hp : pc + 1 = pc') (hne : ¬ Int64.ofInt b = 0) (hv9 : Int64.ofInt a / Int64.ofInt b = Int64.ofInt c9) (k : fp_S l G d Y pc' LL (jV c9 :: st) M Q) : fp_S l G d Y pc LL (jV b :: jV a :: st) M Q := SP.ldiv hd hp hne hv9 k
theorem SP.lrem {a b c9 : Int} (hd : decode Y.2.1 pc = .ok (.lrem, 1)) (hp : pc + 1 = pc') (hne : ¬ Int64.ofInt b = 0) (hv9 : Int64.ofInt a - Int64.ofInt a / Int64.ofInt b * Int64.ofInt b = Int64.ofInt c9) (k : fp_SP l G d n cs ss mc ms nf Y pc' LL (jV c9 :: st) M Q) : fp_SP l G d n cs ss mc ms nf Y pc LL (jV b :: jV a :: st) M Q := by
  subst hp
  intro p e s m args below meth c H locs ls C hR hL hl
  have K := k p e s m args below meth c H locs ls C hR hL hl
  exact lv_lrem C.1 C.2.1 hd hne (by rw [hv9]; exact K)
theorem S.lrem {a b c9 : Int} (hd : decode Y.2.1 pc = .ok (.lrem, 1)) (hp : pc + 1 = pc') (hne : ¬ Int64.ofInt b = 0) (hv9 : Int64.ofInt a - Int64.ofInt a / Int64.ofInt b * Int64.ofInt b = Int64.ofInt c9) (k : fp_S l G d Y pc' LL (jV c9 :: st) M Q) : fp_S l G d Y pc LL (jV b :: jV a :: st) M Q := SP.lrem hd hp hne hv9 k
theorem SP.i2l {a : Int} (hd : decode Y.2.1 pc = .ok (.i2l, 1)) (hp : pc + 1 = pc') (ha : fp_rng a) (k : fp_SP l G d n cs ss mc ms nf Y pc' LL (jV a :: st) M Q) : fp_SP l G d n cs ss mc ms nf Y pc LL (iV a :: st) M Q := by
  subst hp
  intro p e s m args below meth c H locs ls C hR hL hl
  have K := k p e s m args below meth c H locs ls C hR hL hl
  exact lv_i2l C.1 C.2.1 hd (by rw [← Int64.toInt_inj, Int32.toInt_toInt64, fp_toInt ha, fp_toInt64 ⟨by have := ha.1; omega, by have := ha.2; omega⟩]) K
theorem S.i2l {a : Int} (hd : decode Y.2.1 pc = .ok (.i2l, 1)) (hp : pc + 1 = pc') (ha : fp_rng a) (k : fp_S l G d Y pc' LL (jV a :: st) M Q) : fp_S l G d Y pc LL (iV a :: st) M Q := SP.i2l hd hp ha k
theorem SP.l2i {a : Int} (hd : decode Y.2.1 pc = .ok (.l2i, 1)) (hp : pc + 1 = pc')  (k : fp_SP l G d n cs ss mc ms nf Y pc' LL (iV a :: st) M Q) : fp_SP l G d n cs ss mc ms nf Y pc LL (jV a :: st) M Q := by
  subst hp
  intro p e s m args below meth c H locs ls C hR hL hl
  have K := k p e s m args below meth c H locs ls C hR hL hl
  exact lv_l2i C.1 C.2.1 hd Int64.toInt32_ofInt K
theorem S.l2i {a : Int} (hd : decode Y.2.1 pc = .ok (.l2i, 1)) (hp : pc + 1 = pc')  (k : fp_S l G d Y pc' LL (iV a :: st) M Q) : fp_S l G d Y pc LL (jV a :: st) M Q := SP.l2i hd hp  k
theorem SP.i2b {a : Int} (hd : decode Y.2.1 pc = .ok (.i2b, 1)) (hp : pc + 1 = pc')  (k : fp_SP l G d n cs ss mc ms nf Y pc' LL (iV (a.bmod 256) :: st) M Q) : fp_SP l G d n cs ss mc ms nf Y pc LL (iV a :: st) M Q := by
  subst hp
  intro p e s m args below meth c H locs ls C hR hL hl
  have K := k p e s m args below meth c H locs ls C hR hL hl
  exact lv_i2b C.1 C.2.1 hd (by rw [Int32.toInt8_ofInt, ← Int32.toInt_inj, Int8.toInt_toInt32, Int8.toInt_ofInt, fp_toInt (by unfold fp_rng; have := Int.le_bmod (x := a) (m := 256) (by decide); have := Int.bmod_lt (x := a) (m := 256) (by decide); omega)]) K
theorem S.i2b {a : Int} (hd : decode Y.2.1 pc = .ok (.i2b, 1)) (hp : pc + 1 = pc')  (k : fp_S l G d Y pc' LL (iV (a.bmod 256) :: st) M Q) : fp_S l G d Y pc LL (iV a :: st) M Q := SP.i2b hd hp  k
theorem SP.i2s {a : Int} (hd : decode Y.2.1 pc = .ok (.i2s, 1)) (hp : pc + 1 = pc')  (k : fp_SP l G d n cs ss mc ms nf Y pc' LL (iV (a.bmod 65536) :: st) M Q) : fp_SP l G d n cs ss mc ms nf Y pc LL (iV a :: st) M Q := by
  subst hp
  intro p e s m args below meth c H locs ls C hR hL hl
  have K := k p e s m args below meth c H locs ls C hR hL hl
  exact lv_i2s C.1 C.2.1 hd (by rw [Int32.toInt16_ofInt, ← Int32.toInt_inj, Int16.toInt_toInt32, Int16.toInt_ofInt, fp_toInt (by unfold fp_rng; have := Int.le_bmod (x := a) (m := 65536) (by decide); have := Int.bmod_lt (x := a) (m := 65536) (by decide); omega)]) K
theorem S.i2s {a : Int} (hd : decode Y.2.1 pc = .ok (.i2s, 1)) (hp : pc + 1 = pc')  (k : fp_S l G d Y pc' LL (iV (a.bmod 65536) :: st) M Q) : fp_S l G d Y pc LL (iV a :: st) M Q := SP.i2s hd hp  k
theorem SP.lcmp {a b : Int} (hd : decode Y.2.1 pc = .ok (.lcmp, 1)) (hp : pc + 1 = pc') (ha : fp_lng a) (hb : fp_lng b) (k : fp_SP l G d n cs ss mc ms nf Y pc' LL (iV (if b < a then 1 else if a = b then 0 else -1) :: st) M Q) : fp_SP l G d n cs ss mc ms nf Y pc LL (jV b :: jV a :: st) M Q := by
  subst hp
  intro p e s m args below meth c H locs ls C hR hL hl
  have K := k p e s m args below meth c H locs ls C hR hL hl
  refine W.lcmp C.1 C.2.1 hd ?_
  have e1 : lg_cmp (Int64.ofInt a) (Int64.ofInt b) = Int32.ofInt (if b < a then 1 else if a = b then 0 else -1) := by
    unfold lg_cmp
    simp only [gt_iff_lt, Int64.lt_iff_toInt_lt, ← Int64.toInt_inj, fp_toInt64 ha, fp_toInt64 hb]
    split
    · rfl
    · split <;> rfl
  rw [e1]; exact K
theorem S.lcmp {a b : Int} (hd : decode Y.2.1 pc = .ok (.lcmp, 1)) (hp : pc + 1 = pc') (ha : fp_lng a) (hb : fp_lng b) (k : fp_S l G d Y pc' LL (iV (if b < a then 1 else if a = b then 0 else -1) :: st) M Q) : fp_S l G d Y pc LL (jV b :: jV a :: st) M Q := SP.lcmp hd hp ha hb k
theorem SP.dup {v : Value} (hd : decode Y.2.1 pc = .ok (.dup, 1)) (hp : pc + 1 = pc') (hc : v.category = 1) (k : fp_SP l G d n cs ss mc ms nf Y pc' LL (v :: v :: st) M Q) : fp_SP l G d n cs ss mc ms nf Y pc LL (v :: st) M Q := by
  subst hp
  intro p e s m args below meth c H locs ls C hR hL hl
  have K := k p e s m args below meth c H locs ls C hR hL hl
  exact lv_dup C.1 C.2.1 hd hc K
theorem S.dup {v : Value} (hd : decode Y.2.1 pc = .ok (.dup, 1)) (hp : pc + 1 = pc') (hc : v.category = 1) (k : fp_S l G d Y pc' LL (v :: v :: st) M Q) : fp_S l G d Y pc LL (v :: st) M Q := SP.dup hd hp hc k
theorem SP.pop {v : Value} (hd : decode Y.2.1 pc = .ok (.pop, 1)) (hp : pc + 1 = pc') (hc : v.category = 1) (k : fp_SP l G d n cs ss mc ms nf Y pc' LL (st) M Q) : fp_SP l G d n cs ss mc ms nf Y pc LL (v :: st) M Q := by
  subst hp
  intro p e s m args below meth c H locs ls C hR hL hl
  have K := k p e s m args below meth c H locs ls C hR hL hl
  exact lv_pop C.1 C.2.1 hd hc K
theorem S.pop {v : Value} (hd : decode Y.2.1 pc = .ok (.pop, 1)) (hp : pc + 1 = pc') (hc : v.category = 1) (k : fp_S l G d Y pc' LL (st) M Q) : fp_S l G d Y pc LL (v :: st) M Q := SP.pop hd hp hc k
theorem SP.dup_x1 {v w : Value} (hd : decode Y.2.1 pc = .ok (.dup_x1, 1)) (hp : pc + 1 = pc') (hc : v.category = 1) (hw : w.category = 1) (k : fp_SP l G d n cs ss mc ms nf Y pc' LL (v :: w :: v :: st) M Q) : fp_SP l G d n cs ss mc ms nf Y pc LL (v :: w :: st) M Q := by
  subst hp
  intro p e s m args below meth c H locs ls C hR hL hl
  have K := k p e s m args below meth c H locs ls C hR hL hl
  exact lv_dup_x1 C.1 C.2.1 hd hc hw K
theorem S.dup_x1 {v w : Value} (hd : decode Y.2.1 pc = .ok (.dup_x1, 1)) (hp : pc + 1 = pc') (hc : v.category = 1) (hw : w.category = 1) (k : fp_S l G d Y pc' LL (v :: w :: v :: st) M Q) : fp_S l G d Y pc LL (v :: w :: st) M Q := SP.dup_x1 hd hp hc hw k
theorem SP.dup_x2 {v w u : Value} (hd : decode Y.2.1 pc = .ok (.dup_x2, 1)) (hp : pc + 1 = pc') (hc : v.category = 1) (hw : w.category = 1) (hu : u.category = 1) (k : fp_SP l G d n cs ss mc ms nf Y pc' LL (v :: w :: u :: v :: st) M Q) : fp_SP l G d n cs ss mc ms nf Y pc LL (v :: w :: u :: st) M Q := by
  subst hp
  intro p e s m args below meth c H locs ls C hR hL hl
  have K := k p e s m args below meth c H locs ls C hR hL hl
  exact lv_dup_x2 C.1 C.2.1 hd hc hw hu K
theorem S.dup_x2 {v w u : Value} (hd : decode Y.2.1 pc = .ok (.dup_x2, 1)) (hp : pc + 1 = pc') (hc : v.category = 1) (hw : w.category = 1) (hu : u.category = 1) (k : fp_S l G d Y pc' LL (v :: w :: u :: v :: st) M Q) : fp_S l G d Y pc LL (v :: w :: u :: st) M Q := SP.dup_x2 hd hp hc hw hu k
theorem SP.dup2 {v w : Value} (hd : decode Y.2.1 pc = .ok (.dup2, 1)) (hp : pc + 1 = pc') (hc : v.category = 1) (hw : w.category = 1) (k : fp_SP l G d n cs ss mc ms nf Y pc' LL (v :: w :: v :: w :: st) M Q) : fp_SP l G d n cs ss mc ms nf Y pc LL (v :: w :: st) M Q := by
  subst hp
  intro p e s m args below meth c H locs ls C hR hL hl
  have K := k p e s m args below meth c H locs ls C hR hL hl
  exact lv_dup2_11 C.1 C.2.1 hd hc hw K
theorem S.dup2 {v w : Value} (hd : decode Y.2.1 pc = .ok (.dup2, 1)) (hp : pc + 1 = pc') (hc : v.category = 1) (hw : w.category = 1) (k : fp_S l G d Y pc' LL (v :: w :: v :: w :: st) M Q) : fp_S l G d Y pc LL (v :: w :: st) M Q := SP.dup2 hd hp hc hw k
theorem SP.dup2l {v : Value} (hd : decode Y.2.1 pc = .ok (.dup2, 1)) (hp : pc + 1 = pc') (hc : v.category = 2) (k : fp_SP l G d n cs ss mc ms nf Y pc' LL (v :: v :: st) M Q) : fp_SP l G d n cs ss mc ms nf Y pc LL (v :: st) M Q := by
  subst hp
  intro p e s m args below meth c H locs ls C hR hL hl
  have K := k p e s m args below meth c H locs ls C hR hL hl
  exact lv_dup2_2 C.1 C.2.1 hd hc K
theorem S.dup2l {v : Value} (hd : decode Y.2.1 pc = .ok (.dup2, 1)) (hp : pc + 1 = pc') (hc : v.category = 2) (k : fp_S l G d Y pc' LL (v :: v :: st) M Q) : fp_S l G d Y pc LL (v :: st) M Q := SP.dup2l hd hp hc k
theorem SP.pop2l {v : Value} (hd : decode Y.2.1 pc = .ok (.pop2, 1)) (hp : pc + 1 = pc') (hc : v.category = 2) (k : fp_SP l G d n cs ss mc ms nf Y pc' LL (st) M Q) : fp_SP l G d n cs ss mc ms nf Y pc LL (v :: st) M Q := by
  subst hp
  intro p e s m args below meth c H locs ls C hR hL hl
  have K := k p e s m args below meth c H locs ls C hR hL hl
  exact lv_pop2_2 C.1 C.2.1 hd hc K
theorem S.pop2l {v : Value} (hd : decode Y.2.1 pc = .ok (.pop2, 1)) (hp : pc + 1 = pc') (hc : v.category = 2) (k : fp_S l G d Y pc' LL (st) M Q) : fp_S l G d Y pc LL (v :: st) M Q := SP.pop2l hd hp hc k
theorem SP.goto {off : Int} (hd : decode Y.2.1 pc = .ok (.goto off, 3)) (ht : (pc : Int) + off = (pc' : Int)) (k : fp_SP l G d n cs ss mc ms nf Y pc' LL st M Q) : fp_SP l G d n cs ss mc ms nf Y pc LL st M Q := by
  intro p e s m args below meth c H locs ls C hR hL hl
  exact lv_goto C.1 C.2.1 hd ht (k p e s m args below meth c H locs ls C hR hL hl)
theorem S.goto {off : Int} (hd : decode Y.2.1 pc = .ok (.goto off, 3)) (ht : (pc : Int) + off = (pc' : Int)) (k : fp_S l G d Y pc' LL st M Q) : fp_S l G d Y pc LL st M Q := SP.goto hd ht k
theorem SP.icmp_lt {a b : Int} {off : Int} {tgt : Nat} (hd : decode Y.2.1 pc = .ok (.if_icmp .lt off, 3)) (ht : (pc : Int) + off = (tgt : Int)) (hp : pc + 3 = pc') (ha : fp_rng a) (hb : fp_rng b) (kt : a < b → fp_SP l G d n cs ss mc ms nf Y tgt LL st M Q) (kf : ¬ (a < b) → fp_SP l G d n cs ss mc ms nf Y pc' LL st M Q) : fp_SP l G d n cs ss mc ms nf Y pc LL (iV b :: iV a :: st) M Q := by
  subst hp
  intro p e s m args below meth c H locs ls C hR hL hl
  exact lv_icmp_lt C.1 C.2.1 hd ht (fun h => kt ((fp_lt ha hb).mp h) p e s m args below meth c H locs ls C hR hL hl) (fun h => kf (fun h2 => h ((fp_lt ha hb).mpr h2)) p e s m args below meth c H locs ls C hR hL hl)
theorem SP.if_lt {a : Int} {off : Int} {tgt : Nat} (hd : decode Y.2.1 pc = .ok (.ifCond .lt off, 3)) (ht : (pc : Int) + off = (tgt : Int)) (hp : pc + 3 = pc') (ha : fp_rng a) (kt : a < 0 → fp_SP l G d n cs ss mc ms nf Y tgt LL st M Q) (kf : ¬ (a < 0) → fp_SP l G d n cs ss mc ms nf Y pc' LL st M Q) : fp_SP l G d n cs ss mc ms nf Y pc LL (iV a :: st) M Q := by
  subst hp
  intro p e s m args below meth c H locs ls C hR hL hl
  exact lv_if_lt C.1 C.2.1 hd ht (fun h => kt ((fp_lt ha fp_rng0).mp h) p e s m args below meth c H locs ls C hR hL hl) (fun h => kf (fun h2 => h ((fp_lt ha fp_rng0).mpr h2)) p e s m args below meth c H locs ls C hR hL hl)
theorem S.icmp_lt {a b : Int} {off : Int} {tgt : Nat} (hd : decode Y.2.1 pc = .ok (.if_icmp .lt off, 3)) (ht : (pc : Int) + off = (tgt : Int)) (hp : pc + 3 = pc') (ha : fp_rng a) (hb : fp_rng b) (kt : a < b → fp_S l G d Y tgt LL st M Q) (kf : ¬ (a < b) → fp_S l G d Y pc' LL st M Q) : fp_S l G d Y pc LL (iV b :: iV a :: st) M Q := SP.icmp_lt hd ht hp ha hb kt kf
theorem S.if_lt {a : Int} {off : Int} {tgt : Nat} (hd : decode Y.2.1 pc = .ok (.ifCond .lt off, 3)) (ht : (pc : Int) + off = (tgt : Int)) (hp : pc + 3 = pc') (ha : fp_rng a) (kt : a < 0 → fp_S l G d Y tgt LL st M Q) (kf : ¬ (a < 0) → fp_S l G d Y pc' LL st M Q) : fp_S l G d Y pc LL (iV a :: st) M Q := SP.if_lt hd ht hp ha kt kf
theorem SP.icmp_ge {a b : Int} {off : Int} {tgt : Nat} (hd : decode Y.2.1 pc = .ok (.if_icmp .ge off, 3)) (ht : (pc : Int) + off = (tgt : Int)) (hp : pc + 3 = pc') (ha : fp_rng a) (hb : fp_rng b) (kt : b ≤ a → fp_SP l G d n cs ss mc ms nf Y tgt LL st M Q) (kf : ¬ (b ≤ a) → fp_SP l G d n cs ss mc ms nf Y pc' LL st M Q) : fp_SP l G d n cs ss mc ms nf Y pc LL (iV b :: iV a :: st) M Q := by
  subst hp
  intro p e s m args below meth c H locs ls C hR hL hl
  exact lv_icmp_ge C.1 C.2.1 hd ht (fun h => kt ((fp_le hb ha).mp h) p e s m args below meth c H locs ls C hR hL hl) (fun h => kf (fun h2 => h ((fp_le hb ha).mpr h2)) p e s m args below meth c H locs ls C hR hL hl)
theorem SP.if_ge {a : Int} {off : Int} {tgt : Nat} (hd : decode Y.2.1 pc = .ok (.ifCond .ge off, 3)) (ht : (pc : Int) + off = (tgt : Int)) (hp : pc + 3 = pc') (ha : fp_rng a) (kt : 0 ≤ a → fp_SP l G d n cs ss mc ms nf Y tgt LL st M Q) (kf : ¬ (0 ≤ a) → fp_SP l G d n cs ss mc ms nf Y pc' LL st M Q) : fp_SP l G d n cs ss mc ms nf Y pc LL (iV a :: st) M Q := by
  subst hp
  intro p e s m args below meth c H locs ls C hR hL hl
  exact lv_if_ge C.1 C.2.1 hd ht (fun h => kt ((fp_le fp_rng0 ha).mp h) p e s m args below meth c H locs ls C hR hL hl) (fun h => kf (fun h2 => h ((fp_le fp_rng0 ha).mpr h2)) p e s m args below meth c H locs ls C hR hL hl)
theorem S.icmp_ge {a b : Int} {off : Int} {tgt : Nat} (hd : decode Y.2.1 pc = .ok (.if_icmp .ge off, 3)) (ht : (pc : Int) + off = (tgt : Int)) (hp : pc + 3 = pc') (ha : fp_rng a) (hb : fp_rng b) (kt : b ≤ a → fp_S l G d Y tgt LL st M Q) (kf : ¬ (b ≤ a) → fp_S l G d Y pc' LL st M Q) : fp_S l G d Y pc LL (iV b :: iV a :: st) M Q := SP.icmp_ge hd ht hp ha hb kt kf
theorem S.if_ge {a : Int} {off : Int} {tgt : Nat} (hd : decode Y.2.1 pc = .ok (.ifCond .ge off, 3)) (ht : (pc : Int) + off = (tgt : Int)) (hp : pc + 3 = pc') (ha : fp_rng a) (kt : 0 ≤ a → fp_S l G d Y tgt LL st M Q) (kf : ¬ (0 ≤ a) → fp_S l G d Y pc' LL st M Q) : fp_S l G d Y pc LL (iV a :: st) M Q := SP.if_ge hd ht hp ha kt kf
theorem SP.icmp_gt {a b : Int} {off : Int} {tgt : Nat} (hd : decode Y.2.1 pc = .ok (.if_icmp .gt off, 3)) (ht : (pc : Int) + off = (tgt : Int)) (hp : pc + 3 = pc') (ha : fp_rng a) (hb : fp_rng b) (kt : b < a → fp_SP l G d n cs ss mc ms nf Y tgt LL st M Q) (kf : ¬ (b < a) → fp_SP l G d n cs ss mc ms nf Y pc' LL st M Q) : fp_SP l G d n cs ss mc ms nf Y pc LL (iV b :: iV a :: st) M Q := by
  subst hp
  intro p e s m args below meth c H locs ls C hR hL hl
  exact lv_icmp_gt C.1 C.2.1 hd ht (fun h => kt ((fp_lt hb ha).mp h) p e s m args below meth c H locs ls C hR hL hl) (fun h => kf (fun h2 => h ((fp_lt hb ha).mpr h2)) p e s m args below meth c H locs ls C hR hL hl)
theorem SP.if_gt {a : Int} {off : Int} {tgt : Nat} (hd : decode Y.2.1 pc = .ok (.ifCond .gt off, 3)) (ht : (pc : Int) + off = (tgt : Int)) (hp : pc + 3 = pc') (ha : fp_rng a) (kt : 0 < a → fp_SP l G d n cs ss mc ms nf Y tgt LL st M Q) (kf : ¬ (0 < a) → fp_SP l G d n cs ss mc ms nf Y pc' LL st M Q) : fp_SP l G d n cs ss mc ms nf Y pc LL (iV a :: st) M Q := by
  subst hp
  intro p e s m args below meth c H locs ls C hR hL hl
  exact lv_if_gt C.1 C.2.1 hd ht (fun h => kt ((fp_lt fp_rng0 ha).mp h) p e s m args below meth c H locs ls C hR hL hl) (fun h => kf (fun h2 => h ((fp_lt fp_rng0 ha).mpr h2)) p e s m args below meth c H locs ls C hR hL hl)
theorem S.icmp_gt {a b : Int} {off : Int} {tgt : Nat} (hd : decode Y.2.1 pc = .ok (.if_icmp .gt off, 3)) (ht : (pc : Int) + off = (tgt : Int)) (hp : pc + 3 = pc') (ha : fp_rng a) (hb : fp_rng b) (kt : b < a → fp_S l G d Y tgt LL st M Q) (kf : ¬ (b < a) → fp_S l G d Y pc' LL st M Q) : fp_S l G d Y pc LL (iV b :: iV a :: st) M Q := SP.icmp_gt hd ht hp ha hb kt kf
theorem S.if_gt {a : Int} {off : Int} {tgt : Nat} (hd : decode Y.2.1 pc = .ok (.ifCond .gt off, 3)) (ht : (pc : Int) + off = (tgt : Int)) (hp : pc + 3 = pc') (ha : fp_rng a) (kt : 0 < a → fp_S l G d Y tgt LL st M Q) (kf : ¬ (0 < a) → fp_S l G d Y pc' LL st M Q) : fp_S l G d Y pc LL (iV a :: st) M Q := SP.if_gt hd ht hp ha kt kf
theorem SP.icmp_le {a b : Int} {off : Int} {tgt : Nat} (hd : decode Y.2.1 pc = .ok (.if_icmp .le off, 3)) (ht : (pc : Int) + off = (tgt : Int)) (hp : pc + 3 = pc') (ha : fp_rng a) (hb : fp_rng b) (kt : a ≤ b → fp_SP l G d n cs ss mc ms nf Y tgt LL st M Q) (kf : ¬ (a ≤ b) → fp_SP l G d n cs ss mc ms nf Y pc' LL st M Q) : fp_SP l G d n cs ss mc ms nf Y pc LL (iV b :: iV a :: st) M Q := by
  subst hp
  intro p e s m args below meth c H locs ls C hR hL hl
  exact lv_icmp_le C.1 C.2.1 hd ht (fun h => kt ((fp_le ha hb).mp h) p e s m args below meth c H locs ls C hR hL hl) (fun h => kf (fun h2 => h ((fp_le ha hb).mpr h2)) p e s m args below meth c H locs ls C hR hL hl)
theorem SP.if_le {a : Int} {off : Int} {tgt : Nat} (hd : decode Y.2.1 pc = .ok (.ifCond .le off, 3)) (ht : (pc : Int) + off = (tgt : Int)) (hp : pc + 3 = pc') (ha : fp_rng a) (kt : a ≤ 0 → fp_SP l G d n cs ss mc ms nf Y tgt LL st M Q) (kf : ¬ (a ≤ 0) → fp_SP l G d n cs ss mc ms nf Y pc' LL st M Q) : fp_SP l G d n cs ss mc ms nf Y pc LL (iV a :: st) M Q := by
  subst hp
  intro p e s m args below meth c H locs ls C hR hL hl
  exact lv_if_le C.1 C.2.1 hd ht (fun h => kt ((fp_le ha fp_rng0).mp h) p e s m args below meth c H locs ls C hR hL hl) (fun h => kf (fun h2 => h ((fp_le ha fp_rng0).mpr h2)) p e s m args below meth c H locs ls C hR hL hl)
theorem S.icmp_le {a b : Int} {off : Int} {tgt : Nat} (hd : decode Y.2.1 pc = .ok (.if_icmp .le off, 3)) (ht : (pc : Int) + off = (tgt : Int)) (hp : pc + 3 = pc') (ha : fp_rng a) (hb : fp_rng b) (kt : a ≤ b → fp_S l G d Y tgt LL st M Q) (kf : ¬ (a ≤ b) → fp_S l G d Y pc' LL st M Q) : fp_S l G d Y pc LL (iV b :: iV a :: st) M Q := SP.icmp_le hd ht hp ha hb kt kf
theorem S.if_le {a : Int} {off : Int} {tgt : Nat} (hd : decode Y.2.1 pc = .ok (.ifCond .le off, 3)) (ht : (pc : Int) + off = (tgt : Int)) (hp : pc + 3 = pc') (ha : fp_rng a) (kt : a ≤ 0 → fp_S l G d Y tgt LL st M Q) (kf : ¬ (a ≤ 0) → fp_S l G d Y pc' LL st M Q) : fp_S l G d Y pc LL (iV a :: st) M Q := SP.if_le hd ht hp ha kt kf
theorem SP.icmp_eq {a b : Int} {off : Int} {tgt : Nat} (hd : decode Y.2.1 pc = .ok (.if_icmp .eq off, 3)) (ht : (pc : Int) + off = (tgt : Int)) (hp : pc + 3 = pc') (ha : fp_rng a) (hb : fp_rng b) (kt : a = b → fp_SP l G d n cs ss mc ms nf Y tgt LL st M Q) (kf : ¬ (a = b) → fp_SP l G d n cs ss mc ms nf Y pc' LL st M Q) : fp_SP l G d n cs ss mc ms nf Y pc LL (iV b :: iV a :: st) M Q := by
  subst hp
  intro p e s m args below meth c H locs ls C hR hL hl
  exact lv_icmp_eq C.1 C.2.1 hd ht (fun h => kt ((fp_eq ha hb).mp h) p e s m args below meth c H locs ls C hR hL hl) (fun h => kf (fun h2 => h ((fp_eq ha hb).mpr h2)) p e s m args below meth c H locs ls C hR hL hl)
theorem SP.if_eq {a : Int} {off : Int} {tgt : Nat} (hd : decode Y.2.1 pc = .ok (.ifCond .eq off, 3)) (ht : (pc : Int) + off = (tgt : Int)) (hp : pc + 3 = pc') (ha : fp_rng a) (kt : a = 0 → fp_SP l G d n cs ss mc ms nf Y tgt LL st M Q) (kf : ¬ (a = 0) → fp_SP l G d n cs ss mc ms nf Y pc' LL st M Q) : fp_SP l G d n cs ss mc ms nf Y pc LL (iV a :: st) M Q := by
  subst hp
  intro p e s m args below meth c H locs ls C hR hL hl
  exact lv_if_eq C.1 C.2.1 hd ht (fun h => kt ((fp_eq ha fp_rng0).mp h) p e s m args below meth c H locs ls C hR hL hl) (fun h => kf (fun h2 => h ((fp_eq ha fp_rng0).mpr h2)) p e s m args below meth c H locs ls C hR hL hl)
theorem S.icmp_eq {a b : Int} {off : Int} {tgt : Nat} (hd : decode Y.2.1 pc = .ok (.if_icmp .eq off, 3)) (ht : (pc : Int) + off = (tgt : Int)) (hp : pc + 3 = pc') (ha : fp_rng a) (hb : fp_rng b) (kt : a = b → fp_S l G d Y tgt LL st M Q) (kf : ¬ (a = b) → fp_S l G d Y pc' LL st M Q) : fp_S l G d Y pc LL (iV b :: iV a :: st) M Q := SP.icmp_eq hd ht hp ha hb kt kf
theorem S.if_eq {a : Int} {off : Int} {tgt : Nat} (hd : decode Y.2.1 pc = .ok (.ifCond .eq off, 3)) (ht : (pc : Int) + off = (tgt : Int)) (hp : pc + 3 = pc') (ha : fp_rng a) (kt : a = 0 → fp_S l G d Y tgt LL st M Q) (kf : ¬ (a = 0) → fp_S l G d Y pc' LL st M Q) : fp_S l G d Y pc LL (iV a :: st) M Q := SP.if_eq hd ht hp ha kt kf
theorem SP.icmp_ne {a b : Int} {off : Int} {tgt : Nat} (hd : decode Y.2.1 pc = .ok (.if_icmp .ne off, 3)) (ht : (pc : Int) + off = (tgt : Int)) (hp : pc + 3 = pc') (ha : fp_rng a) (hb : fp_rng b) (kt : a ≠ b → fp_SP l G d n cs ss mc ms nf Y tgt LL st M Q) (kf : a = b → fp_SP l G d n cs ss mc ms nf Y pc' LL st M Q) : fp_SP l G d n cs ss mc ms nf Y pc LL (iV b :: iV a :: st) M Q := by
  subst hp
  intro p e s m args below meth c H locs ls C hR hL hl
  exact lv_icmp_ne C.1 C.2.1 hd ht (fun h => kt (fun h2 => h ((fp_eq ha hb).mpr h2)) p e s m args below meth c H locs ls C hR hL hl) (fun h => kf ((fp_eq ha hb).mp h) p e s m args below meth c H locs ls C hR hL hl)
theorem SP.if_ne {a : Int} {off : Int} {tgt : Nat} (hd : decode Y.2.1 pc = .ok (.ifCond .ne off, 3)) (ht : (pc : Int) + off = (tgt : Int)) (hp : pc + 3 = pc') (ha : fp_rng a) (kt : a ≠ 0 → fp_SP l G d n cs ss mc ms nf Y tgt LL st M Q) (kf : a = 0 → fp_SP l G d n cs ss mc ms nf Y pc' LL st M Q) : fp_SP l G d n cs ss mc ms nf Y pc LL (iV a :: st) M Q := by
  subst hp
  intro p e s m args below meth c H locs ls C hR hL hl
  exact lv_if_ne C.1 C.2.1 hd ht (fun h => kt (fun h2 => h ((fp_eq ha fp_rng0).mpr h2)) p e s m args below meth c H locs ls C hR hL hl) (fun h => kf ((fp_eq ha fp_rng0).mp h) p e s m args below meth c H locs ls C hR hL hl)
theorem S.icmp_ne {a b : Int} {off : Int} {tgt : Nat} (hd : decode Y.2.1 pc = .ok (.if_icmp .ne off, 3)) (ht : (pc : Int) + off = (tgt : Int)) (hp : pc + 3 = pc') (ha : fp_rng a) (hb : fp_rng b) (kt : a ≠ b → fp_S l G d Y tgt LL st M Q) (kf : a = b → fp_S l G d Y pc' LL st M Q) : fp_S l G d Y pc LL (iV b :: iV a :: st) M Q := SP.icmp_ne hd ht hp ha hb kt kf
theorem S.if_ne {a : Int} {off : Int} {tgt : Nat} (hd : decode Y.2.1 pc = .ok (.ifCond .ne off, 3)) (ht : (pc : Int) + off = (tgt : Int)) (hp : pc + 3 = pc') (ha : fp_rng a) (kt : a ≠ 0 → fp_S l G d Y tgt LL st M Q) (kf : a = 0 → fp_S l G d Y pc' LL st M Q) : fp_S l G d Y pc LL (iV a :: st) M Q := SP.if_ne hd ht hp ha kt kf
theorem SP.tableIn {a : Int} {dflt lo hi off : Int} {offs : Array Int} {len tgt : Nat} (hd : decode Y.2.1 pc = .ok (.tableswitch dflt lo hi offs, len)) (ha : fp_rng a) (h1 : lo ≤ a) (h2 : a ≤ hi) (ho : offs[(a - lo).toNat]? = some off) (ht : (pc : Int) + off = (tgt : Int)) (k : fp_SP l G d n cs ss mc ms nf Y tgt LL st M Q) : fp_SP l G d n cs ss mc ms nf Y pc LL (iV a :: st) M Q := by
  intro p e s m args below meth c H locs ls C hR hL hl
  exact lv_tableIn C.1 C.2.1 hd (by rw [fp_toInt ha]; omega) (by rw [fp_toInt ha]; omega) (by rw [fp_toInt ha]; exact ho) ht (k p e s m args below meth c H locs ls C hR hL hl)
theorem SP.tableOut {a : Int} {dflt lo hi : Int} {offs : Array Int} {len tgt : Nat} (hd : decode Y.2.1 pc = .ok (.tableswitch dflt lo hi offs, len)) (ha : fp_rng a) (h1 : a < lo ∨ hi < a) (ht : (pc : Int) + dflt = (tgt : Int)) (k : fp_SP l G d n cs ss mc ms nf Y tgt LL st M Q) : fp_SP l G d n cs ss mc ms nf Y pc LL (iV a :: st) M Q := by
  intro p e s m args below meth c H locs ls C hR hL hl
  exact lv_tableOut C.1 C.2.1 hd (by rw [fp_toInt ha]; exact h1) ht (k p e s m args below meth c H locs ls C hR hL hl)
theorem S.tableIn {a : Int} {dflt lo hi off : Int} {offs : Array Int} {len tgt : Nat} (hd : decode Y.2.1 pc = .ok (.tableswitch dflt lo hi offs, len)) (ha : fp_rng a) (h1 : lo ≤ a) (h2 : a ≤ hi) (ho : offs[(a - lo).toNat]? = some off) (ht : (pc : Int) + off = (tgt : Int)) (k : fp_S l G d Y tgt LL st M Q) : fp_S l G d Y pc LL (iV a :: st) M Q := SP.tableIn hd ha h1 h2 ho ht k
theorem S.tableOut {a : Int} {dflt lo hi : Int} {offs : Array Int} {len tgt : Nat} (hd : decode Y.2.1 pc = .ok (.tableswitch dflt lo hi offs, len)) (ha : fp_rng a) (h1 : a < lo ∨ hi < a) (ht : (pc : Int) + dflt = (tgt : Int)) (k : fp_S l G d Y tgt LL st M Q) : fp_S l G d Y pc LL (iV a :: st) M Q := SP.tableOut hd ha h1 ht k
theorem SP.iret {z : Int} (hd : decode Y.2.1 pc = .ok (.ireturn, 1)) (hr : Y.2.2.2 = some .int) (h : Q (some (iV z)) M) : fp_SP l G d nf mc ms mc ms nf Y pc LL [iV z] M Q := by
  intro p e s m args below meth c H locs ls C hR hL hl
  have hlocks := C.2.2.2.2.2.1
  exact W.iret C.1 C.2.1 (C.2.2.2.2.1.trans hr) (fun t ht hW => ⟨_, M, rfl, h, by rw [ht]; exact hR⟩) hL hd hlocks
theorem SP.zret {z : Int} {ty : FieldType} (hd : decode Y.2.1 pc = .ok (.ireturn, 1)) (hr : Y.2.2.2 = some ty) (hn : narrow ty (iV z) = iV z) (h : Q (some (iV z)) M) : fp_SP l G d nf mc ms mc ms nf Y pc LL [iV z] M Q := by
  intro p e s m args below meth c H locs ls C hR hL hl
  have hlocks := C.2.2.2.2.2.1
  exact W.zret C.1 C.2.1 (C.2.2.2.2.1.trans hr) hn (fun t ht hW => ⟨_, M, rfl, h, by rw [ht]; exact hR⟩) hL hd hlocks
theorem SP.vret (hd : decode Y.2.1 pc = .ok (.return_, 1)) (hr : Y.2.2.2 = none) (h : Q none M) : fp_SP l G d nf mc ms mc ms nf Y pc LL [] M Q := by
  intro p e s m args below meth c H locs ls C hR hL hl
  have hlocks := C.2.2.2.2.2.1
  exact W.vret C.1 C.2.1 (C.2.2.2.2.1.trans hr) (fun t ht hW => ⟨_, M, rfl, h, by rw [ht]; exact hR⟩) hL hd hlocks
theorem SP.lret {z : Int} (hd : decode Y.2.1 pc = .ok (.lreturn, 1)) (hr : Y.2.2.2 = some .long) (h : Q (some (jV z)) M) : fp_SP l G d nf mc ms mc ms nf Y pc LL [jV z] M Q := by
  intro p e s m args below meth c H locs ls C hR hL hl
  have hlocks := C.2.2.2.2.2.1
  exact W.lret C.1 C.2.1 (C.2.2.2.2.1.trans hr) (fun t ht hW => ⟨_, M, rfl, h, by rw [ht]; exact hR⟩) hL hd hlocks
theorem SP.aret {a : Nat} {rt : FieldType} (hd : decode Y.2.1 pc = .ok (.areturn, 1)) (hr : Y.2.2.2 = some rt) (hrt : (∃ n, rt = .object n) ∨ ∃ t, rt = .array t) (h : Q (some (.ref a)) M) : fp_SP l G d nf mc ms mc ms nf Y pc LL [.ref a] M Q := by
  intro p e s m args below meth c H locs ls C hR hL hl
  have hlocks := C.2.2.2.2.2.1
  exact W.aret C.1 C.2.1 (C.2.2.2.2.1.trans hr) hrt (Or.inr ⟨_, rfl⟩) (fun t ht hW => ⟨_, M, rfl, h, by rw [ht]; exact hR⟩) hL hd hlocks
theorem S.iret {z : Int} {P : Int → fp_Mem → Prop} (hd : decode Y.2.1 pc = .ok (.ireturn, 1)) (hr : Y.2.2.2 = some .int) (h : P z M) : fp_S l G d Y pc LL [iV z] M (qI P) := SP.iret hd hr ⟨M, rfl, z, rfl, h⟩
theorem S.zret {z : Int} {P : Int → fp_Mem → Prop} (hd : decode Y.2.1 pc = .ok (.ireturn, 1)) (hr : Y.2.2.2 = some .boolean) (hz : z = 0 ∨ z = 1) (h : P z M) : fp_S l G d Y pc LL [iV z] M (qI P) := SP.zret hd hr (by rcases hz with rfl | rfl <;> decide) ⟨M, rfl, z, rfl, h⟩
theorem S.vret {P : fp_Mem → Prop} (hd : decode Y.2.1 pc = .ok (.return_, 1)) (hr : Y.2.2.2 = none) (h : P M) : fp_S l G d Y pc LL [] M (qV P) := SP.vret hd hr ⟨M, rfl, rfl, h⟩
theorem S.lret {z : Int} {P : Int → fp_Mem → Prop} (hd : decode Y.2.1 pc = .ok (.lreturn, 1)) (hr : Y.2.2.2 = some .long) (h : P z M) : fp_S l G d Y pc LL [jV z] M (qJ P) := SP.lret hd hr ⟨M, rfl, z, rfl, h⟩
theorem S.aret {k : Nat} {P : Nat → fp_Mem → Prop} {rt : FieldType} (hd : decode Y.2.1 pc = .ok (.areturn, 1)) (hr : Y.2.2.2 = some rt) (hrt : (∃ n, rt = .object n) ∨ ∃ t, rt = .array t) (h : P k M) : fp_S l G d Y pc LL [rV G k] M (qR G P) := SP.aret hd hr hrt ⟨M, rfl, k, rfl, h⟩
theorem S.eqM {M' : fp_Mem} (e : M = M') (k : fp_S l G d Y pc LL st M' Q) : fp_S l G d Y pc LL st M Q := e ▸ k
end SPR
