/-! ROWS OF ROWS: seven rows of eight ints made at once (multianewarray), by the model's own making -/
def mmO (cA : ClassId) (h i : Nat) : Cell := arrV cA 7 (fun j => if j < i then .ref (h + 1 + j) else .null)
def mmI (cI : ClassId) : Cell := arrV cI 8 (fun _ => .int 0)
theorem mmO_set (cA : ClassId) (h i : Nat) : (mmO cA h i).setSlot i (.ref (h + 1 + i)) = mmO cA h (i + 1) := by
  unfold mmO
  rw [arrV_store]
  congr 1
  funext j
  unfold updV
  by_cases e : j = i
  · subst e; simp
  · by_cases e2 : j < i
    · simp [e, e2, show j < i + 1 by omega]
    · simp [e, e2, show ¬ j < i + 1 by omega]
/-- the outer row and i of its rows are made -/
def mmS (s : State) (cA cI : ClassId) : Nat → State
  | 0 => s.pushCell (mmO cA s.heap.size 0)
  | i + 1 => ((mmS s cA cI i).pushCell (mmI cI)).setCell s.heap.size ((mmO cA s.heap.size i).setSlot i (.ref (s.heap.size + 1 + i)))
theorem mmO_size (cA : ClassId) (h i : Nat) : (mmO cA h i).slots.size = 7 := arrV_size ..
theorem mmI_size (cI : ClassId) : (mmI cI).slots.size = 8 := arrV_size ..
theorem mmS_of (s : State) (cA cI : ClassId) (i : Nat) : (mmS s cA cI i).heap.size = s.heap.size + 1 + i ∧ (mmS s cA cI i).heap[s.heap.size]? = some (mmO cA s.heap.size i) ∧ (mmS s cA cI i).vm = s.vm ∧ (mmS s cA cI i).slotsUsed = s.slotsUsed + 7 + i * 8 ∧ (∀ a, a < s.heap.size → (mmS s cA cI i).heap[a]? = s.heap[a]?) ∧ ∀ j, j < i → (mmS s cA cI i).heap[s.heap.size + 1 + j]? = some (mmI cI) := by
  induction i with
  | zero =>
    refine ⟨by simp [mmS], State.heap_pushCell_size _ _, rfl, ?_, fun a ha => State.heap_pushCell_of_lt _ _ ha, fun j hj => absurd hj (Nat.not_lt_zero _)⟩
    simp [mmS, mmO_size]
  | succ i ih =>
    obtain ⟨a1, a2, a3, a4, a5, a6⟩ := ih
    have hlt : s.heap.size < (mmS s cA cI i).heap.size := by omega
    have hb : ((mmS s cA cI i).pushCell (mmI cI)).heap[s.heap.size]? = some (mmO cA s.heap.size i) := by rw [State.heap_pushCell_of_lt _ _ hlt]; exact a2
    refine ⟨?_, ?_, ?_, ?_, fun a ha => ?_, fun j hj => ?_⟩
    · simp [mmS, State.setCell, a1]; omega
    · show (((mmS s cA cI i).pushCell (mmI cI)).setCell s.heap.size _).heap[s.heap.size]? = _
      rw [State.heap_setCell_self hb, mmO_set]
    · simp [mmS, a3]
    · simp [mmS, a4, mmI_size]; omega
    · show (((mmS s cA cI i).pushCell (mmI cI)).setCell s.heap.size _).heap[a]? = _
      rw [State.heap_setCell_other (Nat.ne_of_gt ha), State.heap_pushCell_of_lt _ _ (show a < (mmS s cA cI i).heap.size by omega)]
      exact a5 a ha
    · show (((mmS s cA cI i).pushCell (mmI cI)).setCell s.heap.size _).heap[s.heap.size + 1 + j]? = _
      rw [State.heap_setCell_other (show s.heap.size ≠ s.heap.size + 1 + j by omega)]
      by_cases hj2 : j < i
      · rw [State.heap_pushCell_of_lt _ _ (show s.heap.size + 1 + j < (mmS s cA cI i).heap.size by omega)]
        exact a6 j hj2
      · have : s.heap.size + 1 + j = (mmS s cA cI i).heap.size := by omega
        rw [this]
        exact State.heap_pushCell_size _ _
theorem mmS_top (s : State) (f : JFrame) (cA cI : ClassId) (i : Nat) : mmS (s.setTop f) cA cI i = (mmS s cA cI i).setTop f := by
  induction i with
  | zero => rfl
  | succ i ih => simp only [mmS, ih, State.heap_setTop, State.pushCell_setTop, State.setCell_setTop]
section MMR
variable {p : Program} {l : Launch} {e : Env} {R : Room} {s : State} {m : MethodId} {args : Array Value} {below : List Frame} {meth : Method} {c : Code} {T : State} {locs : List Loc} {cells slots : Nat}
theorem mmS_stand (X : Stand p l e R s m args below meth c T locs cells slots) (cA cI : ClassId) (i : Nat) : Stand p l e R s m args below meth c (mmS T cA cI i) (locs ++ (List.range i).map fun j => ⟨T.heap.size, j⟩) (cells + 1 + i) (slots + 7 + i * 8) := by
  induction i with
  | zero =>
    have h := X.pushed (mmO cA T.heap.size 0)
    rw [mmO_size] at h
    simpa [mmS] using h
  | succ i ih =>
    obtain ⟨a1, a2, -⟩ := mmS_of T cA cI i
    have hc : ((mmS T cA cI i).pushCell (mmI cI)).heap[T.heap.size]? = some (mmO cA T.heap.size i) := by rw [State.heap_pushCell_of_lt _ _ (show T.heap.size < (mmS T cA cI i).heap.size by omega)]; exact a2
    have h := (ih.pushed (mmI cI)).stored hc i (.ref (T.heap.size + 1 + i))
    rw [mmI_size] at h
    have e2 : (locs ++ (List.range (i + 1)).map fun j => (⟨T.heap.size, j⟩ : Loc)) = (locs ++ (List.range i).map fun j => (⟨T.heap.size, j⟩ : Loc)) ++ [⟨T.heap.size, i⟩] := by simp [List.range_succ, List.append_assoc]
    rw [e2, show slots + 7 + (i + 1) * 8 = slots + 7 + i * 8 + 8 by omega]
    exact h
end MMR
section MMW
variable {E : CtlPost} {e : Env} {d : Bool} {acts : List Action} {s : State}
/-- the model's newArray, where everything fits -/
theorem mm_new {cA comp : ClassId} {k : Class} {ty : FieldType} {N : Nat} {v : Value} (hk : s.vm.classes[cA]? = some k) (hkind : k.kind = .array comp ty) (h1 : ¬ N > e.platform.arrayLengthLimit) (h2 : ¬ N * componentBytes ty > e.platform.maxHeapBytes) (h3 : fits ty v = true) (h4 : v.isDefault = true) {Q : Addr → Pre} (h5 : s.heap.size < e.platform.maxCells) (h6 : s.slotsUsed + N ≤ e.platform.maxSlots) (hq : Q s.heap.size d acts (s.pushCell (arrV cA N (fun _ => v)))) : wp (Jvm.newArray cA N v) Q E e d acts s := by
  have hda : allocActs (Array.replicate N v) s.heap.size acts = acts := by
    unfold allocActs
    rw [if_pos (by rw [Array.all_replicate]; split <;> simp [h4])]
  rw [← arrV_new] at hq
  simp only [Jvm.newArray, Jvm.arrayFits, wp_bind', W.ask, W.ite, h1, if_false, wp_pure', W.theClass, hk, hkind, h2, W.alloc, W.stop, Option.some.injEq, exists_eq_left', Array.size_replicate, hda]
  rw [if_neg (by omega)]
  refine ⟨h5, h6, fun i w hw => ?_, hq⟩
  simp only [Array.getElem?_replicate] at hw
  split at hw
  · cases hw; simp [State.fitsSlot, State.slotType?, hk, hkind, h3]
  · cases hw
theorem mm_make {cA cI cc : ClassId} {k kc : Class} (hk : s.vm.classes[cA]? = some k) (hkind : k.kind = .array cI (.array .int)) (hkc : s.vm.classes[cI]? = some kc) (hkindc : kc.kind = .array cc .int) (hl : e.platform.arrayLengthLimit = 2147483645) (hh : e.platform.maxHeapBytes = 536870912) (h5 : s.heap.size + 8 ≤ e.platform.maxCells) (h6 : s.slotsUsed + 63 ≤ e.platform.maxSlots) {Q : Addr → Pre} (hq : ∀ d' acts', Q s.heap.size d' acts' (mmS s cA cI 7)) : wp (multianewarray.make cA [7, 8]) Q E e d acts s := by
  rw [multianewarray.make]
  simp only [wp_bind', W.ite, show ¬ (7 : Int32) < 0 by decide, if_false, wp_pure', W.theClass, hk, hkind, Option.some.injEq, exists_eq_left']
  refine mm_new hk hkind (by rw [hl]; decide) (by rw [hh]; decide) rfl rfl (by omega) (by show s.slotsUsed + 7 ≤ _; omega) ?_
  rw [if_neg (by decide)]
  simp only [wp_pure', wp_bind']
  rw [Std.Legacy.Range.forIn_eq_forIn_range']
  show wp (forIn (List.range' 0 7 1) PUnit.unit _) _ E e d acts _
  refine wp_forIn_inv (fun rest s' => ∃ i, i ≤ 7 ∧ rest = List.range' i (7 - i) ∧ s' = mmS s cA cI i) _ _ ⟨0, by omega, rfl, rfl⟩ ?_ ?_
  · rintro x rest s' d' acts' Q' ⟨i, hi, hr, rfl⟩ hnext
    have hlt : i < 7 := by
      by_cases h : i < 7
      · exact h
      · rw [show 7 - i = 0 by omega] at hr; simp at hr
    rw [show 7 - i = (7 - (i + 1)) + 1 by omega, List.range'_succ] at hr
    obtain ⟨rfl, hr2⟩ := List.cons.inj hr
    obtain ⟨a1, a2, a3, a4, -⟩ := mmS_of s cA cI x
    simp only [wp_bind']
    rw [multianewarray.make]
    simp only [wp_bind', W.ite, show ¬ (8 : Int32) < 0 by decide, if_false, wp_pure', W.theClass, a3, hkc, hkindc, Option.some.injEq, exists_eq_left']
    refine mm_new (by rw [a3]; exact hkc) hkindc (by rw [hl]; decide) (by rw [hh]; decide) rfl rfl (by omega) (by show _ + 8 ≤ _; omega) ?_
    simp only [wp_bind', W.writeLoc, wp_pure']
    refine ⟨mmO cA s.heap.size x, by rw [State.heap_pushCell_of_lt _ _ (show s.heap.size < (mmS s cA cI x).heap.size by omega)]; exact a2, (fun h => by cases h), by rw [mmO_size]; exact hlt, ?_, hnext _ _ _ ⟨x + 1, hlt, hr2, ?_⟩⟩
    · show State.fitsSlot _ cA .none x _ = true
      simp [State.fitsSlot, State.slotType?, a3, hk, hkind, fits]
    · rw [a1]; rfl
  · rintro s' d' acts' ⟨i, hi, hr, rfl⟩
    have : i = 7 := by
      by_cases h : i < 7
      · rw [show 7 - i = (7 - (i + 1)) + 1 by omega, List.range'_succ] at hr; cases hr
      · omega
    subst this
    simp only [wp_pure']
    exact hq _ _
end MMW
theorem mm_over {args : Array Value} {s : State} (h : (Cond.arrayOver (.array .int)).before args s = true) : ∃ cI cA k, s.vm.findClass (FieldType.array .int).toString = some cI ∧ s.vm.classes[cA]? = some k ∧ k.kind = .array cI (.array .int) ∧ s.vm.findClass ("[" ++ (FieldType.array .int).toString) = some cA := by
  simp only [Cond.before, Cond.holds, Cond.value, beq_iff_eq] at h
  cases hc : s.vm.findClass (FieldType.array .int).toString with
  | none => simp [hc] at h
  | some cI =>
    simp only [hc, Option.bind_some, Option.bind_eq_some_iff, Option.map_eq_some_iff] at h
    obtain ⟨cA, hi, k, hk, hb⟩ := h
    obtain ⟨hlt, hp, -⟩ := Array.findIdx?_eq_some_iff_getElem.mp hi
    rw [(Array.getElem?_eq_some_iff.mp hk).2] at hp
    cases hkind : k.kind with
    | array comp ty =>
      rw [hkind] at hb hp
      simp at hb hp
      exact ⟨cI, cA, k, rfl, hk, by rw [hkind, hp, hb.1], hb.2⟩
    | _ => rw [hkind] at hb; simp at hb
section MMS
variable {p : Program} {l : Launch} {e : Env} {R : Room} {s : State} {m : MethodId} {args : Array Value} {below : List Frame} {meth : Method} {c : Code} {T : State} {locs : List Loc} {cells slots : Nat}
theorem mm_step (X : Stand p l e R s m args below meth c T locs cells slots) (hexec : p.tables.exec = Jvm.exec) {own : String} {index : Nat} (hown : s.vm.findClass own = some m.cls) (hcl : (Cond.classLink own index "[[I").before args s = true) {cI cA : ClassId} {kA : Class} (o1 : s.vm.findClass (FieldType.array .int).toString = some cI) (o2 : s.vm.classes[cA]? = some kA) (o3 : kA.kind = .array cI (.array .int)) (o4 : s.vm.findClass ("[" ++ (FieldType.array .int).toString) = some cA) (har : (Cond.arrayClass .int).before args s = true)
    {pc : Nat} {ls : Array Slot} {rest : List Value} (hd : decode c.code pc = .ok (.multianewarray index 2, 4)) (h1 : cells + 8 ≤ R.cells) (h2 : slots + 63 ≤ R.slots) :
    ∃ (vm₁ : Vm), s.WarmedH vm₁ ∧ Stand p l e R s m args below meth c (mmS (T.setVm vm₁) cA cI 7) (locs ++ (List.range 7).map fun j => ⟨T.heap.size, j⟩) (cells + 8) (slots + 63) ∧
      ∀ tg, Steps p.tables e below ((mmS (T.setVm vm₁) cA cI 7).setTop (F0 m (pc + 4) ls (.ref T.heap.size :: rest))) tg → Steps p.tables e below (T.setTop (F0 m pc ls (.int 8 :: .int 7 :: rest))) tg := by
  have hpl : e.platform.magicAccessors = ({} : Platform).magicAccessors := by rw [X.admits.platform]
  obtain ⟨cI', kC, cc, i1, i2, i3⟩ := Cond.arrayClass_spec har
  obtain rfl : cI = cI' := Option.some.inj (o1.symm.trans i1)
  obtain ⟨c0, g1, g2⟩ := Cond.classLink_spec hown hcl e.platform hpl
  obtain rfl : cA = c0 := Option.some.inj (o4.symm.trans g1)
  obtain ⟨k1, k2, -⟩ := State.classEntry (e := e) X.warmed g2
  generalize T.vm.noted m.cls index (.cls cA) = vm₁ at k1 k2
  have hal : s.vm.Alike vm₁ := k2.alike
  obtain ⟨kA1, hkA1, eA⟩ := hal.2.2 _ _ o2
  obtain ⟨kC1, hkC1, eC⟩ := hal.2.2 _ _ i2
  obtain ⟨r1, r2⟩ := X.roomAbove h1 h2
  have XF := mmS_stand (X.noted k2) cA cI 7
  refine ⟨vm₁, k2, XF, fun tg hrest => ?_⟩
  jvm_step X.here [hexec, hd]
  simp only [multianewarray.sem, wp_bind', W.resolveClassAt_links (State.method?_setTop (F0 m pc ls (.int 8 :: .int 7 :: rest)) X.here.top) k1]
  rw [W.popN, if_neg (by decide)]
  refine ⟨F0 m pc ls (.int 8 :: .int 7 :: rest), State.topJava?_setTop' (s := T.setVm vm₁) _ X.here.top, [.int 7, .int 8], rest, rfl, rfl, ?_⟩
  simp only [List.mapM_cons, List.mapM_nil, wp_bind', wp_pure']
  refine mm_make (cc := cc) (k := kA1) (kc := kC1) (cI := cI) hkA1 (by rw [eA]; exact o3) hkC1 (by rw [eC]; exact i3) (Launch.admits_arrayLengthLimit X.admits) (Launch.admits_maxHeapBytes X.admits) (by exact r1) (by exact r2) (fun d' acts' => ?_)
  have eS : ((T.setTop (F0 m pc ls (.int 8 :: .int 7 :: rest))).setVm vm₁).setTop (F0 m pc ls rest) = (T.setVm vm₁).setTop (F0 m pc ls rest) := by
    show ((T.setVm vm₁).setTop _).setTop _ = _
    rw [State.setTop_setTop]
  show wp _ _ _ _ _ _ (mmS (((T.setTop (F0 m pc ls (.int 8 :: .int 7 :: rest))).setVm vm₁).setTop (F0 m pc ls rest)) cA cI 7)
  rw [eS, mmS_top]
  simp only [wp_bind', W.mark, W.pushRef, State.topJava?_setTop' _ XF.here.top, Option.some.injEq, exists_eq_left', State.setTop_setTop, State.heap_setTop]
  intro acts
  simp [jvm, XF.here.top]
  exact hrest
end MMS
