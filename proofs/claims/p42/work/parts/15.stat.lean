/-! ROWS OVER THE MEMORY WHOSE REFERENCES STAND (after construction) -/
theorem fp_lt_obj {k c : Nat} (h : fp_lay k = (0, c)) : k < fp_K := by
  apply Decidable.byContradiction
  intro hk
  have : fp_layL[k]? = none := List.getElem?_eq_none (by have : fp_layL.length = fp_K := by decide +kernel
                                                         omega)
  unfold fp_lay at h
  rw [List.getD_eq_getElem?_getD, this] at h
  simp at h
theorem fp_lt_arr {k t len : Nat} (h : fp_lay k = (t, len)) (h2 : 0 < len) : k < fp_K := by
  apply Decidable.byContradiction
  intro hk
  have : fp_layL[k]? = none := List.getElem?_eq_none (by have : fp_layL.length = fp_K := by decide +kernel
                                                         omega)
  unfold fp_lay at h
  rw [List.getD_eq_getElem?_getD, this] at h
  simp at h
  omega
theorem fp_ref_len (k : Nat) : (fp_refL.getD k []).length ≤ 44 := by
  rw [List.getD_eq_getElem?_getD]
  cases h : fp_refL[k]? with
  | none => simp
  | some q =>
    have : ∀ q ∈ fp_refL, q.length ≤ 44 := by decide +kernel
    exact this q (List.mem_of_getElem? h)
theorem fp_ref_obj {k c j : Nat} (hk : fp_lay k = (0, c)) (hf : fp_fty c j ≠ 2) : fp_ref k j = 0 := by
  by_cases hj : j < 44
  · have h := fp_lt_obj hk
    have h9 : ∀ k, k < fp_K → (fp_lay k).1 = 0 → ∀ j, j < 44 → fp_fty (fp_lay k).2 j ≠ 2 → fp_ref k j = 0 := by decide +kernel
    exact h9 k h (by rw [hk]) j hj (by rw [hk]; exact hf)
  · unfold fp_ref
    rw [List.getD_eq_getElem?_getD, List.getElem?_eq_none (by have := fp_ref_len k; omega)]
    rfl
theorem fp_ref_arr {k t len : Nat} (j : Nat) (hk : fp_lay k = (t, len)) (h1 : 1 ≤ t) (h4 : t ≤ 4) : fp_ref k j = 0 := by
  by_cases h : k < fp_K
  · have h9 : ∀ k, k < fp_K → 1 ≤ (fp_lay k).1 → (fp_lay k).1 ≤ 4 → fp_refL.getD k [] = [] := by decide +kernel
    unfold fp_ref
    rw [h9 k h (by rw [hk]; exact h1) (by rw [hk]; exact h4)]
    rfl
  · unfold fp_ref
    have : fp_refL.getD k [] = [] := by
      have h8 : fp_refL.length = fp_K := by decide +kernel
      rw [List.getD_eq_getElem?_getD, List.getElem?_eq_none (by omega)]
      rfl
    rw [this]; rfl
theorem fp_sx_at {M : fp_Mem} {k j : Nat} (h : fp_ref k j = 0) : fp_sx M k j = M k j := by unfold fp_sx; rw [if_pos h]
theorem fp_sx_row {M : fp_Mem} {k : Nat} (h : ∀ j, fp_ref k j = 0) : fp_sx M k = M k := funext fun j => fp_sx_at (h j)
theorem fp_sx_up {M : fp_Mem} {k j : Nat} {z : Int} (h : fp_ref k j = 0) : fp_up (fp_sx M) k j z = fp_sx (fp_up M k j z) := by
  funext a b
  unfold fp_sx fp_up fp_upM fp_upf
  by_cases ha : a = k
  · subst ha
    by_cases hb : b = j
    · subst hb; simp [h]
    · simp [hb]
  · simp [ha]
theorem fp_sx_upM {M : fp_Mem} {k : Nat} {f : Nat → Int} (h : ∀ j, fp_ref k j = 0) : fp_upM (fp_sx M) k f = fp_sx (fp_upM M k f) := by
  funext a b
  unfold fp_sx fp_upM
  by_cases ha : a = k
  · subst ha; simp [h b]
  · simp [ha]
theorem fp_ro_ref {b t : Nat} : va_rf (fp_ro b ((t : Int) + 1)) = .ref (b + t) := by
  unfold fp_ro
  rw [if_neg (by omega)]
  simp [va_rf]
/-- a field: the pool's entry idx in class own is field j of class c, of kind t (0 int, 1 long, 2 reference), of that type, final or not -/
def fp_F (own : String) (idx c j t : Nat) (ty : FieldType) (fin : Bool) : Prop := fp_FL own idx c j ∧ fp_fty c j = t ∧ ∃ q : vw_C, vwCl[c]? = some q ∧ parseFieldDescriptor (q.2.1 j).2.2.1 = some ty ∧ (q.2.1 j).2.2.2 = fin
def fp_CV (own : String) (idx : Nat) (Z : fp_MR) (na c : Nat) : Prop := Cond.methodLink own idx Z.1 ∈ lw_tbl ∧ fp_Mok Z na ∧ fp_Vok Z ∧ ∃ q : vw_C, vwCl[c]? = some q ∧ q.1 = Z.1.cls
def fp_CS (own : String) (idx : Nat) (Z : fp_MR) (na : Nat) : Prop := Cond.methodLink own idx Z.1 ∈ lw_tbl ∧ fp_Mok Z na ∧ Cond.static Z.1 ∈ lw_tbl
def fp_CSN (own : String) (idx : Nat) (Z : fp_MR) (na : Nat) : Prop := ∃ host : String, Cond.methodLinkNest own idx Z.1 host ∈ lw_tbl ∧ fp_Mok Z na ∧ Cond.static Z.1 ∈ lw_tbl
section STR
variable {l : Launch} {G : fp_WG} {d : Nat} {Y : fp_MR} {pc pc' : Nat} {LL LL' : List (Option Value)} {st : List Value} {M : fp_Mem} {Q : fp_Q} {idx c j k len na d' : Nat} {ty : FieldType} {fin : Bool} {z x : Int} {Z : fp_MR} {As st0 : List Value}
theorem S.getI (hd : decode Y.2.1 pc = .ok (.getfield idx, 3)) (hp : pc + 3 = pc') (hf : fp_F Y.1.cls idx c j 0 ty fin) (hk : fp_lay k = (0, c)) (kk : fp_S l G d Y pc' LL (iV (M k j) :: st) M Q) : fp_S l G d Y pc LL (rV G k :: st) M Q := by
  refine SP.get hd hp hf.1 hk (fp_lt_obj hk) ?_
  rw [hf.2.1, fp_sx_at (fp_ref_obj hk (by rw [hf.2.1]; decide))]
  exact kk
theorem S.getJ (hd : decode Y.2.1 pc = .ok (.getfield idx, 3)) (hp : pc + 3 = pc') (hf : fp_F Y.1.cls idx c j 1 ty fin) (hk : fp_lay k = (0, c)) (kk : fp_S l G d Y pc' LL (jV (M k j) :: st) M Q) : fp_S l G d Y pc LL (rV G k :: st) M Q := by
  refine SP.get hd hp hf.1 hk (fp_lt_obj hk) ?_
  rw [hf.2.1, fp_sx_at (fp_ref_obj hk (by rw [hf.2.1]; decide))]
  exact kk
theorem S.getR {t : Nat} (hd : decode Y.2.1 pc = .ok (.getfield idx, 3)) (hp : pc + 3 = pc') (hf : fp_F Y.1.cls idx c j 2 ty fin) (hk : fp_lay k = (0, c)) (hr : fp_ref k j = t + 1) (kk : fp_S l G d Y pc' LL (rV G t :: st) M Q) : fp_S l G d Y pc LL (rV G k :: st) M Q := by
  refine SP.get hd hp hf.1 hk (fp_lt_obj hk) ?_
  have e : fp_fv (fp_b G) (fp_fty c j) (fp_sx M k j) = rV G t := by
    rw [hf.2.1]
    have : fp_sx M k j = (t : Int) + 1 := by unfold fp_sx; rw [hr, if_neg (by omega)]; simp
    rw [this]
    exact fp_ro_ref
  rw [e]
  exact kk
theorem S.getT {t : Nat} (hd : decode Y.2.1 pc = .ok (.getfield idx, 3)) (hp : pc + 3 = pc') (hf : fp_F Y.1.cls idx c j 2 ty fin) (hk : fp_lay k = (0, c)) (hr : fp_ref k j = 0) (hm : M k j = (t : Int) + 1) (kk : fp_S l G d Y pc' LL (rV G t :: st) M Q) : fp_S l G d Y pc LL (rV G k :: st) M Q := by
  refine SP.get hd hp hf.1 hk (fp_lt_obj hk) ?_
  have e : fp_fv (fp_b G) (fp_fty c j) (fp_sx M k j) = rV G t := by
    rw [hf.2.1, fp_sx_at hr, hm]
    exact fp_ro_ref
  rw [e]
  exact kk
theorem S.putI (hd : decode Y.2.1 pc = .ok (.putfield idx, 3)) (hp : pc + 3 = pc') (hf : fp_F Y.1.cls idx c j 0 .int false) (hk : fp_lay k = (0, c)) (kk : fp_S l G d Y pc' LL st (fp_up M k j z) Q) : fp_S l G d Y pc LL (iV z :: rV G k :: st) M Q := by
  obtain ⟨q, h1, h2, h3⟩ := hf.2.2
  refine SP.put (z := z) (fin := false) hd hp hf.1 hk (fp_lt_obj hk) ⟨q, h1, h2, Or.inl h3⟩ (by rw [hf.2.1]; rfl) rfl rfl ?_
  rw [fp_sx_up (fp_ref_obj hk (by rw [hf.2.1]; decide))]
  exact kk
theorem S.putZ (hd : decode Y.2.1 pc = .ok (.putfield idx, 3)) (hp : pc + 3 = pc') (hf : fp_F Y.1.cls idx c j 0 .boolean false) (hk : fp_lay k = (0, c)) (hz : z = 0 ∨ z = 1) (kk : fp_S l G d Y pc' LL st (fp_up M k j z) Q) : fp_S l G d Y pc LL (iV z :: rV G k :: st) M Q := by
  obtain ⟨q, h1, h2, h3⟩ := hf.2.2
  refine SP.put (z := z) (fin := false) hd hp hf.1 hk (fp_lt_obj hk) ⟨q, h1, h2, Or.inl h3⟩ (by rw [hf.2.1]; rfl) (by rcases hz with rfl | rfl <;> decide) (by rcases hz with rfl | rfl <;> decide) ?_
  rw [fp_sx_up (fp_ref_obj hk (by rw [hf.2.1]; decide))]
  exact kk
theorem S.putJ (hd : decode Y.2.1 pc = .ok (.putfield idx, 3)) (hp : pc + 3 = pc') (hf : fp_F Y.1.cls idx c j 1 .long false) (hk : fp_lay k = (0, c)) (kk : fp_S l G d Y pc' LL st (fp_up M k j z) Q) : fp_S l G d Y pc LL (jV z :: rV G k :: st) M Q := by
  obtain ⟨q, h1, h2, h3⟩ := hf.2.2
  refine SP.put (z := z) (fin := false) hd hp hf.1 hk (fp_lt_obj hk) ⟨q, h1, h2, Or.inl h3⟩ (by rw [hf.2.1]; rfl) rfl rfl ?_
  rw [fp_sx_up (fp_ref_obj hk (by rw [hf.2.1]; decide))]
  exact kk
theorem S.putT {t : Nat} {e9 : FieldType} (hd : decode Y.2.1 pc = .ok (.putfield idx, 3)) (hp : pc + 3 = pc') (hf : fp_F Y.1.cls idx c j 2 (.array e9) false) (hk : fp_lay k = (0, c)) (hr : fp_ref k j = 0) (kk : fp_S l G d Y pc' LL st (fp_up M k j ((t : Int) + 1)) Q) : fp_S l G d Y pc LL (rV G t :: rV G k :: st) M Q := by
  obtain ⟨q, h1, h2, h3⟩ := hf.2.2
  refine SP.put (z := (t : Int) + 1) (fin := false) hd hp hf.1 hk (fp_lt_obj hk) ⟨q, h1, h2, Or.inl h3⟩ (by rw [hf.2.1]; exact fp_ro_ref) rfl rfl ?_
  rw [fp_sx_up hr]
  exact kk
theorem S.iald (hd : decode Y.2.1 pc = .ok (.iaload, 1)) (hp : pc + 1 = pc') (hk : fp_lay k = (1, len)) (h0 : 0 ≤ z) (h1 : z < len) (kk : fp_S l G d Y pc' LL (iV (M k z.toNat) :: st) M Q) : fp_S l G d Y pc LL (iV z :: rV G k :: st) M Q := by
  refine SP.iald hd hp hk (fp_lt_arr hk (by omega)) h0 h1 ?_
  rw [fp_sx_at (fp_ref_arr _ hk (by decide) (by decide))]
  exact kk
theorem S.bald (hd : decode Y.2.1 pc = .ok (.baload, 1)) (hp : pc + 1 = pc') (hk : fp_lay k = (2, len)) (h0 : 0 ≤ z) (h1 : z < len) (kk : fp_S l G d Y pc' LL (iV (M k z.toNat) :: st) M Q) : fp_S l G d Y pc LL (iV z :: rV G k :: st) M Q := by
  refine SP.bald hd hp hk (fp_lt_arr hk (by omega)) h0 h1 ?_
  rw [fp_sx_at (fp_ref_arr _ hk (by decide) (by decide))]
  exact kk
theorem S.zald (hd : decode Y.2.1 pc = .ok (.baload, 1)) (hp : pc + 1 = pc') (hk : fp_lay k = (3, len)) (h0 : 0 ≤ z) (h1 : z < len) (kk : fp_S l G d Y pc' LL (iV (M k z.toNat) :: st) M Q) : fp_S l G d Y pc LL (iV z :: rV G k :: st) M Q := by
  refine SP.zald hd hp hk (fp_lt_arr hk (by omega)) h0 h1 ?_
  rw [fp_sx_at (fp_ref_arr _ hk (by decide) (by decide))]
  exact kk
theorem S.lald (hd : decode Y.2.1 pc = .ok (.laload, 1)) (hp : pc + 1 = pc') (hk : fp_lay k = (4, len)) (h0 : 0 ≤ z) (h1 : z < len) (kk : fp_S l G d Y pc' LL (jV (M k z.toNat) :: st) M Q) : fp_S l G d Y pc LL (iV z :: rV G k :: st) M Q := by
  refine SP.lald hd hp hk (fp_lt_arr hk (by omega)) h0 h1 ?_
  rw [fp_sx_at (fp_ref_arr _ hk (by decide) (by decide))]
  exact kk
theorem S.aald {t9 t : Nat} (hd : decode Y.2.1 pc = .ok (.aaload, 1)) (hp : pc + 1 = pc') (hk : fp_lay k = (t9, len)) (h5 : 5 ≤ t9) (h8 : t9 ≤ 8) (h0 : 0 ≤ z) (h1 : z < len) (hr : fp_ref k z.toNat = t + 1) (kk : fp_S l G d Y pc' LL (rV G t :: st) M Q) : fp_S l G d Y pc LL (iV z :: rV G k :: st) M Q := by
  have e : va_rf (fp_ro (fp_b G) (fp_sx M k z.toNat)) = rV G t := by
    have : fp_sx M k z.toNat = (t : Int) + 1 := by unfold fp_sx; rw [hr, if_neg (by omega)]; simp
    rw [this]
    exact fp_ro_ref
  have hlt := fp_lt_arr hk (by omega)
  rcases (show t9 = 5 ∨ t9 = 6 ∨ t9 = 7 ∨ t9 = 8 by omega) with rfl | rfl | rfl | rfl
  · refine SP.aaldP hd hp hk hlt h0 h1 ?_
    rw [e]; exact kk
  · refine SP.aaldI hd hp hk hlt h0 h1 ?_
    rw [e]; exact kk
  · refine SP.aaldS hd hp hk hlt h0 h1 ?_
    rw [e]; exact kk
  · refine SP.aaldR hd hp hk hlt h0 h1 ?_
    rw [e]; exact kk
theorem S.iast (hd : decode Y.2.1 pc = .ok (.iastore, 1)) (hp : pc + 1 = pc') (hk : fp_lay k = (1, len)) (h0 : 0 ≤ z) (h1 : z < len) (kk : fp_S l G d Y pc' LL st (fp_up M k z.toNat x) Q) : fp_S l G d Y pc LL (iV x :: iV z :: rV G k :: st) M Q := by
  refine SP.iast hd hp hk (fp_lt_arr hk (by omega)) h0 h1 ?_
  rw [fp_sx_up (fp_ref_arr _ hk (by decide) (by decide))]
  exact kk
theorem S.bast (hd : decode Y.2.1 pc = .ok (.bastore, 1)) (hp : pc + 1 = pc') (hk : fp_lay k = (2, len)) (h0 : 0 ≤ z) (h1 : z < len) (hx : narrow .byte (iV x) = iV x) (kk : fp_S l G d Y pc' LL st (fp_up M k z.toNat x) Q) : fp_S l G d Y pc LL (iV x :: iV z :: rV G k :: st) M Q := by
  refine SP.bast hd hp hk (fp_lt_arr hk (by omega)) h0 h1 hx ?_
  rw [fp_sx_up (fp_ref_arr _ hk (by decide) (by decide))]
  exact kk
theorem S.zast (hd : decode Y.2.1 pc = .ok (.bastore, 1)) (hp : pc + 1 = pc') (hk : fp_lay k = (3, len)) (h0 : 0 ≤ z) (h1 : z < len) (hx : x = 0 ∨ x = 1) (kk : fp_S l G d Y pc' LL st (fp_up M k z.toNat x) Q) : fp_S l G d Y pc LL (iV x :: iV z :: rV G k :: st) M Q := by
  refine SP.zast hd hp hk (fp_lt_arr hk (by omega)) h0 h1 (by rcases hx with rfl | rfl <;> decide) ?_
  rw [fp_sx_up (fp_ref_arr _ hk (by decide) (by decide))]
  exact kk
theorem S.last (hd : decode Y.2.1 pc = .ok (.lastore, 1)) (hp : pc + 1 = pc') (hk : fp_lay k = (4, len)) (h0 : 0 ≤ z) (h1 : z < len) (kk : fp_S l G d Y pc' LL st (fp_up M k z.toNat x) Q) : fp_S l G d Y pc LL (jV x :: iV z :: rV G k :: st) M Q := by
  refine SP.last hd hp hk (fp_lt_arr hk (by omega)) h0 h1 ?_
  rw [fp_sx_up (fp_ref_arr _ hk (by decide) (by decide))]
  exact kk
theorem S.alen {t : Nat} (hd : decode Y.2.1 pc = .ok (.arraylength, 1)) (hp : pc + 1 = pc') (hk : fp_lay k = (t, len)) (ht : t ≠ 0) (hty : fp_tys[t]? = some ty) (hn : 0 < len) (kk : fp_S l G d Y pc' LL (iV (len : Int) :: st) M Q) : fp_S l G d Y pc LL (rV G k :: st) M Q := SP.alen hd hp hk ht hty (fp_lt_arr hk hn) kk
theorem S.copyi {k0 k1 n0 n1 : Nat} {sp dp m9 : Int} (hd : decode Y.2.1 pc = .ok (.invokestatic idx, 3)) (hp : pc + 3 = pc') (hlk : Cond.methodLink Y.1.cls idx arraycopyName ∈ lw_tbl) (hk0 : fp_lay k0 = (1, n0)) (hk1 : fp_lay k1 = (1, n1)) (hp0 : 0 < n0) (hp1 : 0 < n1) (h1 : 0 ≤ sp) (h2 : 0 ≤ dp) (h3 : 0 ≤ m9) (h4 : sp + m9 ≤ n0) (h5 : dp + m9 ≤ n1) (hd1 : 1 ≤ d) (hst : (st.map fun v => v.category).sum ≤ 4)
    (kk : fp_S l G d Y pc' LL st (fp_upM M k1 (va_cpy (M k0) (M k1) sp.toNat dp.toNat m9.toNat)) Q) : fp_S l G d Y pc LL (iV m9 :: iV dp :: rV G k1 :: iV sp :: rV G k0 :: st) M Q := by
  refine SP.copyi hd hp hlk hk0 hk1 (fp_lt_arr hk0 hp0) (fp_lt_arr hk1 hp1) h1 h2 h3 h4 h5 hd1 hst ?_
  rw [fp_sx_row (fun j => fp_ref_arr j hk0 (by decide) (by decide)), fp_sx_row (fun j => fp_ref_arr j hk1 (by decide) (by decide)), fp_sx_upM (fun j => fp_ref_arr j hk1 (by decide) (by decide))]
  exact kk
theorem S.callV {Q1 : fp_Q} (hd : decode Y.2.1 pc = .ok (.invokevirtual idx, 3)) (hp : pc + 3 = pc') (hc : fp_CV Y.1.cls idx Z na c) (ok : fp_Ok l G d' Z (rV G k :: As) M Q1) (hna : As.length = na) (hk : fp_lay k = (0, c)) (hdd : d' + 1 ≤ d) (hst0 : st0 = As.reverse ++ rV G k :: st) (hst : (st.map fun v => v.category).sum ≤ 8)
    (kk : ∀ (r : Option Value) (M' : fp_Mem), Q1 r M' → fp_S l G d Y pc' LL (r.toList ++ st) M' Q) : fp_S l G d Y pc LL st0 M Q := by
  obtain ⟨h1, h2, h3, q, h4, h5⟩ := hc
  refine SP.callV hd hp h1 h2 h3 hna hk (fp_lt_obj hk) h4 h5 hdd (Nat.le_refl _) (Nat.le_refl _) hst0 hst ok ?_
  rintro r X ⟨M', rfl, hq⟩
  exact kk r M' hq
theorem S.callVi {P : Int → fp_Mem → Prop} (hd : decode Y.2.1 pc = .ok (.invokevirtual idx, 3)) (hp : pc + 3 = pc') (hc : fp_CV Y.1.cls idx Z na c) (ok : fp_Ok l G d' Z (rV G k :: As) M (qI P)) (hna : As.length = na) (hk : fp_lay k = (0, c)) (hdd : d' + 1 ≤ d) (hst0 : st0 = As.reverse ++ rV G k :: st) (hst : (st.map fun v => v.category).sum ≤ 8)
    (kk : ∀ (z : Int) (M' : fp_Mem), P z M' → fp_S l G d Y pc' LL (iV z :: st) M' Q) : fp_S l G d Y pc LL st0 M Q := by
  refine S.callV hd hp hc ok hna hk hdd hst0 hst ?_
  rintro r M' ⟨z, rfl, h⟩
  exact kk z M' h
theorem S.callVj {P : Int → fp_Mem → Prop} (hd : decode Y.2.1 pc = .ok (.invokevirtual idx, 3)) (hp : pc + 3 = pc') (hc : fp_CV Y.1.cls idx Z na c) (ok : fp_Ok l G d' Z (rV G k :: As) M (qJ P)) (hna : As.length = na) (hk : fp_lay k = (0, c)) (hdd : d' + 1 ≤ d) (hst0 : st0 = As.reverse ++ rV G k :: st) (hst : (st.map fun v => v.category).sum ≤ 8)
    (kk : ∀ (z : Int) (M' : fp_Mem), P z M' → fp_S l G d Y pc' LL (jV z :: st) M' Q) : fp_S l G d Y pc LL st0 M Q := by
  refine S.callV hd hp hc ok hna hk hdd hst0 hst ?_
  rintro r M' ⟨z, rfl, h⟩
  exact kk z M' h
theorem S.callVv {P : fp_Mem → Prop} (hd : decode Y.2.1 pc = .ok (.invokevirtual idx, 3)) (hp : pc + 3 = pc') (hc : fp_CV Y.1.cls idx Z na c) (ok : fp_Ok l G d' Z (rV G k :: As) M (qV P)) (hna : As.length = na) (hk : fp_lay k = (0, c)) (hdd : d' + 1 ≤ d) (hst0 : st0 = As.reverse ++ rV G k :: st) (hst : (st.map fun v => v.category).sum ≤ 8)
    (kk : ∀ (M' : fp_Mem), P M' → fp_S l G d Y pc' LL st M' Q) : fp_S l G d Y pc LL st0 M Q := by
  refine S.callV hd hp hc ok hna hk hdd hst0 hst ?_
  rintro r M' ⟨rfl, h⟩
  exact kk M' h
theorem S.callVr {P : Nat → fp_Mem → Prop} (hd : decode Y.2.1 pc = .ok (.invokevirtual idx, 3)) (hp : pc + 3 = pc') (hc : fp_CV Y.1.cls idx Z na c) (ok : fp_Ok l G d' Z (rV G k :: As) M (qR G P)) (hna : As.length = na) (hk : fp_lay k = (0, c)) (hdd : d' + 1 ≤ d) (hst0 : st0 = As.reverse ++ rV G k :: st) (hst : (st.map fun v => v.category).sum ≤ 8)
    (kk : ∀ (z : Nat) (M' : fp_Mem), P z M' → fp_S l G d Y pc' LL (rV G z :: st) M' Q) : fp_S l G d Y pc LL st0 M Q := by
  refine S.callV hd hp hc ok hna hk hdd hst0 hst ?_
  rintro r M' ⟨z, rfl, h⟩
  exact kk z M' h
theorem S.callS {Q1 : fp_Q} (hd : decode Y.2.1 pc = .ok (.invokestatic idx, 3)) (hp : pc + 3 = pc') (hc : fp_CS Y.1.cls idx Z na) (ok : fp_Ok l G d' Z As M Q1) (hna : As.length = na) (hdd : d' + 1 ≤ d) (hst0 : st0 = As.reverse ++ st) (hst : (st.map fun v => v.category).sum ≤ 8)
    (kk : ∀ (r : Option Value) (M' : fp_Mem), Q1 r M' → fp_S l G d Y pc' LL (r.toList ++ st) M' Q) : fp_S l G d Y pc LL st0 M Q := by
  obtain ⟨h1, h2, h3⟩ := hc
  refine SP.callS hd hp h1 h2 h3 hna hdd (Nat.le_refl _) (Nat.le_refl _) hst0 hst ok ?_
  rintro r X ⟨M', rfl, hq⟩
  exact kk r M' hq
theorem S.callSi {P : Int → fp_Mem → Prop} (hd : decode Y.2.1 pc = .ok (.invokestatic idx, 3)) (hp : pc + 3 = pc') (hc : fp_CS Y.1.cls idx Z na) (ok : fp_Ok l G d' Z As M (qI P)) (hna : As.length = na) (hdd : d' + 1 ≤ d) (hst0 : st0 = As.reverse ++ st) (hst : (st.map fun v => v.category).sum ≤ 8)
    (kk : ∀ (z : Int) (M' : fp_Mem), P z M' → fp_S l G d Y pc' LL (iV z :: st) M' Q) : fp_S l G d Y pc LL st0 M Q := by
  refine S.callS hd hp hc ok hna hdd hst0 hst ?_
  rintro r M' ⟨z, rfl, h⟩
  exact kk z M' h
theorem S.callSj {P : Int → fp_Mem → Prop} (hd : decode Y.2.1 pc = .ok (.invokestatic idx, 3)) (hp : pc + 3 = pc') (hc : fp_CS Y.1.cls idx Z na) (ok : fp_Ok l G d' Z As M (qJ P)) (hna : As.length = na) (hdd : d' + 1 ≤ d) (hst0 : st0 = As.reverse ++ st) (hst : (st.map fun v => v.category).sum ≤ 8)
    (kk : ∀ (z : Int) (M' : fp_Mem), P z M' → fp_S l G d Y pc' LL (jV z :: st) M' Q) : fp_S l G d Y pc LL st0 M Q := by
  refine S.callS hd hp hc ok hna hdd hst0 hst ?_
  rintro r M' ⟨z, rfl, h⟩
  exact kk z M' h
theorem S.callSv {P : fp_Mem → Prop} (hd : decode Y.2.1 pc = .ok (.invokestatic idx, 3)) (hp : pc + 3 = pc') (hc : fp_CS Y.1.cls idx Z na) (ok : fp_Ok l G d' Z As M (qV P)) (hna : As.length = na) (hdd : d' + 1 ≤ d) (hst0 : st0 = As.reverse ++ st) (hst : (st.map fun v => v.category).sum ≤ 8)
    (kk : ∀ (M' : fp_Mem), P M' → fp_S l G d Y pc' LL st M' Q) : fp_S l G d Y pc LL st0 M Q := by
  refine S.callS hd hp hc ok hna hdd hst0 hst ?_
  rintro r M' ⟨rfl, h⟩
  exact kk M' h
theorem S.callSNi {P : Int → fp_Mem → Prop} (hd : decode Y.2.1 pc = .ok (.invokestatic idx, 3)) (hp : pc + 3 = pc') (hc : fp_CSN Y.1.cls idx Z na) (ok : fp_Ok l G d' Z As M (qI P)) (hna : As.length = na) (hdd : d' + 1 ≤ d) (hst0 : st0 = As.reverse ++ st) (hst : (st.map fun v => v.category).sum ≤ 8)
    (kk : ∀ (z : Int) (M' : fp_Mem), P z M' → fp_S l G d Y pc' LL (iV z :: st) M' Q) : fp_S l G d Y pc LL st0 M Q := by
  obtain ⟨host, h1, h2, h3⟩ := hc
  refine SP.callSN hd hp h1 h2 h3 hna hdd (Nat.le_refl _) (Nat.le_refl _) hst0 hst ok ?_
  rintro r X ⟨M', rfl, z, rfl, h⟩
  exact kk z M' h
/-- a weaker end -/
theorem fp_SP.weaken {n cs ss mc ms nf : Nat} {Q' : fp_Q} (h : fp_SP l G d n cs ss mc ms nf Y pc LL st M Q) (hq : ∀ r M', Q r M' → Q' r M') : fp_SP l G d n cs ss mc ms nf Y pc LL st M Q' := by
  intro p e s m args below meth c H locs ls C hR hL hl T hT X
  obtain ⟨t, a1, o, b1, b2, ⟨r, M', e1, e2, e3⟩, b4⟩ := h p e s m args below meth c H locs ls C hR hL hl T hT X
  exact ⟨t, a1, o, b1, b2, ⟨r, M', e1, hq r M' e2, e3⟩, b4⟩
theorem fp_S.weaken {Q' : fp_Q} (h : fp_S l G d Y pc LL st M Q) (hq : ∀ r M', Q r M' → Q' r M') : fp_S l G d Y pc LL st M Q' := fp_SP.weaken h (fun r X ⟨M', e, q⟩ => ⟨M', e, hq r M' q⟩)
end STR
