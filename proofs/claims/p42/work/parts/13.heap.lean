/-! ROWS FOR THE HEAP: fields, arrays -/
/-- a field: the pool's entry idx in class own is field j of class c -/
def fp_FL (own : String) (idx c j : Nat) : Prop := ∃ q : vw_C, vwCl[c]? = some q ∧ j < q.2.2 ∧ Cond.fieldLink own idx (q.2.1 j).1 (q.2.1 j).2.1 (q.2.1 j).2.2.1 ∈ lw_tbl
def fp_FP (own : String) (idx c j : Nat) (fin : Bool) (ty : FieldType) : Prop := ∃ q : vw_C, vwCl[c]? = some q ∧ j < q.2.2 ∧ Cond.fieldLink own idx (q.2.1 j).1 (q.2.1 j).2.1 (q.2.1 j).2.2.1 ∈ lw_tbl ∧ (q.2.1 j).2.2.2 = fin ∧ (q.2.1 j).1 = own ∧ parseFieldDescriptor (q.2.1 j).2.2.1 = some ty
theorem fp_lay_le (k : Nat) : (fp_lay k).2 ≤ 729 := by
  unfold fp_lay
  rw [List.getD_eq_getElem?_getD]
  cases h : fp_layL[k]? with
  | none => simp
  | some q =>
    have : ∀ q ∈ fp_layL, q.2 ≤ 729 := by decide +kernel
    exact this q (List.mem_of_getElem? h)
theorem fp_obj {G : fp_WG} {n k c : Nat} {M : fp_Mem} {H : Heap} (hR : fp_Rep G n M H) (hn : k < n) (hk : fp_lay k = (0, c)) : ∃ q : vw_C, vwCl[c]? = some q ∧ t_OB (fp_b G + k) (G.2.2.1 c) q.2.2 (G.2.2.2.1 c) H (fun j => fp_fv (fp_b G) (fp_fty c j) (M k j)) := by
  have h := hR.2.1 k hn
  unfold fp_cell at h
  rw [hk] at h
  exact h
theorem fp_arrAt {G : fp_WG} {n k t len : Nat} {M : fp_Mem} {H : Heap} (hR : fp_Rep G n M H) (hn : k < n) (hk : fp_lay k = (t, len)) (ht : t ≠ 0) : H[fp_b G + k]? = some (vp_cell (G.2.2.2.2.1 t) (fp_arrc (fp_b G) t len (M k))) := by
  have h := hR.2.1 k hn
  unfold fp_cell at h
  rw [hk, if_neg ht] at h
  exact h
theorem fp_arrSet {G : fp_WG} {k t len : Nat} {f : Nat → Int} {H : Heap} (hk : fp_lay k = (t, len)) (ht : t ≠ 0) (h : H[fp_b G + k]? = some (vp_cell (G.2.2.2.2.1 t) (fp_arrc (fp_b G) t len f))) : fp_cell G k f H := by
  unfold fp_cell
  rw [hk, if_neg ht]
  exact h
theorem fp_isA {s : State} {cA : ClassId} {ty : FieldType} {n : Nat} {z : Nat → Value} (h : ArrOfT s cA ty) : s.isArrayOf (arrV cA n z) ty := h n z
section HPR
variable {l : Launch} {G : fp_WG} {d n cs ss mc ms nf : Nat} {Y : fp_MR} {pc pc' : Nat} {LL LL' : List (Option Value)} {st : List Value} {M : fp_Mem} {Q : fp_Q}
theorem SP.get {idx c j k : Nat} (hd : decode Y.2.1 pc = .ok (.getfield idx, 3)) (hp : pc + 3 = pc') (hf : fp_FL Y.1.cls idx c j) (hk : fp_lay k = (0, c)) (hn : k < n) (kk : fp_SP l G d n cs ss mc ms nf Y pc' LL (fp_fv (fp_b G) (fp_fty c j) (M k j) :: st) M Q) : fp_SP l G d n cs ss mc ms nf Y pc LL (rV G k :: st) M Q := by
  subst hp
  intro p e s m args below meth c0 H locs ls C hR hL hl
  have K0 := C.2.2.2.2.2.2.2.1
  have hW := C.2.2.2.2.2.2.2.2
  obtain ⟨q, hq, hj, hlk⟩ := hf
  obtain ⟨q', hq', cell, q1, q2, q3, q4⟩ := fp_obj hR hn hk
  cases hq.symm.trans hq'
  obtain ⟨hS, hfc, kC, hkC, hkind⟩ := fp_kn K0 hW hq
  obtain ⟨cf, kf, fi, f, hi, hsl⟩ := hS j hj
  refine W.getf C.1 C.2.1 C.2.2.2.1 (fp_word K0 hW hlk rfl) hi (u_facts hfc hkC (u_lays (fp_cw (args := args) K0 hW hq) (fun _ h => h) hj) hi).1 q1 (by rw [q3]; exact fun h => by cases h) (v := fp_fv (fp_b G) (fp_fty c j) (M k j)) ?_ rfl rfl hd (kk p e s m args below meth c0 H locs ls C hR hL hl)
  rw [hsl, q4 j hj]
theorem fp_upd_fv {b c j : Nat} {f : Nat → Int} {z : Int} {v : Value} (h : fp_fv b (fp_fty c j) z = v) (i : Nat) : updV (fun i => fp_fv b (fp_fty c i) (f i)) j v i = fp_fv b (fp_fty c i) (fp_upf f j z i) := by
  unfold updV fp_upf
  by_cases e : i = j
  · subst e; simp [h]
  · simp [e]
theorem SP.put {idx c j k : Nat} {fin : Bool} {ty : FieldType} {z : Int} {v : Value} (hd : decode Y.2.1 pc = .ok (.putfield idx, 3)) (hp : pc + 3 = pc') (hf : fp_FL Y.1.cls idx c j) (hk : fp_lay k = (0, c)) (hn : k < n)
    (hfp : ∃ q : vw_C, vwCl[c]? = some q ∧ parseFieldDescriptor (q.2.1 j).2.2.1 = some ty ∧ ((q.2.1 j).2.2.2 = false ∨ ((q.2.1 j).2.2.2 = true ∧ Y.1.name = "<init>" ∧ (q.2.1 j).1 = Y.1.cls))) (hv : fp_fv (fp_b G) (fp_fty c j) z = v) (hnr : narrow ty v = v) (hfit : fits ty v = true)
    (kk : fp_SP l G d n cs ss mc ms nf Y pc' LL st (fp_up M k j z) Q) : fp_SP l G d n cs ss mc ms nf Y pc LL (v :: rV G k :: st) M Q := by
  subst hp
  intro p e s m args below meth c0 H locs ls C hR hL hl
  have K0 := C.2.2.2.2.2.2.2.1
  have hW := C.2.2.2.2.2.2.2.2
  obtain ⟨q, hq, hj, hlk⟩ := hf
  obtain ⟨q'', hq'', hpf, hfin⟩ := hfp
  cases hq.symm.trans hq''
  obtain ⟨q', hq', cell, q1, q2, q3, q4⟩ := fp_obj hR hn hk
  cases hq.symm.trans hq'
  obtain ⟨hS, hfc, kC, hkC, hkind⟩ := fp_kn K0 hW hq
  obtain ⟨cf, kf, fi, f, hi, hsl⟩ := hS j hj
  have hts := fp_cw (args := args) K0 hW hq
  have hst := (u_facts hfc hkC (u_lays hts (fun _ h => h) hj) hi).1
  obtain ⟨ty0, hty, hnm⟩ := fp_hty c q hq
  have hap : ∀ x y, x < q.2.2 → y < q.2.2 → x ≠ y → (G.2.2.2.1 c) x ≠ (G.2.2.2.1 c) y := by
    intro x y hx hy hne
    obtain ⟨_, _, _, fa, hia, ea⟩ := hS x hx
    obtain ⟨_, _, _, fb, hib, eb⟩ := hS y hy
    rw [← ea, ← eb]
    refine u_apart (u_lays hts (fun _ h => h) hx) (u_lays hts (fun _ h => h) hy) hia hib ?_
    rw [(State.fieldFound?_type hia (hty x hx)).1, (State.fieldFound?_type hib (hty y hy)).1]
    exact hnm x hx y hy hne
  have fin9 : ∀ H' : Heap, H'[fp_b G + k]? = some (cell.setSlot f.slot v) → H'.size = H.size → (∀ q, q ≠ fp_b G + k → H'[q]? = H[q]?) → W p l e (fp_rm d mc ms) s m args below meth c0 H' (locs ++ [⟨fp_b G + k, f.slot⟩]) cs ss (MQ below (fp_Qx G nf Q) args s mc ms (fun q => fp_b G ≤ q)) (F0 m (pc + 3) ls st) := by
    intro H' e1 e2 e3
    rw [hsl] at e1
    have hc : fp_cell G k (fp_upf (M k) j z) H' := by
      unfold fp_cell
      rw [hk]
      exact ⟨q, hq, t_OB.to (V := updV (fun i => fp_fv (fp_b G) (fp_fty c i) (M k i)) j v) ⟨_, e1, q2, q3, t_set q4 hap hj v⟩ (fun i _ => fp_upd_fv hv i)⟩
    refine kk p e s m args below meth c0 H' _ ls C (hR.set hn e2 e3 hc) ?_ hl
    intro x hx
    rcases List.mem_append.mp hx with h | h
    · exact hL x h
    · simp only [List.mem_singleton] at h
      rw [h]; exact Nat.le_add_right _ _
  rcases hfin with hfin | ⟨hfin, hin2, hdecl⟩
  · have hlay := hts _ (u_in_lay hj)
    unfold u_lay at hlay
    rw [if_neg (by rw [hfin]; decide)] at hlay
    have h6 := u_store hfc hkC hkind hlay hi hpf hnr hfit
    exact W.putK C.1 C.2.1 (f := f) ⟨C.2.2.2.1, fp_word K0 hW hlk rfl, ⟨_, _, _, hi⟩, hst⟩ (by rw [q2]; exact h6) q1 q3 (by rw [hsl]; exact k2_hasslot (q4 j hj)) rfl rfl hd fin9
  · have hlay := hts _ (u_in_lay hj)
    unfold u_lay at hlay
    rw [if_pos hfin] at hlay
    have hcf : m.cls = cf := by
      obtain ⟨_, _, c', _, _, _, -, -, hf', -, -, -, hown2, -⟩ := Cond.laysFinal_spec hlay
      have e1 : c' = cf := by have := hi.symm.trans hf'; simp at this; exact this.1.symm
      rw [hdecl] at hown2
      rw [← e1]; exact Option.some.inj (C.2.2.2.1.symm.trans hown2)
    have h6 := u_fits hfc hkC hkind (Or.inr hlay) hi hpf hnr hfit
    exact W.putFinK C.1 C.2.1 C.2.2.2.1 (fp_word K0 hW hlk rfl) hi hst hcf (C.2.2.2.2.2.2.1.trans hin2) (by rw [q2]; exact h6) q1 q3 (by rw [hsl]; exact k2_hasslot (q4 j hj)) rfl rfl hd fin9
theorem SP.iald {k len : Nat} {z : Int} (hd : decode Y.2.1 pc = .ok (.iaload, 1)) (hp : pc + 1 = pc') (hk : fp_lay k = (1, len)) (hn : k < n) (h0 : 0 ≤ z) (h1 : z < len) (kk : fp_SP l G d n cs ss mc ms nf Y pc' LL (iV (M k z.toNat) :: st) M Q) : fp_SP l G d n cs ss mc ms nf Y pc LL (iV z :: rV G k :: st) M Q := by
  subst hp
  intro p e s m args below meth c0 H locs ls C hR hL hl
  have hle : len ≤ 729 := by have := fp_lay_le k; rw [hk] at this; exact this
  have hA := (fp_arr C.2.2.2.2.2.2.2.1 C.2.2.2.2.2.2.2.2 (t := 1) (ty := .int) rfl).1
  have hc : H[fp_b G + k]? = some (arrV (G.2.2.2.2.1 1) len (fun j => .int (Int32.ofInt (M k j)))) := fp_arrAt hR hn hk (by decide)
  have hcl := fp_clamp h0 (by omega)
  refine W.iald (v := iV (M k z.toNat)) C.1 C.2.1 hc (hA _ _) (fun q => by cases q) (by rw [arrV_size]; exact fp_in h0 h1 (by omega)) ?_ rfl rfl hd (kk p e s m args below meth c0 H locs ls C hR hL hl)
  rw [hcl, arrV_read _ _ (by omega)]
theorem SP.bald {k len : Nat} {z : Int} (hd : decode Y.2.1 pc = .ok (.baload, 1)) (hp : pc + 1 = pc') (hk : fp_lay k = (2, len)) (hn : k < n) (h0 : 0 ≤ z) (h1 : z < len) (kk : fp_SP l G d n cs ss mc ms nf Y pc' LL (iV (M k z.toNat) :: st) M Q) : fp_SP l G d n cs ss mc ms nf Y pc LL (iV z :: rV G k :: st) M Q := by
  subst hp
  intro p e s m args below meth c0 H locs ls C hR hL hl
  have hle : len ≤ 729 := by have := fp_lay_le k; rw [hk] at this; exact this
  have hA := (fp_arr C.2.2.2.2.2.2.2.1 C.2.2.2.2.2.2.2.2 (t := 2) (ty := .byte) rfl).1
  have hc : H[fp_b G + k]? = some (arrV (G.2.2.2.2.1 2) len (fun j => .int (Int32.ofInt (M k j)))) := fp_arrAt hR hn hk (by decide)
  have hcl := fp_clamp h0 (by omega)
  refine W.bald (v := iV (M k z.toNat)) C.1 C.2.1 hc (hA _ _) (fun q => by cases q) (by rw [arrV_size]; exact fp_in h0 h1 (by omega)) ?_ rfl rfl hd (kk p e s m args below meth c0 H locs ls C hR hL hl)
  rw [hcl, arrV_read _ _ (by omega)]
theorem SP.zald {k len : Nat} {z : Int} (hd : decode Y.2.1 pc = .ok (.baload, 1)) (hp : pc + 1 = pc') (hk : fp_lay k = (3, len)) (hn : k < n) (h0 : 0 ≤ z) (h1 : z < len) (kk : fp_SP l G d n cs ss mc ms nf Y pc' LL (iV (M k z.toNat) :: st) M Q) : fp_SP l G d n cs ss mc ms nf Y pc LL (iV z :: rV G k :: st) M Q := by
  subst hp
  intro p e s m args below meth c0 H locs ls C hR hL hl
  have hle : len ≤ 729 := by have := fp_lay_le k; rw [hk] at this; exact this
  have hA := (fp_arr C.2.2.2.2.2.2.2.1 C.2.2.2.2.2.2.2.2 (t := 3) (ty := .boolean) rfl).1
  have hc : H[fp_b G + k]? = some (arrV (G.2.2.2.2.1 3) len (fun j => .int (Int32.ofInt (M k j)))) := fp_arrAt hR hn hk (by decide)
  have hcl := fp_clamp h0 (by omega)
  refine W.zald (v := iV (M k z.toNat)) C.1 C.2.1 hc (hA _ _) (fun q => by cases q) (by rw [arrV_size]; exact fp_in h0 h1 (by omega)) ?_ rfl rfl hd (kk p e s m args below meth c0 H locs ls C hR hL hl)
  rw [hcl, arrV_read _ _ (by omega)]
theorem SP.lald {k len : Nat} {z : Int} (hd : decode Y.2.1 pc = .ok (.laload, 1)) (hp : pc + 1 = pc') (hk : fp_lay k = (4, len)) (hn : k < n) (h0 : 0 ≤ z) (h1 : z < len) (kk : fp_SP l G d n cs ss mc ms nf Y pc' LL (jV (M k z.toNat) :: st) M Q) : fp_SP l G d n cs ss mc ms nf Y pc LL (iV z :: rV G k :: st) M Q := by
  subst hp
  intro p e s m args below meth c0 H locs ls C hR hL hl
  have hle : len ≤ 729 := by have := fp_lay_le k; rw [hk] at this; exact this
  have hA := (fp_arr C.2.2.2.2.2.2.2.1 C.2.2.2.2.2.2.2.2 (t := 4) (ty := .long) rfl).1
  have hc : H[fp_b G + k]? = some (arrV (G.2.2.2.2.1 4) len (fun j => .long (Int64.ofInt (M k j)))) := fp_arrAt hR hn hk (by decide)
  have hcl := fp_clamp h0 (by omega)
  refine W.lald (v := jV (M k z.toNat)) C.1 C.2.1 hc (hA _ _) (fun q => by cases q) (by rw [arrV_size]; exact fp_in h0 h1 (by omega)) ?_ rfl rfl hd (kk p e s m args below meth c0 H locs ls C hR hL hl)
  rw [hcl, arrV_read _ _ (by omega)]
theorem SP.aaldP {k len : Nat} {z : Int} (hd : decode Y.2.1 pc = .ok (.aaload, 1)) (hp : pc + 1 = pc') (hk : fp_lay k = (5, len)) (hn : k < n) (h0 : 0 ≤ z) (h1 : z < len) (kk : fp_SP l G d n cs ss mc ms nf Y pc' LL (va_rf (fp_ro (fp_b G) (M k z.toNat)) :: st) M Q) : fp_SP l G d n cs ss mc ms nf Y pc LL (iV z :: rV G k :: st) M Q := by
  subst hp
  intro p e s m args below meth c0 H locs ls C hR hL hl
  have hle : len ≤ 729 := by have := fp_lay_le k; rw [hk] at this; exact this
  have hA := (fp_arr C.2.2.2.2.2.2.2.1 C.2.2.2.2.2.2.2.2 (t := 5) (ty := .object RX5) rfl).1
  have hc : H[fp_b G + k]? = some (arrV (G.2.2.2.2.1 5) len (fun j => va_rf (fp_ro (fp_b G) (M k j)))) := fp_arrAt hR hn hk (by decide)
  have hcl := fp_clamp h0 (by omega)
  refine W.aald (v := va_rf (fp_ro (fp_b G) (M k z.toNat))) C.1 C.2.1 hc (hA _ _) rfl (fun q => by cases q) (by rw [arrV_size]; exact fp_in h0 h1 (by omega)) ?_ rfl rfl hd (kk p e s m args below meth c0 H locs ls C hR hL hl)
  rw [hcl, arrV_read _ _ (by omega)]
theorem SP.aaldI {k len : Nat} {z : Int} (hd : decode Y.2.1 pc = .ok (.aaload, 1)) (hp : pc + 1 = pc') (hk : fp_lay k = (6, len)) (hn : k < n) (h0 : 0 ≤ z) (h1 : z < len) (kk : fp_SP l G d n cs ss mc ms nf Y pc' LL (va_rf (fp_ro (fp_b G) (M k z.toNat)) :: st) M Q) : fp_SP l G d n cs ss mc ms nf Y pc LL (iV z :: rV G k :: st) M Q := by
  subst hp
  intro p e s m args below meth c0 H locs ls C hR hL hl
  have hle : len ≤ 729 := by have := fp_lay_le k; rw [hk] at this; exact this
  have hA := (fp_arr C.2.2.2.2.2.2.2.1 C.2.2.2.2.2.2.2.2 (t := 6) (ty := .object RX2) rfl).1
  have hc : H[fp_b G + k]? = some (arrV (G.2.2.2.2.1 6) len (fun j => va_rf (fp_ro (fp_b G) (M k j)))) := fp_arrAt hR hn hk (by decide)
  have hcl := fp_clamp h0 (by omega)
  refine W.aald (v := va_rf (fp_ro (fp_b G) (M k z.toNat))) C.1 C.2.1 hc (hA _ _) rfl (fun q => by cases q) (by rw [arrV_size]; exact fp_in h0 h1 (by omega)) ?_ rfl rfl hd (kk p e s m args below meth c0 H locs ls C hR hL hl)
  rw [hcl, arrV_read _ _ (by omega)]
theorem SP.aaldS {k len : Nat} {z : Int} (hd : decode Y.2.1 pc = .ok (.aaload, 1)) (hp : pc + 1 = pc') (hk : fp_lay k = (7, len)) (hn : k < n) (h0 : 0 ≤ z) (h1 : z < len) (kk : fp_SP l G d n cs ss mc ms nf Y pc' LL (va_rf (fp_ro (fp_b G) (M k z.toNat)) :: st) M Q) : fp_SP l G d n cs ss mc ms nf Y pc LL (iV z :: rV G k :: st) M Q := by
  subst hp
  intro p e s m args below meth c0 H locs ls C hR hL hl
  have hle : len ≤ 729 := by have := fp_lay_le k; rw [hk] at this; exact this
  have hA := (fp_arr C.2.2.2.2.2.2.2.1 C.2.2.2.2.2.2.2.2 (t := 7) (ty := .object RX9) rfl).1
  have hc : H[fp_b G + k]? = some (arrV (G.2.2.2.2.1 7) len (fun j => va_rf (fp_ro (fp_b G) (M k j)))) := fp_arrAt hR hn hk (by decide)
  have hcl := fp_clamp h0 (by omega)
  refine W.aald (v := va_rf (fp_ro (fp_b G) (M k z.toNat))) C.1 C.2.1 hc (hA _ _) rfl (fun q => by cases q) (by rw [arrV_size]; exact fp_in h0 h1 (by omega)) ?_ rfl rfl hd (kk p e s m args below meth c0 H locs ls C hR hL hl)
  rw [hcl, arrV_read _ _ (by omega)]
theorem SP.aaldR {k len : Nat} {z : Int} (hd : decode Y.2.1 pc = .ok (.aaload, 1)) (hp : pc + 1 = pc') (hk : fp_lay k = (8, len)) (hn : k < n) (h0 : 0 ≤ z) (h1 : z < len) (kk : fp_SP l G d n cs ss mc ms nf Y pc' LL (va_rf (fp_ro (fp_b G) (M k z.toNat)) :: st) M Q) : fp_SP l G d n cs ss mc ms nf Y pc LL (iV z :: rV G k :: st) M Q := by
  subst hp
  intro p e s m args below meth c0 H locs ls C hR hL hl
  have hle : len ≤ 729 := by have := fp_lay_le k; rw [hk] at this; exact this
  have hA := (fp_arr C.2.2.2.2.2.2.2.1 C.2.2.2.2.2.2.2.2 (t := 8) (ty := .array .int) rfl).1
  have hc : H[fp_b G + k]? = some (arrV (G.2.2.2.2.1 8) len (fun j => va_rf (fp_ro (fp_b G) (M k j)))) := fp_arrAt hR hn hk (by decide)
  have hcl := fp_clamp h0 (by omega)
  refine W.aald (v := va_rf (fp_ro (fp_b G) (M k z.toNat))) C.1 C.2.1 hc (hA _ _) rfl (fun q => by cases q) (by rw [arrV_size]; exact fp_in h0 h1 (by omega)) ?_ rfl rfl hd (kk p e s m args below meth c0 H locs ls C hR hL hl)
  rw [hcl, arrV_read _ _ (by omega)]
theorem SP.iast {k len : Nat} {z x : Int} (hd : decode Y.2.1 pc = .ok (.iastore, 1)) (hp : pc + 1 = pc') (hk : fp_lay k = (1, len)) (hn : k < n) (h0 : 0 ≤ z) (h1 : z < len) (kk : fp_SP l G d n cs ss mc ms nf Y pc' LL st (fp_up M k z.toNat x) Q) : fp_SP l G d n cs ss mc ms nf Y pc LL (iV x :: iV z :: rV G k :: st) M Q := by
  subst hp
  intro p e s m args below meth c0 H locs ls C hR hL hl
  have hle : len ≤ 729 := by have := fp_lay_le k; rw [hk] at this; exact this
  have hA := (fp_arr C.2.2.2.2.2.2.2.1 C.2.2.2.2.2.2.2.2 (t := 1) (ty := .int) rfl).1
  have hc : H[fp_b G + k]? = some (arrV (G.2.2.2.2.1 1) len (fun j => .int (Int32.ofInt (M k j)))) := fp_arrAt hR hn hk (by decide)
  have hcl := fp_clamp h0 (by omega)
  refine W.iast C.1 C.2.1 hc (hA _ _) (fun q => by cases q) (by rw [arrV_size]; exact fp_in h0 h1 (by omega)) rfl rfl hd fun H1 e1 z1 oq => ?_
  refine kk p e s m args below meth c0 H1 _ ls C (hR.set hn z1 oq (fp_arrSet hk (by decide) ?_)) ?_ hl
  · rw [e1, hcl, arrV_store]
    show _ = some (arrV (G.2.2.2.2.1 1) len (fun j => .int (Int32.ofInt (fp_upf (M k) z.toNat x j))))
    congr 2
    funext j
    unfold updV fp_upf
    by_cases e : j = z.toNat <;> simp [e]
  · intro y hy
    rcases List.mem_append.mp hy with h | h
    · exact hL y h
    · simp only [List.mem_singleton] at h
      rw [h]; exact Nat.le_add_right _ _
theorem SP.bast {k len : Nat} {z x : Int} (hd : decode Y.2.1 pc = .ok (.bastore, 1)) (hp : pc + 1 = pc') (hk : fp_lay k = (2, len)) (hn : k < n) (h0 : 0 ≤ z) (h1 : z < len) (hx : narrow .byte (iV x) = iV x) (kk : fp_SP l G d n cs ss mc ms nf Y pc' LL st (fp_up M k z.toNat x) Q) : fp_SP l G d n cs ss mc ms nf Y pc LL (iV x :: iV z :: rV G k :: st) M Q := by
  subst hp
  intro p e s m args below meth c0 H locs ls C hR hL hl
  have hle : len ≤ 729 := by have := fp_lay_le k; rw [hk] at this; exact this
  have hA := (fp_arr C.2.2.2.2.2.2.2.1 C.2.2.2.2.2.2.2.2 (t := 2) (ty := .byte) rfl).1
  have hc : H[fp_b G + k]? = some (arrV (G.2.2.2.2.1 2) len (fun j => .int (Int32.ofInt (M k j)))) := fp_arrAt hR hn hk (by decide)
  have hcl := fp_clamp h0 (by omega)
  refine W.bast C.1 C.2.1 hc (hA _ _) (fun q => by cases q) (by rw [arrV_size]; exact fp_in h0 h1 (by omega)) rfl rfl hd fun H1 e1 z1 oq => ?_
  refine kk p e s m args below meth c0 H1 _ ls C (hR.set hn z1 oq (fp_arrSet hk (by decide) ?_)) ?_ hl
  · rw [e1, hcl, arrV_store, hx]
    show _ = some (arrV (G.2.2.2.2.1 2) len (fun j => .int (Int32.ofInt (fp_upf (M k) z.toNat x j))))
    congr 2
    funext j
    unfold updV fp_upf
    by_cases e : j = z.toNat <;> simp [e]
  · intro y hy
    rcases List.mem_append.mp hy with h | h
    · exact hL y h
    · simp only [List.mem_singleton] at h
      rw [h]; exact Nat.le_add_right _ _
theorem SP.zast {k len : Nat} {z x : Int} (hd : decode Y.2.1 pc = .ok (.bastore, 1)) (hp : pc + 1 = pc') (hk : fp_lay k = (3, len)) (hn : k < n) (h0 : 0 ≤ z) (h1 : z < len) (hx : narrow .boolean (iV x) = iV x) (kk : fp_SP l G d n cs ss mc ms nf Y pc' LL st (fp_up M k z.toNat x) Q) : fp_SP l G d n cs ss mc ms nf Y pc LL (iV x :: iV z :: rV G k :: st) M Q := by
  subst hp
  intro p e s m args below meth c0 H locs ls C hR hL hl
  have hle : len ≤ 729 := by have := fp_lay_le k; rw [hk] at this; exact this
  have hA := (fp_arr C.2.2.2.2.2.2.2.1 C.2.2.2.2.2.2.2.2 (t := 3) (ty := .boolean) rfl).1
  have hc : H[fp_b G + k]? = some (arrV (G.2.2.2.2.1 3) len (fun j => .int (Int32.ofInt (M k j)))) := fp_arrAt hR hn hk (by decide)
  have hcl := fp_clamp h0 (by omega)
  refine W.zast C.1 C.2.1 hc (hA _ _) (fun q => by cases q) (by rw [arrV_size]; exact fp_in h0 h1 (by omega)) rfl rfl hd fun H1 e1 z1 oq => ?_
  refine kk p e s m args below meth c0 H1 _ ls C (hR.set hn z1 oq (fp_arrSet hk (by decide) ?_)) ?_ hl
  · rw [e1, hcl, arrV_store, hx]
    show _ = some (arrV (G.2.2.2.2.1 3) len (fun j => .int (Int32.ofInt (fp_upf (M k) z.toNat x j))))
    congr 2
    funext j
    unfold updV fp_upf
    by_cases e : j = z.toNat <;> simp [e]
  · intro y hy
    rcases List.mem_append.mp hy with h | h
    · exact hL y h
    · simp only [List.mem_singleton] at h
      rw [h]; exact Nat.le_add_right _ _
theorem SP.last {k len : Nat} {z x : Int} (hd : decode Y.2.1 pc = .ok (.lastore, 1)) (hp : pc + 1 = pc') (hk : fp_lay k = (4, len)) (hn : k < n) (h0 : 0 ≤ z) (h1 : z < len) (kk : fp_SP l G d n cs ss mc ms nf Y pc' LL st (fp_up M k z.toNat x) Q) : fp_SP l G d n cs ss mc ms nf Y pc LL (jV x :: iV z :: rV G k :: st) M Q := by
  subst hp
  intro p e s m args below meth c0 H locs ls C hR hL hl
  have hle : len ≤ 729 := by have := fp_lay_le k; rw [hk] at this; exact this
  have hA := (fp_arr C.2.2.2.2.2.2.2.1 C.2.2.2.2.2.2.2.2 (t := 4) (ty := .long) rfl).1
  have hc : H[fp_b G + k]? = some (arrV (G.2.2.2.2.1 4) len (fun j => .long (Int64.ofInt (M k j)))) := fp_arrAt hR hn hk (by decide)
  have hcl := fp_clamp h0 (by omega)
  refine W.last C.1 C.2.1 hc (hA _ _) (fun q => by cases q) (by rw [arrV_size]; exact fp_in h0 h1 (by omega)) rfl rfl hd fun H1 e1 z1 oq => ?_
  refine kk p e s m args below meth c0 H1 _ ls C (hR.set hn z1 oq (fp_arrSet hk (by decide) ?_)) ?_ hl
  · rw [e1, hcl, arrV_store]
    show _ = some (arrV (G.2.2.2.2.1 4) len (fun j => .long (Int64.ofInt (fp_upf (M k) z.toNat x j))))
    congr 2
    funext j
    unfold updV fp_upf
    by_cases e : j = z.toNat <;> simp [e]
  · intro y hy
    rcases List.mem_append.mp hy with h | h
    · exact hL y h
    · simp only [List.mem_singleton] at h
      rw [h]; exact Nat.le_add_right _ _
theorem SP.alen {k t len : Nat} {ty : FieldType} (hd : decode Y.2.1 pc = .ok (.arraylength, 1)) (hp : pc + 1 = pc') (hk : fp_lay k = (t, len)) (ht : t ≠ 0) (hty : fp_tys[t]? = some ty) (hn : k < n) (kk : fp_SP l G d n cs ss mc ms nf Y pc' LL (iV (len : Int) :: st) M Q) : fp_SP l G d n cs ss mc ms nf Y pc LL (rV G k :: st) M Q := by
  subst hp
  intro p e s m args below meth c0 H locs ls C hR hL hl
  have hA := (fp_arr C.2.2.2.2.2.2.2.1 C.2.2.2.2.2.2.2.2 (t := t) (ty := ty) hty).1
  have hc := fp_arrAt hR hn hk ht
  have hK := kk p e s m args below meth c0 H locs ls C hR hL hl
  have hsz : ∃ z, vp_cell (G.2.2.2.2.1 t) (fp_arrc (fp_b G) t len (M k)) = arrV (G.2.2.2.2.1 t) len z := by
    unfold fp_arrc
    split
    · exact ⟨_, vp_cell_i _ _ _⟩
    · split
      · exact ⟨_, vp_cell_l _ _ _⟩
      · exact ⟨_, vp_cell_q _ _ _⟩
  obtain ⟨z, hz⟩ := hsz
  rw [hz] at hc
  exact W.alen (n := Int32.ofInt (len : Int)) C.1 C.2.1 hc (hA _ _) (by rw [arrV_size]; rfl) rfl rfl hd hK
theorem SP.copyi {k0 k1 n0 n1 idx : Nat} {sp dp m9 : Int} (hd : decode Y.2.1 pc = .ok (.invokestatic idx, 3)) (hp : pc + 3 = pc') (hlk : Cond.methodLink Y.1.cls idx arraycopyName ∈ lw_tbl) (hk0 : fp_lay k0 = (1, n0)) (hk1 : fp_lay k1 = (1, n1)) (hn0 : k0 < n) (hn1 : k1 < n) (h1 : 0 ≤ sp) (h2 : 0 ≤ dp) (h3 : 0 ≤ m9) (h4 : sp + m9 ≤ n0) (h5 : dp + m9 ≤ n1) (hd1 : 1 ≤ d) (hst : (st.map fun v => v.category).sum ≤ 4)
    (kk : fp_SP l G d n cs ss mc ms nf Y pc' LL st (fp_upM M k1 (va_cpy (M k0) (M k1) sp.toNat dp.toNat m9.toNat)) Q) : fp_SP l G d n cs ss mc ms nf Y pc LL (iV m9 :: iV dp :: rV G k1 :: iV sp :: rV G k0 :: st) M Q := by
  subst hp
  intro p e s m args below meth c0 H locs ls C hR hL hl
  have hls : ls.size = Y.2.2.1 := by obtain ⟨lv, h, -⟩ := hl; exact h.1
  have K0 := C.2.2.2.2.2.2.2.1
  have hW := C.2.2.2.2.2.2.2.2
  have hle0 : n0 ≤ 729 := by have := fp_lay_le k0; rw [hk0] at this; exact this
  have hle1 : n1 ≤ 729 := by have := fp_lay_le k1; rw [hk1] at this; exact this
  have hA := (fp_arr K0 hW (t := 1) (ty := .int) rfl).1
  have hc0 : H[fp_b G + k0]? = some (vp_cell (G.2.2.2.2.1 1) (n0, .inl (fun j => Int32.ofInt (M k0 j)))) := fp_arrAt hR hn0 hk0 (by decide)
  have hc1 : H[fp_b G + k1]? = some (vp_cell (G.2.2.2.2.1 1) (n1, .inl (fun j => Int32.ofInt (M k1 j)))) := fp_arrAt hR hn1 hk1 (by decide)
  have rsp : fp_rng sp := ⟨by omega, by omega⟩
  have rdp : fp_rng dp := ⟨by omega, by omega⟩
  have rm9 : fp_rng m9 := ⟨by omega, by omega⟩
  have c1 := fp_clamp h1 (by omega)
  have c2 := fp_clamp h2 (by omega)
  have c3 := fp_clamp h3 (by omega)
  have g1 : ¬ Int32.ofInt sp < 0 := by rw [fp_zero, fp_lt rsp fp_rng0]; omega
  have g2 : ¬ Int32.ofInt dp < 0 := by rw [fp_zero, fp_lt rdp fp_rng0]; omega
  have g3 : ¬ Int32.ofInt m9 < 0 := by rw [fp_zero, fp_lt rm9 fp_rng0]; omega
  have hnw : nativeFrameWords "java/lang/System" "arraycopy" 5 + 11 ≤ 36 := by decide +kernel
  intro T hT X
  obtain ⟨-, q0, hq0, cm0, hkk0⟩ := hA n0 (fun j => Value.int (Int32.ofInt (M k0 j)))
  obtain ⟨-, q1, hq1, cm1, hkk1⟩ := hA n1 (fun j => Value.int (Int32.ofInt (M k1 j)))
  obtain ⟨vm', X', step⟩ := X.arraycopy C.1 C.2.2.2.1 (fp_word K0 hW hlk rfl) (fp_word K0 hW (List.mem_of_getElem? (i := 659) (by decide +kernel)) rfl) (fp_word K0 hW (List.mem_of_getElem? (i := 658) (by decide +kernel)) rfl) (fp_word K0 hW (List.mem_of_getElem? (i := 97) (by decide +kernel)) rfl) (src := fp_b G + k0) (dst := fp_b G + k1) (cs := vp_cell (G.2.2.2.2.1 1) (n0, .inl (fun j => Int32.ofInt (M k0 j)))) (cd := vp_cell (G.2.2.2.2.1 1) (n1, .inl (fun j => Int32.ofInt (M k1 j)))) (srcPos := Int32.ofInt sp) (destPos := Int32.ofInt dp) (n := Int32.ofInt m9) (by rw [hT]; exact hc0) (by rw [hT]; exact hc1)
    (fun _ h => by cases h) (fun _ h => by cases h) (fun h => by cases h) (fun h => by cases h) hq0 hq1 hkk0 hkk1 (by simp [refKind]) g1 g2 g3
    (by rw [fp_toInt rsp, fp_toInt rm9]; show ¬ _ > ((arrV _ n0 _).slots.size : Int); rw [arrV_size]; omega)
    (by rw [fp_toInt rdp, fp_toInt rm9]; show ¬ _ > ((arrV _ n1 _).slots.size : Int); rw [arrV_size]; omega)
    (fun vm₁ _ i hi => by
      rw [c3] at hi
      have e : (vp_cell (G.2.2.2.2.1 1) (n0, .inl (fun j => Int32.ofInt (M k0 j)))).slots.getD ((Int32.ofInt sp).toNatClampNeg + i) .null = Value.int (Int32.ofInt (M k0 ((Int32.ofInt sp).toNatClampNeg + i))) := by
        show (arrV (G.2.2.2.2.1 1) n0 (fun j => Value.int (Int32.ofInt (M k0 j)))).slots.getD _ _ = _
        rw [Array.getD_eq_getD_getElem?, arrV_read _ _ (by rw [c1]; omega)]
        rfl
      refine ⟨?_, ?_⟩
      · rw [e]; rfl
      · rw [e]; exact trivial)
    (g := F0 m pc ls (iV m9 :: iV dp :: rV G k1 :: iV sp :: rV G k0 :: st)) rfl (hls.trans C.2.2.1.symm) (rest := st) rfl (by rw [C.2.1]; exact hd) hd1 (by show 2 * 0 + _ + _ ≤ 40 * d; omega)
  have e1 : copied (vp_cell (G.2.2.2.2.1 1) (n0, .inl (fun j => Int32.ofInt (M k0 j)))) (vp_cell (G.2.2.2.2.1 1) (n1, .inl (fun j => Int32.ofInt (M k1 j)))) (Int32.ofInt sp) (Int32.ofInt dp) (Int32.ofInt m9) = vp_cell (G.2.2.2.2.1 1) (n1, .inl (fun j => Int32.ofInt (va_cpy (M k0) (M k1) sp.toNat dp.toNat m9.toNat j))) := by
    have h9 := va_copied (n1 := n1) (dp := (Int32.ofInt dp).toNatClampNeg) (fun z => Value.int z) (G.2.2.2.2.1 1) (G.2.2.2.2.1 1) (fun j => Int32.ofInt (M k0 j)) (fun j => Int32.ofInt (M k1 j)) (sp := (Int32.ofInt sp).toNatClampNeg) (n := (Int32.ofInt m9).toNatClampNeg) (n0 := n0) (by rw [c1, c3]; omega)
    refine Eq.trans h9 ?_
    rw [vp_cell_i]
    congr 1
    funext j
    rw [c1, c2, c3]
    unfold va_cpy
    by_cases q : dp.toNat ≤ j ∧ j < dp.toNat + m9.toNat
    · simp only [if_pos q]
    · simp only [if_neg q]
  rw [e1] at X' step
  have hl1 : fp_b G + k1 < H.size := (Array.getElem?_eq_some_iff.mp hc1).1
  have hheap : ((T.setVm vm').setCell (fp_b G + k1) (vp_cell (G.2.2.2.2.1 1) (n1, .inl (fun j => Int32.ofInt (va_cpy (M k0) (M k1) sp.toNat dp.toNat m9.toNat j))))).heap = H.setIfInBounds (fp_b G + k1) (vp_cell (G.2.2.2.2.1 1) (n1, .inl (fun j => Int32.ofInt (va_cpy (M k0) (M k1) sp.toNat dp.toNat m9.toNat j)))) := by rw [← hT]; rfl
  obtain ⟨t, a1, b1⟩ := kk p e s m args below meth c0 _ _ ls C (hR.set (f := va_cpy (M k0) (M k1) sp.toNat dp.toNat m9.toNat) (H1 := H.setIfInBounds (fp_b G + k1) (vp_cell (G.2.2.2.2.1 1) (n1, .inl (fun j => Int32.ofInt (va_cpy (M k0) (M k1) sp.toNat dp.toNat m9.toNat j))))) hn1 (by simp) (fun q hq => by simp [Array.getElem?_setIfInBounds, Ne.symm hq]) (fp_arrSet hk1 (by decide) (show (H.setIfInBounds (fp_b G + k1) _)[fp_b G + k1]? = some _ by simp [Array.getElem?_setIfInBounds, hl1]; rfl))) (fun q hq => by
      rcases List.mem_append.mp hq with h | h
      · exact hL q h
      · obtain ⟨z, -, hz⟩ := List.mem_map.mp h
        rw [← hz]
        exact Nat.le_add_right _ _) hl _ hheap X'
  exact ⟨t, step t a1, b1⟩
end HPR
