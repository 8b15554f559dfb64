/-! ROWS FOR THE CONSTRUCTORS: new cells, references stored -/
theorem fp_Rep.grow {G : fp_WG} {n : Nat} {M : fp_Mem} {H H1 : Heap} (h : fp_Rep G n M H) (hz : H1.size = fp_b G + n + 1) (ho : ∀ q, q < fp_b G + n → H1[q]? = H[q]?) (hc : fp_cell G n (M n) H1) : fp_Rep G (n + 1) M H1 := by
  have := fp_Rep.push h hz ho hc
  have e : fp_upM M n (M n) = M := by
    funext a
    unfold fp_upM
    split
    · rename_i h; rw [h]
    · rfl
  rwa [e] at this
def fp_dv (t : Nat) : Value := if t = 0 then .int 0 else if t = 1 then .long 0 else .null
theorem fp_dv_fv (b t : Nat) : fp_fv b t 0 = fp_dv t := by
  unfold fp_fv fp_dv
  by_cases h0 : t = 0
  · rw [if_pos h0, if_pos h0]; rfl
  · rw [if_neg h0, if_neg h0]
    by_cases h1 : t = 1
    · rw [if_pos h1, if_pos h1]; rfl
    · rw [if_neg h1, if_neg h1]; rfl
theorem fp_dft : ∀ (c : Nat) (q : vw_C), vwCl[c]? = some q → ∃ ty0 : Nat → FieldType, (∀ k, k < q.2.2 → parseFieldDescriptor (q.2.1 k).2.2.1 = some (ty0 k)) ∧ ∀ k, k < q.2.2 → defaultValue (ty0 k) = fp_dv (fp_fty c k) := by
  intro c q h
  have hc : c < 13 := (List.getElem?_eq_some_iff.mp h).1
  rcases (show c = 0 ∨ c = 1 ∨ c = 2 ∨ c = 3 ∨ c = 4 ∨ c = 5 ∨ c = 6 ∨ c = 7 ∨ c = 8 ∨ c = 9 ∨ c = 10 ∨ c = 11 ∨ c = 12 by omega) with rfl | rfl | rfl | rfl | rfl | rfl | rfl | rfl | rfl | rfl | rfl | rfl | rfl <;> cases h
  · exact ⟨tyX0, tyX0_ok, by decide +kernel⟩
  · exact ⟨tyX1, tyX1_ok, by decide +kernel⟩
  · exact ⟨tyX2, tyX2_ok, by decide +kernel⟩
  · exact ⟨tyX3, tyX3_ok, by decide +kernel⟩
  · exact ⟨tyX4, tyX4_ok, by decide +kernel⟩
  · exact ⟨tyX5, tyX5_ok, by decide +kernel⟩
  · exact ⟨tyX6, tyX6_ok, by decide +kernel⟩
  · exact ⟨tyX7, tyX7_ok, by decide +kernel⟩
  · exact ⟨tyX8, tyX8_ok, by decide +kernel⟩
  · exact ⟨tyX9, tyX9_ok, by decide +kernel⟩
  · exact ⟨tyX10, tyX10_ok, by decide +kernel⟩
  · exact ⟨tyX11, tyX11_ok, by decide +kernel⟩
  · exact ⟨tyX12, tyX12_ok, by decide +kernel⟩
/-- what the tables say of a class that is made: the pool's entry, its size, that it is ready -/
def fp_New (own : String) (idx c N : Nat) : Prop := ∃ q : vw_C, vwCl[c]? = some q ∧ q.2.2 = N ∧ Cond.classLink own idx q.1 ∈ lw_tbl ∧ Cond.instantiable q.1 N ∈ lw_tbl ∧ Cond.initialized q.1 ∈ lw_tbl
section NWR
variable {l : Launch} {G : fp_WG} {d n cs ss mc ms nf : Nat} {Y : fp_MR} {pc pc' : Nat} {LL LL' : List (Option Value)} {st : List Value} {M : fp_Mem} {Q : fp_Q}
theorem SP.newO {idx c N : Nat} (hd : decode Y.2.1 pc = .ok (.new idx, 3)) (hp : pc + 3 = pc') (hN : fp_New Y.1.cls idx c N) (hk : fp_lay n = (0, c)) (hz : M n = fun _ => 0) (hcr : cs + 1 ≤ mc) (hsr : ss + N ≤ ms)
    (kk : fp_SP l G d (n + 1) (cs + 1) (ss + N) mc ms nf Y pc' LL (rV G n :: st) M Q) : fp_SP l G d n cs ss mc ms nf Y pc LL st M Q := by
  subst hp
  intro p e s m args below meth c0 H locs ls C hR hL hl
  have K0 := C.2.2.2.2.2.2.2.1
  have hW := C.2.2.2.2.2.2.2.2
  obtain ⟨q, hq, rfl, hcl, hins, hini⟩ := hN
  have hKn := fp_kn K0 hW hq
  obtain ⟨ty0, hty, hdv⟩ := fp_dft c q hq
  refine W.newcK C.1 C.2.1 C.2.2.2.1 (fp_word K0 hW hcl rfl) (fp_word K0 hW hins rfl) (fp_word K0 hW hini rfl) rfl hd hcr hsr hKn.2.1 hR.1 fun H1 kC hkC e1 z1 o1 => ?_
  have hc : fp_cell G n (M n) H1 := by
    unfold fp_cell
    rw [hk, if_pos rfl, hz]
    refine ⟨q, hq, t_OB.to (u_born ty0 (fp_cw (args := args) K0 hW hq) (fun _ h => h) hKn hkC e1 hty) (fun j hj => ?_)⟩
    show defaultValue (ty0 j) = fp_fv (fp_b G) (fp_fty c j) 0
    rw [fp_dv_fv, hdv j hj]
  exact kk p e s m args below meth c0 H1 locs ls C (hR.grow z1 o1 hc) hL hl
theorem SP.objInit {idx a : Nat} (hd : decode Y.2.1 pc = .ok (.invokespecial idx, 3)) (hp : pc + 3 = pc') (hlk : Cond.methodLink Y.1.cls idx Lib.objectInit ∈ lw_tbl) (hd1 : 1 ≤ d) (hst : (st.map fun v => v.category).sum ≤ 8)
    (kk : fp_SP l G d n cs ss mc ms nf Y pc' LL st M Q) : fp_SP l G d n cs ss mc ms nf Y pc LL (.ref a :: st) M Q := by
  subst hp
  intro p e s m args below meth c0 H locs ls C hR hL hl
  have K0 := C.2.2.2.2.2.2.2.1
  have hW := C.2.2.2.2.2.2.2.2
  have hls : ls.size = Y.2.2.1 := by obtain ⟨lv, h, -⟩ := hl; exact h.1
  refine W.objInit C.1 C.2.1 C.2.2.2.1 (fp_word K0 hW hlk rfl) (fp_word K0 hW (w := .instanceMethod Lib.objectInit) (List.mem_of_getElem? (i := 104) (by decide +kernel)) rfl) (fp_word K0 hW (w := .code Lib.objectInit ⟨#[0xb1]⟩ 1 none) (List.mem_of_getElem? (i := 105) (by decide +kernel)) rfl) rfl (by rw [C.2.2.1]; exact hls) rfl hd hd1 ?_ (kk p e s m args below meth c0 H locs ls C hR hL hl)
  show 2 * 0 + (st.map fun v => v.category).sum + 12 ≤ 40 * d
  omega
theorem SP.newI {z : Int} {N : Nat} (hd : decode Y.2.1 pc = .ok (.newarray .int, 2)) (hp : pc + 2 = pc') (hk : fp_lay n = (1, N)) (hz : M n = fun _ => 0) (hzN : z = N) (hcr : cs + 1 ≤ mc) (hsr : ss + N ≤ ms)
    (kk : fp_SP l G d (n + 1) (cs + 1) (ss + N) mc ms nf Y pc' LL (rV G n :: st) M Q) : fp_SP l G d n cs ss mc ms nf Y pc LL (iV z :: st) M Q := by
  subst hp
  subst hzN
  intro p e s m args below meth c0 H locs ls C hR hL hl
  have K0 := C.2.2.2.2.2.2.2.1
  have hW := C.2.2.2.2.2.2.2.2
  have hle : N ≤ 729 := by have := fp_lay_le n; rw [hk] at this; exact this
  have hA := (fp_arr K0 hW (t := 1) (ty := .int) rfl).2
  refine va_newaK (atype := .int) C.1 C.2.1 (fp_word K0 hW (w := .arrayClass .int) (List.mem_of_getElem? (i := 155) (by decide +kernel)) rfl) rfl hd rfl (n := Int32.ofInt (N : Int)) (N := N) ?_ ?_ ?_ hcr hsr hR.1 fun H1 cA e1 z1 o1 hAr hNm => ?_
  · intro h
    have : Int32.ofInt (N : Int) < Int32.ofInt 0 := h
    rw [fp_lt ⟨by omega, by omega⟩ fp_rng0] at this
    omega
  · rw [fp_clamp (by omega) (by omega)]; rfl
  · show N * 4 ≤ 536870912
    omega
  have hcA : cA = G.2.2.2.2.1 1 := by
    have h2 : s.vm.findClass ("[" ++ (FieldType.int).toString) = some (G.2.2.2.2.1 1) := hA
    exact Option.some.inj (hNm.symm.trans h2)
  subst hcA
  have hc : fp_cell G n (M n) H1 := by
    refine fp_arrSet hk (by decide) ?_
    rw [hz]
    exact e1
  exact kk p e s m args below meth c0 H1 locs ls C (hR.grow z1 o1 hc) hL hl
theorem SP.newB {z : Int} {N : Nat} (hd : decode Y.2.1 pc = .ok (.newarray .byte, 2)) (hp : pc + 2 = pc') (hk : fp_lay n = (2, N)) (hz : M n = fun _ => 0) (hzN : z = N) (hcr : cs + 1 ≤ mc) (hsr : ss + N ≤ ms)
    (kk : fp_SP l G d (n + 1) (cs + 1) (ss + N) mc ms nf Y pc' LL (rV G n :: st) M Q) : fp_SP l G d n cs ss mc ms nf Y pc LL (iV z :: st) M Q := by
  subst hp
  subst hzN
  intro p e s m args below meth c0 H locs ls C hR hL hl
  have K0 := C.2.2.2.2.2.2.2.1
  have hW := C.2.2.2.2.2.2.2.2
  have hle : N ≤ 729 := by have := fp_lay_le n; rw [hk] at this; exact this
  have hA := (fp_arr K0 hW (t := 2) (ty := .byte) rfl).2
  refine va_newaK (atype := .byte) C.1 C.2.1 (fp_word K0 hW (w := .arrayClass .byte) (List.mem_of_getElem? (i := 154) (by decide +kernel)) rfl) rfl hd rfl (n := Int32.ofInt (N : Int)) (N := N) ?_ ?_ ?_ hcr hsr hR.1 fun H1 cA e1 z1 o1 hAr hNm => ?_
  · intro h
    have : Int32.ofInt (N : Int) < Int32.ofInt 0 := h
    rw [fp_lt ⟨by omega, by omega⟩ fp_rng0] at this
    omega
  · rw [fp_clamp (by omega) (by omega)]; rfl
  · show N * 1 ≤ 536870912
    omega
  have hcA : cA = G.2.2.2.2.1 2 := by
    have h2 : s.vm.findClass ("[" ++ (FieldType.byte).toString) = some (G.2.2.2.2.1 2) := hA
    exact Option.some.inj (hNm.symm.trans h2)
  subst hcA
  have hc : fp_cell G n (M n) H1 := by
    refine fp_arrSet hk (by decide) ?_
    rw [hz]
    exact e1
  exact kk p e s m args below meth c0 H1 locs ls C (hR.grow z1 o1 hc) hL hl
theorem SP.newZ {z : Int} {N : Nat} (hd : decode Y.2.1 pc = .ok (.newarray .boolean, 2)) (hp : pc + 2 = pc') (hk : fp_lay n = (3, N)) (hz : M n = fun _ => 0) (hzN : z = N) (hcr : cs + 1 ≤ mc) (hsr : ss + N ≤ ms)
    (kk : fp_SP l G d (n + 1) (cs + 1) (ss + N) mc ms nf Y pc' LL (rV G n :: st) M Q) : fp_SP l G d n cs ss mc ms nf Y pc LL (iV z :: st) M Q := by
  subst hp
  subst hzN
  intro p e s m args below meth c0 H locs ls C hR hL hl
  have K0 := C.2.2.2.2.2.2.2.1
  have hW := C.2.2.2.2.2.2.2.2
  have hle : N ≤ 729 := by have := fp_lay_le n; rw [hk] at this; exact this
  have hA := (fp_arr K0 hW (t := 3) (ty := .boolean) rfl).2
  refine va_newaK (atype := .boolean) C.1 C.2.1 (fp_word K0 hW (w := .arrayClass .boolean) (List.mem_of_getElem? (i := 323) (by decide +kernel)) rfl) rfl hd rfl (n := Int32.ofInt (N : Int)) (N := N) ?_ ?_ ?_ hcr hsr hR.1 fun H1 cA e1 z1 o1 hAr hNm => ?_
  · intro h
    have : Int32.ofInt (N : Int) < Int32.ofInt 0 := h
    rw [fp_lt ⟨by omega, by omega⟩ fp_rng0] at this
    omega
  · rw [fp_clamp (by omega) (by omega)]; rfl
  · show N * 1 ≤ 536870912
    omega
  have hcA : cA = G.2.2.2.2.1 3 := by
    have h2 : s.vm.findClass ("[" ++ (FieldType.boolean).toString) = some (G.2.2.2.2.1 3) := hA
    exact Option.some.inj (hNm.symm.trans h2)
  subst hcA
  have hc : fp_cell G n (M n) H1 := by
    refine fp_arrSet hk (by decide) ?_
    rw [hz]
    exact e1
  exact kk p e s m args below meth c0 H1 locs ls C (hR.grow z1 o1 hc) hL hl
theorem SP.newJ {z : Int} {N : Nat} (hd : decode Y.2.1 pc = .ok (.newarray .long, 2)) (hp : pc + 2 = pc') (hk : fp_lay n = (4, N)) (hz : M n = fun _ => 0) (hzN : z = N) (hcr : cs + 1 ≤ mc) (hsr : ss + N ≤ ms)
    (kk : fp_SP l G d (n + 1) (cs + 1) (ss + N) mc ms nf Y pc' LL (rV G n :: st) M Q) : fp_SP l G d n cs ss mc ms nf Y pc LL (iV z :: st) M Q := by
  subst hp
  subst hzN
  intro p e s m args below meth c0 H locs ls C hR hL hl
  have K0 := C.2.2.2.2.2.2.2.1
  have hW := C.2.2.2.2.2.2.2.2
  have hle : N ≤ 729 := by have := fp_lay_le n; rw [hk] at this; exact this
  have hA := (fp_arr K0 hW (t := 4) (ty := .long) rfl).2
  refine va_newaK (atype := .long) C.1 C.2.1 (fp_word K0 hW (w := .arrayClass .long) (List.mem_of_getElem? (i := 324) (by decide +kernel)) rfl) rfl hd rfl (n := Int32.ofInt (N : Int)) (N := N) ?_ ?_ ?_ hcr hsr hR.1 fun H1 cA e1 z1 o1 hAr hNm => ?_
  · intro h
    have : Int32.ofInt (N : Int) < Int32.ofInt 0 := h
    rw [fp_lt ⟨by omega, by omega⟩ fp_rng0] at this
    omega
  · rw [fp_clamp (by omega) (by omega)]; rfl
  · show N * 8 ≤ 536870912
    omega
  have hcA : cA = G.2.2.2.2.1 4 := by
    have h2 : s.vm.findClass ("[" ++ (FieldType.long).toString) = some (G.2.2.2.2.1 4) := hA
    exact Option.some.inj (hNm.symm.trans h2)
  subst hcA
  have hc : fp_cell G n (M n) H1 := by
    refine fp_arrSet hk (by decide) ?_
    rw [hz]
    exact e1
  exact kk p e s m args below meth c0 H1 locs ls C (hR.grow z1 o1 hc) hL hl
theorem SP.anewP {z : Int} {idx N : Nat} (hd : decode Y.2.1 pc = .ok (.anewarray idx, 3)) (hp : pc + 3 = pc') (hcl : Cond.classLink Y.1.cls idx RX5 ∈ lw_tbl) (hk : fp_lay n = (5, N)) (hz : M n = fun _ => 0) (hzN : z = N) (hcr : cs + 1 ≤ mc) (hsr : ss + N ≤ ms)
    (kk : fp_SP l G d (n + 1) (cs + 1) (ss + N) mc ms nf Y pc' LL (rV G n :: st) M Q) : fp_SP l G d n cs ss mc ms nf Y pc LL (iV z :: st) M Q := by
  subst hp
  subst hzN
  intro p e s m args below meth c0 H locs ls C hR hL hl
  have K0 := C.2.2.2.2.2.2.2.1
  have hW := C.2.2.2.2.2.2.2.2
  have hle : N ≤ 729 := by have := fp_lay_le n; rw [hk] at this; exact this
  have hA := (fp_arr K0 hW (t := 5) (ty := .object RX5) rfl).2
  obtain ⟨kB, compB, g1, g2, g3, g4⟩ := hA
  have hcl2 : (Int32.ofInt (N : Int)).toNatClampNeg = N := by rw [fp_clamp (by omega) (by omega)]; rfl
  refine W.anew C.1 C.2.1 C.2.2.2.1 (fp_word K0 hW hcl rfl) (va_AO.use ((va_AO.of (K0.1 (.arrayOver (.object RX5)) (List.mem_of_getElem? (i := 296) (by decide +kernel)))).moved hW.alike)) rfl hd rfl ?_ ?_ hcr ?_ fun cA kA comp f1 f2 f3 f4 => ?_
  · intro h
    have : Int32.ofInt (N : Int) < Int32.ofInt 0 := h
    rw [fp_lt ⟨by omega, by omega⟩ fp_rng0] at this
    omega
  · rw [hcl2]; omega
  · rw [hcl2]; exact hsr
  rw [hcl2]
  have hcA : cA = G.2.2.2.2.1 5 := Option.some.inj (f1.symm.trans g4)
  subst hcA
  generalize hH1 : H.push ({ cls := G.2.2.2.2.1 5, slots := Array.replicate N .null, vm := .none } : Cell) = H1
  have z1 : H1.size = fp_b G + n + 1 := by rw [← hH1, Array.size_push, hR.1]
  have e1 : H1[fp_b G + n]? = some (arrV (G.2.2.2.2.1 5) N (fun _ => .null)) := by rw [← hH1, ← hR.1, Array.getElem?_push_size, ← arrV_new]
  have o1 : ∀ q : Nat, q < fp_b G + n → H1[q]? = H[q]? := fun q hq => by rw [← hH1, Array.getElem?_push, if_neg (by rw [hR.1]; omega)]
  have hc : fp_cell G n (M n) H1 := by
    refine fp_arrSet hk (by decide) ?_
    rw [hz]
    exact e1
  rw [hR.1]
  exact kk p e s m args below meth c0 H1 locs ls C (hR.grow z1 o1 hc) hL hl
theorem SP.anewI {z : Int} {idx N : Nat} (hd : decode Y.2.1 pc = .ok (.anewarray idx, 3)) (hp : pc + 3 = pc') (hcl : Cond.classLink Y.1.cls idx RX2 ∈ lw_tbl) (hk : fp_lay n = (6, N)) (hz : M n = fun _ => 0) (hzN : z = N) (hcr : cs + 1 ≤ mc) (hsr : ss + N ≤ ms)
    (kk : fp_SP l G d (n + 1) (cs + 1) (ss + N) mc ms nf Y pc' LL (rV G n :: st) M Q) : fp_SP l G d n cs ss mc ms nf Y pc LL (iV z :: st) M Q := by
  subst hp
  subst hzN
  intro p e s m args below meth c0 H locs ls C hR hL hl
  have K0 := C.2.2.2.2.2.2.2.1
  have hW := C.2.2.2.2.2.2.2.2
  have hle : N ≤ 729 := by have := fp_lay_le n; rw [hk] at this; exact this
  have hA := (fp_arr K0 hW (t := 6) (ty := .object RX2) rfl).2
  obtain ⟨kB, compB, g1, g2, g3, g4⟩ := hA
  have hcl2 : (Int32.ofInt (N : Int)).toNatClampNeg = N := by rw [fp_clamp (by omega) (by omega)]; rfl
  refine W.anew C.1 C.2.1 C.2.2.2.1 (fp_word K0 hW hcl rfl) (va_AO.use ((va_AO.of (K0.1 (.arrayOver (.object RX2)) (List.mem_of_getElem? (i := 401) (by decide +kernel)))).moved hW.alike)) rfl hd rfl ?_ ?_ hcr ?_ fun cA kA comp f1 f2 f3 f4 => ?_
  · intro h
    have : Int32.ofInt (N : Int) < Int32.ofInt 0 := h
    rw [fp_lt ⟨by omega, by omega⟩ fp_rng0] at this
    omega
  · rw [hcl2]; omega
  · rw [hcl2]; exact hsr
  rw [hcl2]
  have hcA : cA = G.2.2.2.2.1 6 := Option.some.inj (f1.symm.trans g4)
  subst hcA
  generalize hH1 : H.push ({ cls := G.2.2.2.2.1 6, slots := Array.replicate N .null, vm := .none } : Cell) = H1
  have z1 : H1.size = fp_b G + n + 1 := by rw [← hH1, Array.size_push, hR.1]
  have e1 : H1[fp_b G + n]? = some (arrV (G.2.2.2.2.1 6) N (fun _ => .null)) := by rw [← hH1, ← hR.1, Array.getElem?_push_size, ← arrV_new]
  have o1 : ∀ q : Nat, q < fp_b G + n → H1[q]? = H[q]? := fun q hq => by rw [← hH1, Array.getElem?_push, if_neg (by rw [hR.1]; omega)]
  have hc : fp_cell G n (M n) H1 := by
    refine fp_arrSet hk (by decide) ?_
    rw [hz]
    exact e1
  rw [hR.1]
  exact kk p e s m args below meth c0 H1 locs ls C (hR.grow z1 o1 hc) hL hl
theorem SP.anewS {z : Int} {idx N : Nat} (hd : decode Y.2.1 pc = .ok (.anewarray idx, 3)) (hp : pc + 3 = pc') (hcl : Cond.classLink Y.1.cls idx RX9 ∈ lw_tbl) (hk : fp_lay n = (7, N)) (hz : M n = fun _ => 0) (hzN : z = N) (hcr : cs + 1 ≤ mc) (hsr : ss + N ≤ ms)
    (kk : fp_SP l G d (n + 1) (cs + 1) (ss + N) mc ms nf Y pc' LL (rV G n :: st) M Q) : fp_SP l G d n cs ss mc ms nf Y pc LL (iV z :: st) M Q := by
  subst hp
  subst hzN
  intro p e s m args below meth c0 H locs ls C hR hL hl
  have K0 := C.2.2.2.2.2.2.2.1
  have hW := C.2.2.2.2.2.2.2.2
  have hle : N ≤ 729 := by have := fp_lay_le n; rw [hk] at this; exact this
  have hA := (fp_arr K0 hW (t := 7) (ty := .object RX9) rfl).2
  obtain ⟨kB, compB, g1, g2, g3, g4⟩ := hA
  have hcl2 : (Int32.ofInt (N : Int)).toNatClampNeg = N := by rw [fp_clamp (by omega) (by omega)]; rfl
  refine W.anew C.1 C.2.1 C.2.2.2.1 (fp_word K0 hW hcl rfl) (va_AO.use ((va_AO.of (K0.1 (.arrayOver (.object RX9)) (List.mem_of_getElem? (i := 403) (by decide +kernel)))).moved hW.alike)) rfl hd rfl ?_ ?_ hcr ?_ fun cA kA comp f1 f2 f3 f4 => ?_
  · intro h
    have : Int32.ofInt (N : Int) < Int32.ofInt 0 := h
    rw [fp_lt ⟨by omega, by omega⟩ fp_rng0] at this
    omega
  · rw [hcl2]; omega
  · rw [hcl2]; exact hsr
  rw [hcl2]
  have hcA : cA = G.2.2.2.2.1 7 := Option.some.inj (f1.symm.trans g4)
  subst hcA
  generalize hH1 : H.push ({ cls := G.2.2.2.2.1 7, slots := Array.replicate N .null, vm := .none } : Cell) = H1
  have z1 : H1.size = fp_b G + n + 1 := by rw [← hH1, Array.size_push, hR.1]
  have e1 : H1[fp_b G + n]? = some (arrV (G.2.2.2.2.1 7) N (fun _ => .null)) := by rw [← hH1, ← hR.1, Array.getElem?_push_size, ← arrV_new]
  have o1 : ∀ q : Nat, q < fp_b G + n → H1[q]? = H[q]? := fun q hq => by rw [← hH1, Array.getElem?_push, if_neg (by rw [hR.1]; omega)]
  have hc : fp_cell G n (M n) H1 := by
    refine fp_arrSet hk (by decide) ?_
    rw [hz]
    exact e1
  rw [hR.1]
  exact kk p e s m args below meth c0 H1 locs ls C (hR.grow z1 o1 hc) hL hl
theorem SP.aastP {k len i t : Nat} (hd : decode Y.2.1 pc = .ok (.aastore, 1)) (hp : pc + 1 = pc') (hk : fp_lay k = (5, len)) (hn : k < n) (ht : fp_lay t = (0, 5)) (htn : t < n) (h1 : i < len) (kk : fp_SP l G d n cs ss mc ms nf Y pc' LL st (fp_up M k i ((t : Int) + 1)) Q) : fp_SP l G d n cs ss mc ms nf Y pc LL (rV G t :: iV (i : Int) :: rV G k :: st) M Q := by
  subst hp
  intro p e s m args below meth c0 H locs ls C hR hL hl
  have K0 := C.2.2.2.2.2.2.2.1
  have hW := C.2.2.2.2.2.2.2.2
  have hle : len ≤ 729 := by have := fp_lay_le k; rw [hk] at this; exact this
  have hA := (fp_arr K0 hW (t := 5) (ty := .object RX5) rfl).2
  obtain ⟨kA, comp, k1, k2, k3, k4⟩ := hA
  obtain ⟨q, hq, cellV, g1, g2, g3, -⟩ := fp_obj hR htn ht
  have hKn := fp_kn K0 hW hq
  have hcls := hKn.2
  have hcomp : comp = G.2.2.1 5 := by
    cases hq
    exact Option.some.inj (k3.symm.trans hcls.1)
  subst hcomp
  obtain ⟨kC, hkC, -⟩ := hcls.2
  have hc : H[fp_b G + k]? = some (arrV (G.2.2.2.2.1 5) len (fun j => va_rf (fp_ro (fp_b G) (M k j)))) := fp_arrAt hR hn hk (by decide)
  have hcl : (Int32.ofInt (i : Int)).toNatClampNeg = i := by rw [fp_clamp (by omega) (by omega)]; rfl
  have h0 : ¬ Int32.ofInt (i : Int) < 0 := by
    intro h
    have : Int32.ofInt (i : Int) < Int32.ofInt 0 := h
    rw [fp_lt ⟨by omega, by omega⟩ fp_rng0] at this
    omega
  refine W.aast C.1 C.2.1 hc (fun q h => by cases h) (fun h => by cases h) k1 k2 rfl hkC ⟨h0, by rw [arrV_size, hcl]; exact h1⟩ g1 (fun q h => by rw [g3] at h; cases h) (by rw [g2]; exact hkC) (by rw [g2]; exact va_assign hcls) rfl rfl hd fun H1 e1 z1 oq => ?_
  refine kk p e s m args below meth c0 H1 _ ls C (hR.set hn z1 oq (fp_arrSet hk (by decide) ?_)) ?_ hl
  · rw [e1, hcl, arrV_store]
    show _ = some (arrV (G.2.2.2.2.1 5) len (fun j => va_rf (fp_ro (fp_b G) (fp_upf (M k) i ((t : Int) + 1) j))))
    congr 2
    funext j
    unfold updV fp_upf
    by_cases e : j = i
    · subst e
      simp [fp_ro_ref]
    · simp [e]
  · intro y hy
    rcases List.mem_append.mp hy with h | h
    · exact hL y h
    · simp only [List.mem_singleton] at h
      rw [h]; exact Nat.le_add_right _ _
theorem SP.aastI {k len i t : Nat} (hd : decode Y.2.1 pc = .ok (.aastore, 1)) (hp : pc + 1 = pc') (hk : fp_lay k = (6, len)) (hn : k < n) (ht : fp_lay t = (0, 2)) (htn : t < n) (h1 : i < len) (kk : fp_SP l G d n cs ss mc ms nf Y pc' LL st (fp_up M k i ((t : Int) + 1)) Q) : fp_SP l G d n cs ss mc ms nf Y pc LL (rV G t :: iV (i : Int) :: rV G k :: st) M Q := by
  subst hp
  intro p e s m args below meth c0 H locs ls C hR hL hl
  have K0 := C.2.2.2.2.2.2.2.1
  have hW := C.2.2.2.2.2.2.2.2
  have hle : len ≤ 729 := by have := fp_lay_le k; rw [hk] at this; exact this
  have hA := (fp_arr K0 hW (t := 6) (ty := .object RX2) rfl).2
  obtain ⟨kA, comp, k1, k2, k3, k4⟩ := hA
  obtain ⟨q, hq, cellV, g1, g2, g3, -⟩ := fp_obj hR htn ht
  have hKn := fp_kn K0 hW hq
  have hcls := hKn.2
  have hcomp : comp = G.2.2.1 2 := by
    cases hq
    exact Option.some.inj (k3.symm.trans hcls.1)
  subst hcomp
  obtain ⟨kC, hkC, -⟩ := hcls.2
  have hc : H[fp_b G + k]? = some (arrV (G.2.2.2.2.1 6) len (fun j => va_rf (fp_ro (fp_b G) (M k j)))) := fp_arrAt hR hn hk (by decide)
  have hcl : (Int32.ofInt (i : Int)).toNatClampNeg = i := by rw [fp_clamp (by omega) (by omega)]; rfl
  have h0 : ¬ Int32.ofInt (i : Int) < 0 := by
    intro h
    have : Int32.ofInt (i : Int) < Int32.ofInt 0 := h
    rw [fp_lt ⟨by omega, by omega⟩ fp_rng0] at this
    omega
  refine W.aast C.1 C.2.1 hc (fun q h => by cases h) (fun h => by cases h) k1 k2 rfl hkC ⟨h0, by rw [arrV_size, hcl]; exact h1⟩ g1 (fun q h => by rw [g3] at h; cases h) (by rw [g2]; exact hkC) (by rw [g2]; exact va_assign hcls) rfl rfl hd fun H1 e1 z1 oq => ?_
  refine kk p e s m args below meth c0 H1 _ ls C (hR.set hn z1 oq (fp_arrSet hk (by decide) ?_)) ?_ hl
  · rw [e1, hcl, arrV_store]
    show _ = some (arrV (G.2.2.2.2.1 6) len (fun j => va_rf (fp_ro (fp_b G) (fp_upf (M k) i ((t : Int) + 1) j))))
    congr 2
    funext j
    unfold updV fp_upf
    by_cases e : j = i
    · subst e
      simp [fp_ro_ref]
    · simp [e]
  · intro y hy
    rcases List.mem_append.mp hy with h | h
    · exact hL y h
    · simp only [List.mem_singleton] at h
      rw [h]; exact Nat.le_add_right _ _
theorem SP.aastS {k len i t : Nat} (hd : decode Y.2.1 pc = .ok (.aastore, 1)) (hp : pc + 1 = pc') (hk : fp_lay k = (7, len)) (hn : k < n) (ht : fp_lay t = (0, 9)) (htn : t < n) (h1 : i < len) (kk : fp_SP l G d n cs ss mc ms nf Y pc' LL st (fp_up M k i ((t : Int) + 1)) Q) : fp_SP l G d n cs ss mc ms nf Y pc LL (rV G t :: iV (i : Int) :: rV G k :: st) M Q := by
  subst hp
  intro p e s m args below meth c0 H locs ls C hR hL hl
  have K0 := C.2.2.2.2.2.2.2.1
  have hW := C.2.2.2.2.2.2.2.2
  have hle : len ≤ 729 := by have := fp_lay_le k; rw [hk] at this; exact this
  have hA := (fp_arr K0 hW (t := 7) (ty := .object RX9) rfl).2
  obtain ⟨kA, comp, k1, k2, k3, k4⟩ := hA
  obtain ⟨q, hq, cellV, g1, g2, g3, -⟩ := fp_obj hR htn ht
  have hKn := fp_kn K0 hW hq
  have hcls := hKn.2
  have hcomp : comp = G.2.2.1 9 := by
    cases hq
    exact Option.some.inj (k3.symm.trans hcls.1)
  subst hcomp
  obtain ⟨kC, hkC, -⟩ := hcls.2
  have hc : H[fp_b G + k]? = some (arrV (G.2.2.2.2.1 7) len (fun j => va_rf (fp_ro (fp_b G) (M k j)))) := fp_arrAt hR hn hk (by decide)
  have hcl : (Int32.ofInt (i : Int)).toNatClampNeg = i := by rw [fp_clamp (by omega) (by omega)]; rfl
  have h0 : ¬ Int32.ofInt (i : Int) < 0 := by
    intro h
    have : Int32.ofInt (i : Int) < Int32.ofInt 0 := h
    rw [fp_lt ⟨by omega, by omega⟩ fp_rng0] at this
    omega
  refine W.aast C.1 C.2.1 hc (fun q h => by cases h) (fun h => by cases h) k1 k2 rfl hkC ⟨h0, by rw [arrV_size, hcl]; exact h1⟩ g1 (fun q h => by rw [g3] at h; cases h) (by rw [g2]; exact hkC) (by rw [g2]; exact va_assign hcls) rfl rfl hd fun H1 e1 z1 oq => ?_
  refine kk p e s m args below meth c0 H1 _ ls C (hR.set hn z1 oq (fp_arrSet hk (by decide) ?_)) ?_ hl
  · rw [e1, hcl, arrV_store]
    show _ = some (arrV (G.2.2.2.2.1 7) len (fun j => va_rf (fp_ro (fp_b G) (fp_upf (M k) i ((t : Int) + 1) j))))
    congr 2
    funext j
    unfold updV fp_upf
    by_cases e : j = i
    · subst e
      simp [fp_ro_ref]
    · simp [e]
  · intro y hy
    rcases List.mem_append.mp hy with h | h
    · exact hL y h
    · simp only [List.mem_singleton] at h
      rw [h]; exact Nat.le_add_right _ _
theorem mm_ref (b a j : Nat) : (if j < 7 then Value.ref (b + a + 1 + j) else .null) = va_rf (fp_ro b (if j < 7 then ((a + 1 + j : Nat) : Int) + 1 else 0)) := by
  by_cases hj : j < 7
  · rw [if_pos hj, if_pos hj]
    have h := fp_ro_ref (b := b) (t := a + 1 + j)
    rw [h]
    have e : b + a + 1 + j = b + (a + 1 + j) := by omega
    exact congrArg Value.ref e
  · rw [if_neg hj, if_neg hj]
    rfl
theorem SP.newM {idx : Nat} (hd : decode Y.2.1 pc = .ok (.multianewarray idx 2, 4)) (hp : pc + 4 = pc') (hcl : Cond.classLink Y.1.cls idx "[[I" ∈ lw_tbl) (hk : fp_lay n = (8, 7)) (hk1 : ∀ i, i < 7 → fp_lay (n + 1 + i) = (1, 8)) (hz : ∀ i, i < 8 → M (n + i) = fun _ => 0) (hcr : cs + 8 ≤ mc) (hsr : ss + 63 ≤ ms)
    (kk : fp_SP l G d (n + 8) (cs + 8) (ss + 63) mc ms nf Y pc' LL (rV G n :: st) (fp_upM M n (fun j => if j < 7 then ((n + 1 + j : Nat) : Int) + 1 else 0)) Q) : fp_SP l G d n cs ss mc ms nf Y pc LL (iV 8 :: iV 7 :: st) M Q := by
  subst hp
  intro p e s m args below meth c0 H locs ls C hR hL hl
  have K0 := C.2.2.2.2.2.2.2.1
  have hW := C.2.2.2.2.2.2.2.2
  have hA8 := (fp_arr K0 hW (t := 8) (ty := .array .int) rfl).2
  have hA1 := (fp_arr K0 hW (t := 1) (ty := .int) rfl).2
  intro T hT X
  obtain ⟨cI, cA, k0, o1, o2, o3, o4⟩ := mm_over (K0.1 (.arrayOver (.array .int)) (List.mem_of_getElem? (i := 332) (by decide +kernel)))
  obtain ⟨k9, o2', e9⟩ := hW.alike.2.2 _ _ o2
  have f1 : s.vm.findClass ("[" ++ (FieldType.array .int).toString) = some cA := by rw [hW.alike.findClass]; exact o4
  have f2 : s.vm.findClass (FieldType.array .int).toString = some cI := by rw [hW.alike.findClass]; exact o1
  obtain ⟨vm1, hw, X', stp⟩ := mm_step (ls := ls) (rest := st) X C.1 C.2.2.2.1 (fp_word K0 hW hcl rfl) f2 o2' (by rw [e9]; exact o3) f1 (fp_word K0 hW (w := .arrayClass .int) (List.mem_of_getElem? (i := 155) (by decide +kernel)) rfl) (by rw [C.2.1]; exact hd) hcr hsr
  have hcA : cA = G.2.2.2.2.1 8 := by
    have h2 : s.vm.findClass ("[" ++ (FieldType.array .int).toString) = some (G.2.2.2.2.1 8) := hA8
    exact Option.some.inj (f1.symm.trans h2)
  have hcI : cI = G.2.2.2.2.1 1 := by
    have h2 : s.vm.findClass ("[" ++ (FieldType.int).toString) = some (G.2.2.2.2.1 1) := hA1
    exact Option.some.inj (f2.symm.trans h2)
  subst hcA
  subst hcI
  have hTs : (T.setVm vm1).heap = H := hT
  have hsz : (T.setVm vm1).heap.size = fp_b G + n := by rw [hTs]; exact hR.1
  obtain ⟨hF1, hF2, -, -, hOld, hIn⟩ := mmS_of (T.setVm vm1) (G.2.2.2.2.1 8) (G.2.2.2.2.1 1) 7
  rw [hsz] at hF1 hF2 hOld hIn
  have hrep : fp_Rep G (n + 8) (fp_upM M n (fun j => if j < 7 then ((n + 1 + j : Nat) : Int) + 1 else 0)) (mmS (T.setVm vm1) (G.2.2.2.2.1 8) (G.2.2.2.2.1 1) 7).heap := by
    refine ⟨by rw [hF1]; omega, fun a ha => ?_, fun q hq => ?_⟩
    · by_cases h1 : a < n
      · have : fp_upM M n (fun j => if j < 7 then ((n + 1 + j : Nat) : Int) + 1 else 0) a = M a := by simp [fp_upM, show a ≠ n by omega]
        rw [this]
        refine fp_cell_kept (hR.2.1 a h1) ?_
        rw [hOld _ (by omega), hTs]
      · by_cases h2 : a = n
        · subst h2
          have : fp_upM M a (fun j => if j < 7 then ((a + 1 + j : Nat) : Int) + 1 else 0) a = (fun j => if j < 7 then ((a + 1 + j : Nat) : Int) + 1 else 0) := by simp [fp_upM]
          rw [this]
          refine fp_arrSet hk (by decide) ?_
          rw [hF2]
          have hmm : ∀ f : Nat → Int, vp_cell (G.2.2.2.2.1 8) (fp_arrc (fp_b G) 8 7 f) = arrV (G.2.2.2.2.1 8) 7 (fun j => va_rf (fp_ro (fp_b G) (f j))) := fun f => rfl
          rw [hmm]
          unfold mmO
          exact congrArg some (congrArg (arrV (G.2.2.2.2.1 8) 7) (funext fun j => mm_ref (fp_b G) a j))
        · obtain ⟨i, rfl⟩ : ∃ i, a = n + 1 + i := ⟨a - n - 1, by omega⟩
          have hi : i < 7 := by omega
          have : fp_upM M n (fun j => if j < 7 then ((n + 1 + j : Nat) : Int) + 1 else 0) (n + 1 + i) = (fun _ => 0) := by
            rw [← hz (1 + i) (by omega)]
            simp [fp_upM, show n + 1 + i ≠ n by omega, Nat.add_assoc]
          rw [this]
          refine fp_arrSet (hk1 i hi) (by decide) ?_
          rw [← Nat.add_assoc, ← Nat.add_assoc, hIn i hi]
          have hmm : ∀ f : Nat → Int, vp_cell (G.2.2.2.2.1 1) (fp_arrc (fp_b G) 1 8 f) = arrV (G.2.2.2.2.1 1) 8 (fun j => .int (Int32.ofInt (f j))) := fun f => rfl
          rw [hmm]
          unfold mmI
          exact congrArg some (congrArg (arrV (G.2.2.2.2.1 1) 8) (funext fun _ => rfl))
    · rw [hOld q (by omega), hTs]
      exact hR.2.2 q hq
  obtain ⟨t2, a1, b1⟩ := kk p e s m args below meth c0 _ _ ls C hrep (by
    intro y hy
    rcases List.mem_append.mp hy with h | h
    · exact hL y h
    · obtain ⟨j, -, rfl⟩ := List.mem_map.mp h
      show fp_b G ≤ T.heap.size
      rw [hT, hR.1]; omega) hl _ rfl X'
  refine ⟨t2, stp t2 ?_, b1⟩
  have e9 : Value.ref T.heap.size = rV G n := by rw [hT, hR.1]
  rw [e9]
  exact a1
end NWR
