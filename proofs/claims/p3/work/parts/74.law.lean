/-! THE LAW: its rows, what holds at its entry, its end -/
abbrev kL (nm : String) : fp_MR := (⟨RL, nm, "([I)Z"⟩, cL_law, 4, some .boolean)
theorem fp_ofi (x : Int32) : Int32.ofInt x.toInt = x := by simp
theorem fp_ofj (x : Int64) : Int64.ofInt x.toInt = x := by simp
theorem fp_lng_of (x : Int64) : fp_lng x.toInt := ⟨by have := x.le_toInt; omega, by have := x.toInt_lt; omega⟩
theorem fp_rng_lng {z : Int} (h : fp_rng z) : fp_lng z := ⟨by have := h.1; omega, by have := h.2; omega⟩
section LWR
variable {l : Launch} {G : fp_WG} {d n cs ss mc ms nf : Nat} {Y : fp_MR} {pc pc' : Nat} {LL LL' : List (Option Value)} {st : List Value} {M : fp_Mem} {Q : fp_Q}
theorem SP.eqM {M' : fp_Mem} (e : M = M') (k : fp_SP l G d n cs ss mc ms nf Y pc LL st M' Q) : fp_SP l G d n cs ss mc ms nf Y pc LL st M Q := e ▸ k
/-- the law's own script -/
theorem SP.sld {z : Int} (hd : decode Y.2.1 pc = .ok (.iaload, 1)) (hp : pc + 1 = pc') (h0 : 0 ≤ z) (h1 : z < (G.2.2.2.2.2.1 : Int)) (hL : G.2.2.2.2.2.1 ≤ 2147483647) (kk : fp_SP l G d n cs ss mc ms nf Y pc' LL (iV (G.2.2.2.2.2.2 z.toNat).toInt :: st) M Q) : fp_SP l G d n cs ss mc ms nf Y pc LL (iV z :: .ref G.1 :: st) M Q := by
  subst hp
  intro p e s m args below meth c0 H locs ls C hR hL' hl
  have K0 := C.2.2.2.2.2.2.2.1
  have hW := C.2.2.2.2.2.2.2.2
  obtain ⟨scr, q1, q2, q3, q4, q5⟩ := K0.2.2.2.1
  have hcl := fp_clamp h0 (by omega)
  refine W.iald (v := .int (G.2.2.2.2.2.2 z.toNat)) C.1 C.2.1 (by rw [hR.2.2 G.1 K0.2.2.2.2.1]; exact q1) (State.isArrayOf_alike hW.alike q2) q3 (by rw [q4]; exact fp_in h0 h1 hL) (by rw [hcl]; exact q5 _ (by omega)) rfl rfl hd ?_
  have := kk p e s m args below meth c0 H locs ls C hR hL' hl
  rwa [show iV (G.2.2.2.2.2.2 z.toNat).toInt = .int (G.2.2.2.2.2.2 z.toNat) by unfold iV; rw [fp_ofi]] at this
theorem SP.slen (hd : decode Y.2.1 pc = .ok (.arraylength, 1)) (hp : pc + 1 = pc') (kk : fp_SP l G d n cs ss mc ms nf Y pc' LL (iV (G.2.2.2.2.2.1 : Int) :: st) M Q) : fp_SP l G d n cs ss mc ms nf Y pc LL (.ref G.1 :: st) M Q := by
  subst hp
  intro p e s m args below meth c0 H locs ls C hR hL' hl
  have K0 := C.2.2.2.2.2.2.2.1
  have hW := C.2.2.2.2.2.2.2.2
  obtain ⟨scr, q1, q2, q3, q4, q5⟩ := K0.2.2.2.1
  exact W.alen (n := Int32.ofInt (G.2.2.2.2.2.1 : Int)) C.1 C.2.1 (by rw [hR.2.2 G.1 K0.2.2.2.2.1]; exact q1) (State.isArrayOf_alike hW.alike q2) (by rw [q4]; rfl) rfl rfl hd (kk p e s m args below meth c0 H locs ls C hR hL' hl)
theorem SP.ldc2 {idx : Nat} {w : Int64} {v : Int} (hd : decode Y.2.1 pc = .ok (.ldc2_w idx, 3)) (hp : pc + 3 = pc') (hc : Cond.constantLong Y.1.cls idx w ∈ lw_tbl) (hw : w = Int64.ofInt v) (kk : fp_SP l G d n cs ss mc ms nf Y pc' LL (jV v :: st) M Q) : fp_SP l G d n cs ss mc ms nf Y pc LL st M Q := by
  subst hp
  subst hw
  intro p e s m args below meth c H locs ls C hR hL hl
  exact lv_ldc2 C.1 C.2.1 C.2.2.2.1 (fp_word C.2.2.2.2.2.2.2.1 C.2.2.2.2.2.2.2.2 hc rfl) hd (kk p e s m args below meth c H locs ls C hR hL hl)
/-- two answers that are the same -/
theorem SP.same {a : Int} {off : Int} {tgt : Nat} (hd : decode Y.2.1 pc = .ok (.if_icmp .eq off, 3)) (ht : (pc : Int) + off = (tgt : Int)) (kt : fp_SP l G d n cs ss mc ms nf Y tgt LL st M Q) : fp_SP l G d n cs ss mc ms nf Y pc LL (iV a :: iV a :: st) M Q := by
  intro p e s m args below meth c H locs ls C hR hL hl
  exact lv_icmp_eq C.1 C.2.1 hd ht (fun h => kt p e s m args below meth c H locs ls C hR hL hl) (fun h => absurd rfl h)
/-- a call of either object -/
theorem SP.opI {Z : fp_MR} {idx k c d' na : Nat} {As : List Value} {P : Int → fp_Mem → Prop} {st0 : List Value} (hd : decode Y.2.1 pc = .ok (.invokevirtual idx, 3)) (hp : pc + 3 = pc') (hc : fp_CV Y.1.cls idx Z na c) (ok : fp_Ok l G d' Z (rV G k :: As) M (qI P)) (hna : As.length = na) (hk : fp_lay k = (0, c)) (hdd : d' + 1 ≤ d) (hcr : cs ≤ mc) (hsr : ss ≤ ms) (hst0 : st0 = As.reverse ++ rV G k :: st) (hst : (st.map fun v => v.category).sum ≤ 8)
    (kk : ∀ (z : Int) (M' : fp_Mem), P z M' → fp_SP l G d fp_K cs ss mc ms nf Y pc' LL (iV z :: st) (fp_sx M') Q) : fp_SP l G d fp_K cs ss mc ms nf Y pc LL st0 (fp_sx M) Q := by
  obtain ⟨h1, h2, h3, q, hq, hqc⟩ := hc
  refine SP.callV hd hp h1 h2 h3 hna hk (fp_lt_obj hk) hq hqc hdd hcr hsr hst0 hst ok fun r X hQ => ?_
  obtain ⟨M', rfl, z, rfl, hP⟩ := hQ
  exact kk z M' hP
theorem SP.opJ {Z : fp_MR} {idx k c d' na : Nat} {As : List Value} {P : Int → fp_Mem → Prop} {st0 : List Value} (hd : decode Y.2.1 pc = .ok (.invokevirtual idx, 3)) (hp : pc + 3 = pc') (hc : fp_CV Y.1.cls idx Z na c) (ok : fp_Ok l G d' Z (rV G k :: As) M (qJ P)) (hna : As.length = na) (hk : fp_lay k = (0, c)) (hdd : d' + 1 ≤ d) (hcr : cs ≤ mc) (hsr : ss ≤ ms) (hst0 : st0 = As.reverse ++ rV G k :: st) (hst : (st.map fun v => v.category).sum ≤ 8)
    (kk : ∀ (z : Int) (M' : fp_Mem), P z M' → fp_SP l G d fp_K cs ss mc ms nf Y pc' LL (jV z :: st) (fp_sx M') Q) : fp_SP l G d fp_K cs ss mc ms nf Y pc LL st0 (fp_sx M) Q := by
  obtain ⟨h1, h2, h3, q, hq, hqc⟩ := hc
  refine SP.callV hd hp h1 h2 h3 hna hk (fp_lt_obj hk) hq hqc hdd hcr hsr hst0 hst ok fun r X hQ => ?_
  obtain ⟨M', rfl, z, rfl, hP⟩ := hQ
  exact kk z M' hP
end LWR
theorem frC.ms {M N : fp_Mem} {tp : List Int} {fl : Int} {g : aGd} {pg : aPg} {vs : List aVt} {nt : List Int} {im : aIm} {sh : aSh} {tn : Int} (e : frC M N) (h : MS M tp fl g pg vs nt im sh tn) : MS N tp fl g pg vs nt im sh tn := by
  obtain ⟨h1, h2, h3, h4, h5, h6, h7, h8⟩ := h
  have e177 := e 177 (by omega)
  have e178 := e 178 (by omega)
  have e179 := e 179 (by omega)
  have e180 := e 180 (by omega)
  have e181 := e 181 (by omega)
  have e186 := e 186 (by omega)
  have e187 := e 187 (by omega)
  have e188 := e 188 (by omega)
  have e199 := e 199 (by omega)
  have e200 := e 200 (by omega)
  have e201 := e 201 (by omega)
  have e202 := e 202 (by omega)
  refine ⟨?_, ?_, ?_, ?_, ?_, ?_, ?_, ?_⟩
  · unfold msA at *; rw [e177, e186]; exact h1
  · unfold mdIs md_ok at *; rw [e177, e179, e180, e181]; exact h2
  · unfold mpIs at *; rw [e178]; exact h3
  · rw [e178]; exact h4
  · rw [e178]; exact h5
  · unfold msI at *; rw [e178, e199]; exact h6
  · unfold msS at *; rw [e200, e201, e202]; exact h7
  · unfold msK at *; rw [e187, e188]; exact h8
/-- what holds at the law's entry is what the rows ask for -/
theorem fp_K0_of {p : Program} {s : State} {m : MethodId} {meth : Method} {c : Code} {b L : Nat} {xs : Nat → Int32} (C0 : lw_At p s m meth c b L xs) : ∃ G : fp_WG, G.1 = b ∧ G.2.1 = s ∧ G.2.2.2.2.2.1 = L ∧ fp_K0 G := by
  obtain ⟨hx, hb, hr, hm, hown, hts, hX, hbl, hlk, hgv⟩ := C0
  have hcl : ∀ c : Nat, ∃ q : ClassId × (Nat → Nat), ∀ r : vw_C, vwCl[c]? = some r → u_Kn s r.1 r.2.1 r.2.2 q.1 q.2 := by
    intro c
    cases h : vwCl[c]? with
    | none => exact ⟨(0, fun _ => 0), fun r hr => by cases hr⟩
    | some r =>
      have hi : ∃ n, Cond.instantiable r.1 n ∈ lw_tbl := by
        have hc : c < 13 := (List.getElem?_eq_some_iff.mp h).1
        rcases (show c = 0 ∨ c = 1 ∨ c = 2 ∨ c = 3 ∨ c = 4 ∨ c = 5 ∨ c = 6 ∨ c = 7 ∨ c = 8 ∨ c = 9 ∨ c = 10 ∨ c = 11 ∨ c = 12 by omega) with rfl | rfl | rfl | rfl | rfl | rfl | rfl | rfl | rfl | rfl | rfl | rfl | rfl <;> cases h
        · exact nX11_55.elim fun q hq => by obtain ⟨h1, -, -, h3, -⟩ := hq; cases h1; exact ⟨_, h3⟩
        · exact nX11_20.elim fun q hq => by obtain ⟨h1, -, -, h3, -⟩ := hq; cases h1; exact ⟨_, h3⟩
        · exact nX11_76.elim fun q hq => by obtain ⟨h1, -, -, h3, -⟩ := hq; cases h1; exact ⟨_, h3⟩
        · exact nX11_41.elim fun q hq => by obtain ⟨h1, -, -, h3, -⟩ := hq; cases h1; exact ⟨_, h3⟩
        · exact nX11_62.elim fun q hq => by obtain ⟨h1, -, -, h3, -⟩ := hq; cases h1; exact ⟨_, h3⟩
        · exact nX11_27.elim fun q hq => by obtain ⟨h1, -, -, h3, -⟩ := hq; cases h1; exact ⟨_, h3⟩
        · exact nX11_13.elim fun q hq => by obtain ⟨h1, -, -, h3, -⟩ := hq; cases h1; exact ⟨_, h3⟩
        · exact nX11_69.elim fun q hq => by obtain ⟨h1, -, -, h3, -⟩ := hq; cases h1; exact ⟨_, h3⟩
        · exact nX11_48.elim fun q hq => by obtain ⟨h1, -, -, h3, -⟩ := hq; cases h1; exact ⟨_, h3⟩
        · exact nX11_82.elim fun q hq => by obtain ⟨h1, -, -, h3, -⟩ := hq; cases h1; exact ⟨_, h3⟩
        · exact nX11_34.elim fun q hq => by obtain ⟨h1, -, -, h3, -⟩ := hq; cases h1; exact ⟨_, h3⟩
        · exact nL_7.elim fun q hq => by obtain ⟨h1, -, -, h3, -⟩ := hq; cases h1; exact ⟨_, h3⟩
        · exact nL_10.elim fun q hq => by obtain ⟨h1, -, -, h3, -⟩ := hq; cases h1; exact ⟨_, h3⟩
      obtain ⟨n, hn⟩ := hi
      obtain ⟨cC, iS, hK⟩ := u_known (args := #[Value.ref b]) hts (fp_inT c r h) (hts _ hn)
      exact ⟨(cC, iS), fun r' hr' => by cases hr'; exact hK⟩
  have har : ∀ t : Nat, ∃ cA : ClassId, ∀ ty : FieldType, fp_tys[t]? = some ty → ArrOfT s cA ty ∧ va_RA s cA ty := by
    intro t
    have hp : ∀ ty : FieldType, Cond.arrayClass ty ∈ lw_tbl → (∃ cA, ArrOfT s cA ty ∧ s.vm.findClass ("[" ++ ty.toString) = some cA) := by
      intro ty h
      obtain ⟨cA, k, comp, h1, h2, h3⟩ := Cond.arrayClass_spec (hts _ h)
      exact ⟨cA, fun N z => ⟨(fun k h => by cases h), k, h2, comp, h3⟩, h1⟩
    have ho : ∀ C : String, Cond.arrayOver (.object C) ∈ lw_tbl → ∃ cA, ArrOfT s cA (.object C) ∧ va_RA s cA (.object C) := by
      intro C h
      obtain ⟨comp, cA, k, h1, h2, h3, h4, h5⟩ := Cond.arrayOver_spec (hts _ h)
      exact ⟨cA, fun N z => ⟨(fun k h => by cases h), k, h3, comp, h4⟩, k, comp, h3, h4, h1, h5⟩
    by_cases ht : t < 9
    · rcases (show t = 0 ∨ t = 1 ∨ t = 2 ∨ t = 3 ∨ t = 4 ∨ t = 5 ∨ t = 6 ∨ t = 7 ∨ t = 8 by omega) with rfl | rfl | rfl | rfl | rfl | rfl | rfl | rfl | rfl
      · obtain ⟨cA, h1, h2⟩ := hp .int (List.mem_of_getElem? (i := 155) (by decide +kernel)); exact ⟨cA, fun ty h => by cases h; exact ⟨h1, h2⟩⟩
      · obtain ⟨cA, h1, h2⟩ := hp .int (List.mem_of_getElem? (i := 155) (by decide +kernel)); exact ⟨cA, fun ty h => by cases h; exact ⟨h1, h2⟩⟩
      · obtain ⟨cA, h1, h2⟩ := hp .byte (List.mem_of_getElem? (i := 154) (by decide +kernel)); exact ⟨cA, fun ty h => by cases h; exact ⟨h1, h2⟩⟩
      · obtain ⟨cA, h1, h2⟩ := hp .boolean (List.mem_of_getElem? (i := 323) (by decide +kernel)); exact ⟨cA, fun ty h => by cases h; exact ⟨h1, h2⟩⟩
      · obtain ⟨cA, h1, h2⟩ := hp .long (List.mem_of_getElem? (i := 324) (by decide +kernel)); exact ⟨cA, fun ty h => by cases h; exact ⟨h1, h2⟩⟩
      · obtain ⟨cA, h1, h2⟩ := ho RX5 (List.mem_of_getElem? (i := 296) (by decide +kernel)); exact ⟨cA, fun ty h => by cases h; exact ⟨h1, h2⟩⟩
      · obtain ⟨cA, h1, h2⟩ := ho RX2 (List.mem_of_getElem? (i := 401) (by decide +kernel)); exact ⟨cA, fun ty h => by cases h; exact ⟨h1, h2⟩⟩
      · obtain ⟨cA, h1, h2⟩ := ho RX9 (List.mem_of_getElem? (i := 403) (by decide +kernel)); exact ⟨cA, fun ty h => by cases h; exact ⟨h1, h2⟩⟩
      · obtain ⟨cI, cA, k, h1, h2, h3, h4⟩ := mm_over (hts (.arrayOver (.array .int)) (List.mem_of_getElem? (i := 332) (by decide +kernel)))
        exact ⟨cA, fun ty h => by cases h; exact ⟨fun N z => ⟨(fun k h => by cases h), k, h2, cI, h3⟩, h4⟩⟩
    · exact ⟨0, fun ty h => absurd (List.getElem?_eq_some_iff.mp h).1 (by show ¬ t < 9; exact ht)⟩
  obtain ⟨f, hf⟩ := Classical.axiomOfChoice hcl
  obtain ⟨a, ha⟩ := Classical.axiomOfChoice har
  exact ⟨(b, s, fun c => (f c).1, fun c => (f c).2, a, L, xs), rfl, rfl, rfl, hts, fun c q h => hf c q h, fun t ty h => ha t ty h, hX, hbl, hgv⟩
theorem fp_room {s : State} {pl : Platform} {r r' : Room} (h : s.hasRoom pl r = true) (h1 : r'.frames ≤ r.frames) (h2 : r'.cells ≤ r.cells) (h3 : r'.slots ≤ r.slots) (h4 : r'.locals ≤ r.locals) : s.hasRoom pl r' = true := by
  simp only [State.hasRoom, Bool.and_eq_true, decide_eq_true_eq] at h ⊢
  obtain ⟨⟨⟨⟨a1, a2, a3, a4, a5, a6⟩, a7⟩, a8⟩, a9⟩ := h
  exact ⟨⟨⟨⟨by omega, by omega, by omega, by omega, by omega, a6⟩, by omega⟩, by omega⟩, a9⟩
/-- the claim's own part out of a walk in the rows' words -/
theorem fp_law_end {p : Program} {e : Env} {s : State} {m : MethodId} {below : List Frame} {meth : Method} {c : Code} (l : Launch) {b L : Nat} {xs : Nat → Int32} (C0 : lw_At p s m meth c b L xs)
    (h : ∀ G : fp_WG, G.1 = b → G.2.2.2.2.2.1 = L → fp_SP l G 2048 0 0 0 203 5193 203 (kL meth.name) 0 [some (.ref b), none, none, none] [] (fp_w []) (fun r _ => r = some (iV 1))) : W p l e room_1 s m #[Value.ref b] below meth c s.heap [] 0 0 (lw_Z below #[Value.ref b] s) (entryFrame m ([Value.ref b] : List Value).toArray 4) := by
  obtain ⟨G, hG1, hG2, hG3, hK⟩ := fp_K0_of C0
  obtain ⟨hx, hb, hr, hm, hown, hts, hX, hbl, hlk, hgv⟩ := C0
  have hw := h G hG1 hG3
  rw [lg_entry_eq]
  intro T hT X
  have hlv := lv_entry (n := 4) [Value.ref b] (Nat.le_of_ble_eq_true rfl)
  have X2 : Stand p l e (fp_rm 2048 203 5193) s m #[Value.ref b] below meth c T [] 0 0 := { X with room := fp_room X.room (by decide) (by decide) (by decide) (by decide) }
  have hCx : fp_Cx G (kL meth.name) p s m meth c := ⟨hx, hb, hm, hown, hr, hlk, rfl, hK, by rw [hG2]; exact State.WarmedH.refl _⟩
  obtain ⟨t, a1, o, b1, b2, ⟨r, M', hor, hrr, hR⟩, LL, hFE, hfree⟩ := hw p e s m #[Value.ref b] below meth c s.heap [] _ hCx ⟨by rw [← hG2]; rfl, fun k hk => absurd hk (Nat.not_lt_zero k), fun q hq => by rw [hG2]⟩ (fun q hq => (List.not_mem_nil hq).elim) ⟨lv_args 0 [Value.ref b], hlv, fun i v hi => by
    have := fp_ent_args [Value.ref b] 3 0 i v hi
    rwa [Nat.zero_add] at this⟩ T hT X2
  refine ⟨t, a1, o, b1, b2, by rw [hor, hrr]; rfl, ?_⟩
  have hsz : fp_b G = s.heap.size := by unfold fp_b; rw [hG2]
  obtain ⟨f1, f2, f3⟩ := hFE
  exact ⟨f1, f2, (State.sameButNew.drop_fresh (L := []) (J := LL) f3 (fun x hx => by rw [← hsz]; exact hfree x hx)).mono (by decide) (by decide)⟩
