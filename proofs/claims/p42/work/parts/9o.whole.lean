/-! BY PROGRAM (tools/mklaw2.py): the law over a script of at most 3584 ints -/
section LWH
variable {l : Launch} {G : fp_WG} {nm : String}
theorem lawx_loop (hL : G.2.2.2.2.2.1 ≤ 3584) : ∀ (r : Nat) (i : Int) (M : fp_Mem), ((G.2.2.2.2.2.1 : Int) - i).toNat < r → 0 ≤ i → i ≤ (G.2.2.2.2.2.1 : Int) → LI M → fp_SP l G 2048 203 203 5193 203 5193 203 (kL nm) 18 [some (.ref G.1), some (rV G 0), some (rV G 177), some (iV i)] [] (fp_sx M) (fun r _ => r = some (iV 1)) := by
  intro r
  induction r with
  | zero => intro i M hr; omega
  | succ r ih =>
    intro i M hr h0 h1 hI
    refine SP.iload_n (pc' := 19) dL_law_18 rfl rfl rfl ?_
    refine SP.aload_n (pc' := 20) dL_law_19 rfl rfl rfl ?_
    refine SP.slen (pc' := 21) dL_law_20 rfl ?_
    refine SP.bipush (pc' := 23) dL_law_21 rfl rfl ?_
    refine SP.isub (pc' := 24) dL_law_23 rfl ?_
    refine SP.icmp_gt (tgt := 1503) (pc' := 27) dL_law_24 (by decide) rfl (by unfold fp_rng; omega) (by unfold fp_rng; omega) (fun _ => ?_) (fun h => ?_)
    · refine SP.iconst (pc' := 1504) dL_law_1503 rfl ?_
      exact SP.zret (ty := .boolean) dL_law_1504 rfl rfl rfl
    have h7 : i + 7 ≤ (G.2.2.2.2.2.1 : Int) := by omega
    have hL' : G.2.2.2.2.2.1 ≤ 2147483647 := by omega
    have K : ∀ M', LI M' → fp_SP l G 2048 203 203 5193 203 5193 203 (kL nm) 1497 [some (.ref G.1), some (rV G 0), some (rV G 177), some (iV i)] [] (fp_sx M') (fun r _ => r = some (iV 1)) := by
      intro M' hI'
      refine SP.iinc (LL' := [_, _, _, some (iV (i + 7))]) (pc' := 1500) dL_law_1497 rfl (show 3 < 4 by decide) rfl rfl rfl ?_
      refine SP.goto (pc' := 18) dL_law_1500 (by decide) ?_
      exact ih (i + 7) M' (by omega) (by omega) (by omega) hI'
    refine SP.aload_n (pc' := 28) dL_law_27 rfl rfl rfl ?_
    refine SP.iload_n (pc' := 29) dL_law_28 rfl rfl rfl ?_
    refine SP.sld (pc' := 30) dL_law_29 rfl (by omega) (by omega) hL' ?_
    refine SP.bipush (pc' := 32) dL_law_30 rfl rfl ?_
    refine SP.iand (pc' := 33) dL_law_32 rfl (fp_ofi _).symm ?_
    generalize hz : (Int32.ofInt (G.2.2.2.2.2.2 i.toNat).toInt &&& Int32.ofInt 63).toInt = z
    have hr : fp_rng z := by rw [← hz]; exact fp_rng_of _
    clear hz
    rcases (show z < 0 ∨ 40 < z ∨ z = 0 ∨ z = 1 ∨ z = 2 ∨ z = 3 ∨ z = 4 ∨ z = 5 ∨ z = 6 ∨ z = 7 ∨ z = 8 ∨ z = 9 ∨ z = 10 ∨ z = 11 ∨ z = 12 ∨ z = 13 ∨ z = 14 ∨ z = 15 ∨ z = 16 ∨ z = 17 ∨ z = 18 ∨ z = 19 ∨ z = 20 ∨ z = 21 ∨ z = 22 ∨ z = 23 ∨ z = 24 ∨ z = 25 ∨ z = 26 ∨ z = 27 ∨ z = 28 ∨ z = 29 ∨ z = 30 ∨ z = 31 ∨ z = 32 ∨ z = 33 ∨ z = 34 ∨ z = 35 ∨ z = 36 ∨ z = 37 ∨ z = 38 ∨ z = 39 ∨ z = 40 by omega) with hs | hs | hs | hs | hs | hs | hs | hs | hs | hs | hs | hs | hs | hs | hs | hs | hs | hs | hs | hs | hs | hs | hs | hs | hs | hs | hs | hs | hs | hs | hs | hs | hs | hs | hs | hs | hs | hs | hs | hs | hs | hs | hs
    · exact SP.tableOut (tgt := 1497) dL_law_33 hr (by omega) (by decide) (K _ hI)
    · exact SP.tableOut (tgt := 1497) dL_law_33 hr (by omega) (by decide) (K _ hI)
    · exact SP.tableIn (tgt := 212) dL_law_33 hr (by omega) (by omega) (by rw [hs]; rfl) (by decide) (law_feed hI h0 h7 hL' K)
    · exact SP.tableIn (tgt := 265) dL_law_33 hr (by omega) (by omega) (by rw [hs]; rfl) (by decide) (law_end hI h0 h7 hL' K)
    · exact SP.tableIn (tgt := 288) dL_law_33 hr (by omega) (by omega) (by rw [hs]; rfl) (by decide) (law_bank hI h0 h7 hL' K)
    · exact SP.tableIn (tgt := 301) dL_law_33 hr (by omega) (by omega) (by rw [hs]; rfl) (by decide) (law_fault hI h0 h7 hL' K)
    · exact SP.tableIn (tgt := 314) dL_law_33 hr (by omega) (by omega) (by rw [hs]; rfl) (by decide) (law_thing hI h0 h7 hL' K)
    · exact SP.tableIn (tgt := 347) dL_law_33 hr (by omega) (by omega) (by rw [hs]; rfl) (by decide) (law_line hI h0 h7 hL' K)
    · exact SP.tableIn (tgt := 380) dL_law_33 hr (by omega) (by omega) (by rw [hs]; rfl) (by decide) (law_visit hI h0 h7 hL' K)
    · exact SP.tableIn (tgt := 413) dL_law_33 hr (by omega) (by omega) (by rw [hs]; rfl) (by decide) (law_chance hI h0 h7 hL' K)
    · exact SP.tableIn (tgt := 436) dL_law_33 hr (by omega) (by omega) (by rw [hs]; rfl) (by decide) (law_holds hI h0 h7 hL' K)
    · exact SP.tableIn (tgt := 459) dL_law_33 hr (by omega) (by omega) (by rw [hs]; rfl) (by decide) (law_worth hI h0 h7 hL' K)
    · exact SP.tableIn (tgt := 482) dL_law_33 hr (by omega) (by omega) (by rw [hs]; rfl) (by decide) (law_put hI h0 h7 hL' K)
    · exact SP.tableIn (tgt := 525) dL_law_33 hr (by omega) (by omega) (by rw [hs]; rfl) (by decide) (law_draw hI h0 h7 hL' K)
    · exact SP.tableIn (tgt := 558) dL_law_33 hr (by omega) (by omega) (by rw [hs]; rfl) (by decide) (law_slip hI h0 h7 hL' K)
    · exact SP.tableIn (tgt := 601) dL_law_33 hr (by omega) (by omega) (by rw [hs]; rfl) (by decide) (law_come hI h0 h7 hL' K)
    · exact SP.tableIn (tgt := 654) dL_law_33 hr (by omega) (by omega) (by rw [hs]; rfl) (by decide) (law_cut hI h0 h7 hL' K)
    · exact SP.tableIn (tgt := 677) dL_law_33 hr (by omega) (by omega) (by rw [hs]; rfl) (by decide) (law_go hI h0 h7 hL' K)
    · exact SP.tableIn (tgt := 700) dL_law_33 hr (by omega) (by omega) (by rw [hs]; rfl) (by decide) (law_after hI h0 h7 hL' K)
    · exact SP.tableIn (tgt := 733) dL_law_33 hr (by omega) (by omega) (by rw [hs]; rfl) (by decide) (law_gains hI h0 h7 hL' K)
    · exact SP.tableIn (tgt := 766) dL_law_33 hr (by omega) (by omega) (by rw [hs]; rfl) (by decide) (law_vain hI h0 h7 hL' K)
    · exact SP.tableIn (tgt := 779) dL_law_33 hr (by omega) (by omega) (by rw [hs]; rfl) (by decide) (law_lost hI h0 h7 hL' K)
    · exact SP.tableIn (tgt := 802) dL_law_33 hr (by omega) (by omega) (by rw [hs]; rfl) (by decide) (law_since hI h0 h7 hL' K)
    · exact SP.tableIn (tgt := 835) dL_law_33 hr (by omega) (by omega) (by rw [hs]; rfl) (by decide) (law_extra hI h0 h7 hL' K)
    · exact SP.tableIn (tgt := 878) dL_law_33 hr (by omega) (by omega) (by rw [hs]; rfl) (by decide) (law_aim hI h0 h7 hL' K)
    · exact SP.tableIn (tgt := 911) dL_law_33 hr (by omega) (by omega) (by rw [hs]; rfl) (by decide) (law_trick hI h0 h7 hL' K)
    · exact SP.tableIn (tgt := 964) dL_law_33 hr (by omega) (by omega) (by rw [hs]; rfl) (by decide) (law_most hI h0 h7 hL' K)
    · exact SP.tableIn (tgt := 997) dL_law_33 hr (by omega) (by omega) (by rw [hs]; rfl) (by decide) (law_odds hI h0 h7 hL' K)
    · exact SP.tableIn (tgt := 1040) dL_law_33 hr (by omega) (by omega) (by rw [hs]; rfl) (by decide) (law_likeliest hI h0 h7 hL' K)
    · exact SP.tableIn (tgt := 1063) dL_law_33 hr (by omega) (by omega) (by rw [hs]; rfl) (by decide) (law_duel hI h0 h7 hL' K)
    · exact SP.tableIn (tgt := 1138) dL_law_33 hr (by omega) (by omega) (by rw [hs]; rfl) (by decide) (law_noted hI h0 h7 hL' K)
    · exact SP.tableIn (tgt := 1161) dL_law_33 hr (by omega) (by omega) (by rw [hs]; rfl) (by decide) (law_forget hI h0 h7 hL' K)
    · exact SP.tableIn (tgt := 1174) dL_law_33 hr (by omega) (by omega) (by rw [hs]; rfl) (by decide) (law_orders hI h0 h7 hL' K)
    · exact SP.tableIn (tgt := 1207) dL_law_33 hr (by omega) (by omega) (by rw [hs]; rfl) (by decide) (law_ring hI h0 h7 hL' K)
    · exact SP.tableIn (tgt := 1230) dL_law_33 hr (by omega) (by omega) (by rw [hs]; rfl) (by decide) (law_with hI h0 h7 hL' K)
    · exact SP.tableIn (tgt := 1253) dL_law_33 hr (by omega) (by omega) (by rw [hs]; rfl) (by decide) (law_join hI h0 h7 hL' K)
    · exact SP.tableIn (tgt := 1276) dL_law_33 hr (by omega) (by omega) (by rw [hs]; rfl) (by decide) (law_keep hI h0 h7 hL' K)
    · exact SP.tableIn (tgt := 1299) dL_law_33 hr (by omega) (by omega) (by rw [hs]; rfl) (by decide) (law_back hI h0 h7 hL' K)
    · exact SP.tableIn (tgt := 1322) dL_law_33 hr (by omega) (by omega) (by rw [hs]; rfl) (by decide) (law_sheet hI h0 h7 hL' K)
    · exact SP.tableIn (tgt := 1365) dL_law_33 hr (by omega) (by omega) (by rw [hs]; rfl) (by decide) (law_lay hI h0 h7 hL' K)
    · exact SP.tableIn (tgt := 1408) dL_law_33 hr (by omega) (by omega) (by rw [hs]; rfl) (by decide) (law_read hI h0 h7 hL' K)
    · exact SP.tableIn (tgt := 1461) dL_law_33 hr (by omega) (by omega) (by rw [hs]; rfl) (by decide) (law_torn hI h0 h7 hL' K)
    · exact SP.tableIn (tgt := 1474) dL_law_33 hr (by omega) (by omega) (by rw [hs]; rfl) (by decide) (law_count hI h0 h7 hL' K)
theorem lawx_all (hL : G.2.2.2.2.2.1 ≤ 3584) : fp_SP l G 2048 0 0 0 203 5193 203 (kL nm) 0 [some (.ref G.1), none, none, none] [] (fp_w []) (fun r _ => r = some (iV 1)) := by
  suffices h : fp_SW l G 2048 0 0 0 203 5193 203 (kL nm) 0 [some (.ref G.1), none, none, none] [] [] (fun r _ => r = some (iV 1)) from h (fun q hq => (List.not_mem_nil hq).elim)
  refine SW.newO (pc' := 3) dL_law_0 rfl nL_7 rfl (n' := 1) (cs' := 1) (ss' := 14) rfl rfl rfl (by decide) (by decide) ?_
  refine SW.s (fun kk => SP.dup (pc' := 4) dL_law_3 rfl rfl kk) ?_
  refine SW.callI (pc' := 7) dL_law_4 rfl cL_9 mX11_init vX11_init rfl rfl (by decide) (n' := 177) (cs' := 177) (ss' := 2265) rfl rfl rfl (by decide) (by decide) (Nat.le_of_ble_eq_true rfl) c_FirstPut ?_
  refine SW.s (fun kk => SP.astore_n (LL' := [_, some (rV G 0), _, _]) (pc' := 8) dL_law_7 rfl (show 1 < 4 by decide) rfl rfl rfl kk) ?_
  refine SW.newO (pc' := 11) dL_law_8 rfl nL_10 rfl (n' := 178) (cs' := 178) (ss' := 2310) rfl rfl rfl (by decide) (by decide) ?_
  refine SW.s (fun kk => SP.dup (pc' := 12) dL_law_11 rfl rfl kk) ?_
  refine SW.callI (pc' := 15) dL_law_12 rfl cL_12 mX12_init vX12_init rfl rfl (by decide) (n' := 203) (cs' := 203) (ss' := 5193) rfl rfl rfl (by decide) (by decide) (Nat.le_of_ble_eq_true rfl) c_Model ?_
  refine SW.s (fun kk => SP.astore_n (LL' := [_, _, some (rV G 177), _]) (pc' := 16) dL_law_15 rfl (show 2 < 4 by decide) rfl rfl rfl kk) ?_
  refine SW.s (fun kk => SP.iconst (pc' := 17) dL_law_16 rfl kk) ?_
  refine SW.s (fun kk => SP.istore_n (LL' := [_, _, _, some (iV 0)]) (pc' := 18) dL_law_17 rfl (show 3 < 4 by decide) rfl rfl rfl kk) ?_
  intro _
  exact SP.eqM (fp_w0.trans fp_sx0.symm) (lawx_loop hL _ 0 fp_ini (Nat.lt_succ_self _) (by omega) (by omega) LI0)
end LWH
theorem whole_start {p : Program} {e : Env} {s : State} {m : MethodId} {below : List Frame} {meth : Method} {c : Code} (l : Launch) (hflags : l.flags = flags0) {b L : Nat} {xs : Nat → Int32} (hL : L ≤ 3584) (C0 : lw_At p s m meth c b L xs) : W p l e room_1 s m #[Value.ref b] below meth c s.heap [] 0 0 (lw_Z below #[Value.ref b] s) (entryFrame m ([Value.ref b] : List Value).toArray 4) :=
  fp_law_end l C0 (fun G h1 h2 => by subst h1; exact lawx_all (by rw [h2]; exact hL))
