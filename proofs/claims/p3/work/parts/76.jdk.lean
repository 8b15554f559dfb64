/-! String.length() and charAt(): by their own code -/
theorem jd_c {v : Int} (h : 0 ≤ v ∧ v < 128) : Int32.ofInt v &&& Int32.ofInt 255 = Int32.ofInt v ∧ ((Int32.ofInt v).toUInt32 % 65536).toInt32 = Int32.ofInt v ∧ narrow .char (iV v) = iV v := by
  obtain ⟨n, rfl⟩ := Int.eq_ofNat_of_zero_le h.1
  have q : ∀ n : Nat, n < 128 → Int32.ofInt (n : Int) &&& Int32.ofInt 255 = Int32.ofInt (n : Int) ∧ ((Int32.ofInt (n : Int)).toUInt32 % 65536).toInt32 = Int32.ofInt (n : Int) ∧ narrow .char (iV (n : Int)) = iV (n : Int) := by decide +kernel
  exact q n (by omega)
section JDK
variable {l : Launch} {G : fp_WG} {d : Nat} {Y : fp_MR} {pc pc' : Nat} {LL LL' : List (Option Value)} {st : List Value} {M : fp_Mem} {Q : fp_Q}
theorem S.withK (h : fp_K0 G → fp_S l G d Y pc LL st M Q) : fp_S l G d Y pc LL st M Q := fun p e s m args below meth c H locs ls C hR hL hl => h C.2.2.2.2.2.2.2.1 p e s m args below meth c H locs ls C hR hL hl
theorem S.i2c {a : Int} (hd : decode Y.2.1 pc = .ok (.i2c, 1)) (hp : pc + 1 = pc') (hv : ((Int32.ofInt a).toUInt32 % 65536).toInt32 = Int32.ofInt a) (k : fp_S l G d Y pc' LL (iV a :: st) M Q) : fp_S l G d Y pc LL (iV a :: st) M Q := by
  subst hp
  intro p e s m args below meth c H locs ls C hR hL hl
  exact lv_i2c C.1 C.2.1 hd hv (k p e s m args below meth c H locs ls C hR hL hl)
theorem S.nret {z : Int} {P : Int → fp_Mem → Prop} {ty : FieldType} (hd : decode Y.2.1 pc = .ok (.ireturn, 1)) (hr : Y.2.2.2 = some ty) (hz : narrow ty (iV z) = iV z) (h : P z M) : fp_S l G d Y pc LL [iV z] M (qI P) := SP.zret hd hr hz ⟨M, rfl, z, rfl, h⟩
theorem jd_compact (K : fp_K0 G) : va_Z "java/lang/String" "COMPACT_STRINGS" "Z" (iV 1) (fp_A G) G.2.1 G.2.1.heap := va_Zof (K.1 _ (List.mem_of_getElem? (i := 547) (by decide +kernel))) (K.1 _ (List.mem_of_getElem? (i := 93) (by decide +kernel))) (va_eqi (z := 1) (fp_flat K (by decide +kernel))) fp_A_no
theorem jd_form (K : fp_K0 G) : va_Z "jdk/internal/util/Preconditions" "SIOOBE_FORMATTER" "Ljava/util/function/BiFunction;" .null (fp_A G) G.2.1 G.2.1.heap ∨ ∃ t, va_Z "jdk/internal/util/Preconditions" "SIOOBE_FORMATTER" "Ljava/util/function/BiFunction;" (.ref t) (fp_A G) G.2.1 G.2.1.heap := va_Zqof (K.1 _ (List.mem_of_getElem? (i := 563) (by decide +kernel))) (K.1 _ (List.mem_of_getElem? (i := 95) (by decide +kernel))) (fp_flat K (by decide +kernel)) fp_A_no
theorem jd_fC : Cond.fieldLink RJ0 38 "java/lang/String" "COMPACT_STRINGS" "Z" ∈ lw_tbl := List.mem_of_getElem? (i := 546) (by decide +kernel)
theorem jd_fF : Cond.fieldLink RJ0 1053 "jdk/internal/util/Preconditions" "SIOOBE_FORMATTER" "Ljava/util/function/BiFunction;" ∈ lw_tbl := List.mem_of_getElem? (i := 562) (by decide +kernel)
theorem jd_fV : Cond.fieldLink RJ0 9 "java/lang/String" "value" "[B" ∈ lw_tbl := List.mem_of_getElem? (i := 1605) (by decide +kernel)
theorem jd_fK : Cond.fieldLink RJ0 15 "java/lang/String" "coder" "B" ∈ lw_tbl := List.mem_of_getElem? (i := 1606) (by decide +kernel)
theorem jd_coder {a : Nat} {w : List Int} (h : fp_St G a w) : fp_Ok l G 0 kJ0_coder_7d493 [.ref a] M (qE 0 M) := by
  obtain ⟨v, h1, h2, h3, h4⟩ := h
  refine fp_Ok.of (r := 0) rfl (Nat.le_of_ble_eq_true rfl) rfl (S.withK fun K => ?_)
  refine S.getsO (pc' := 3) (jd_compact K) dJ0_coder_7d493_0 rfl jd_fC ?_
  refine S.if_eq (tgt := 13) (pc' := 6) dJ0_coder_7d493_3 (by decide) rfl (by unfold fp_rng; decide) (fun h => absurd h (by decide)) (fun _ => ?_)
  refine S.aload_n (pc' := 7) dJ0_coder_7d493_6 rfl rfl rfl ?_
  refine S.getO (pc' := 10) h2 dJ0_coder_7d493_7 rfl jd_fK ?_
  refine S.goto (pc' := 14) dJ0_coder_7d493_10 (by decide) ?_
  exact S.nret (ty := .byte) dJ0_coder_7d493_14 rfl (by decide) ⟨rfl, rfl⟩
theorem jd_isLatin1 {a : Nat} {w : List Int} (h : fp_St G a w) : fp_Ok l G 0 kJ0_isLatin1_aae02 [.ref a] M (qE 1 M) := by
  obtain ⟨v, h1, h2, h3, h4⟩ := h
  refine fp_Ok.of (r := 0) rfl (Nat.le_of_ble_eq_true rfl) rfl (S.withK fun K => ?_)
  refine S.getsO (pc' := 3) (jd_compact K) dJ0_isLatin1_aae02_0 rfl jd_fC ?_
  refine S.if_eq (tgt := 17) (pc' := 6) dJ0_isLatin1_aae02_3 (by decide) rfl (by unfold fp_rng; decide) (fun h => absurd h (by decide)) (fun _ => ?_)
  refine S.aload_n (pc' := 7) dJ0_isLatin1_aae02_6 rfl rfl rfl ?_
  refine S.getO (pc' := 10) h2 dJ0_isLatin1_aae02_7 rfl jd_fK ?_
  refine S.if_ne (tgt := 17) (pc' := 13) dJ0_isLatin1_aae02_10 (by decide) rfl fp_rng0 (fun h => absurd rfl h) (fun _ => ?_)
  refine S.iconst (pc' := 14) dJ0_isLatin1_aae02_13 rfl ?_
  refine S.goto (pc' := 18) dJ0_isLatin1_aae02_14 (by decide) ?_
  exact S.zret dJ0_isLatin1_aae02_18 rfl (Or.inr rfl) ⟨rfl, rfl⟩
theorem jd_length {a : Nat} {w : List Int} (h : fp_St G a w) (hw : w.length ≤ 100) : fp_Ok l G 1 kJ0_length_8abf5 [.ref a] M (qE (w.length : Int) M) := by
  have h' := h
  obtain ⟨v, h1, h2, h3, h4⟩ := h
  refine fp_Ok.of (r := 0) rfl (Nat.le_of_ble_eq_true rfl) rfl ?_
  refine S.aload_n (pc' := 1) dJ0_length_8abf5_0 rfl rfl rfl ?_
  refine S.getO (pc' := 4) h3 dJ0_length_8abf5_1 rfl jd_fV ?_
  refine S.alenO (pc' := 5) h4 dJ0_length_8abf5_4 rfl ?_
  refine S.aload_n (pc' := 6) dJ0_length_8abf5_5 rfl rfl rfl ?_
  refine S.callO (pc' := 9) (Z := kJ0_coder_7d493) h1 dJ0_length_8abf5_6 rfl (List.mem_of_getElem? (i := 542) (by decide +kernel)) mJ0_coder_7d493 vJ0_coder_7d493 (jd_coder h') rfl (by decide) rfl (Nat.le_of_ble_eq_true rfl) ?_
  refine S.ishr (pc' := 10) (c9 := (w.length : Int)) dJ0_length_8abf5_9 rfl ?_ ?_
  · have q := fp_shrv (v := (w.length : Int)) (i := 0) (by omega) (by omega)
    simpa using q
  exact S.iret dJ0_length_8abf5_10 rfl ⟨rfl, rfl⟩
theorem jd_check3 {i n : Int} {v : Value} (hv : v = .null ∨ ∃ t, v = .ref t) (h0 : 0 ≤ i) (h1 : i < n) (hn : n ≤ 1000) : fp_Ok l G 0 kJ3_checkIndex_8e157 [iV i, iV n, v] M (qE i M) := by
  have key : fp_S l G 0 kJ3_checkIndex_8e157 0 [some (iV i), some (iV n), some v] [] M (qE i M) := by
    refine S.iload_n (pc' := 1) dJ3_checkIndex_8e157_0 rfl rfl rfl ?_
    refine S.if_lt (tgt := 9) (pc' := 4) dJ3_checkIndex_8e157_1 (by decide) rfl (by unfold fp_rng; omega) (fun h => absurd h (by omega)) (fun _ => ?_)
    refine S.iload_n (pc' := 5) dJ3_checkIndex_8e157_4 rfl rfl rfl ?_
    refine S.iload_n (pc' := 6) dJ3_checkIndex_8e157_5 rfl rfl rfl ?_
    refine S.icmp_lt (tgt := 16) (pc' := 9) dJ3_checkIndex_8e157_6 (by decide) rfl (by unfold fp_rng; omega) (by unfold fp_rng; omega) (fun _ => ?_) (fun h => absurd (by omega) h)
    refine S.iload_n (pc' := 17) dJ3_checkIndex_8e157_16 rfl rfl rfl ?_
    exact S.iret dJ3_checkIndex_8e157_17 rfl ⟨rfl, rfl⟩
  rcases hv with rfl | ⟨t, rfl⟩
  · exact fp_Ok.of (r := 0) rfl (Nat.le_of_ble_eq_true rfl) rfl key
  · exact fp_Ok.of (r := 0) rfl (Nat.le_of_ble_eq_true rfl) rfl key
theorem jd_check {i n : Int} (h0 : 0 ≤ i) (h1 : i < n) (hn : n ≤ 1000) : fp_Ok l G 1 kJ0_checkIndex_df160 [iV i, iV n] M (qW M) := by
  refine fp_Ok.of (r := 0) rfl (Nat.le_of_ble_eq_true rfl) rfl (S.withK fun K => ?_)
  refine S.iload_n (pc' := 1) dJ0_checkIndex_df160_0 rfl rfl rfl ?_
  refine S.iload_n (pc' := 2) dJ0_checkIndex_df160_1 rfl rfl rfl ?_
  rcases jd_form K with h | ⟨t, h⟩
  · refine S.getsO (pc' := 5) h dJ0_checkIndex_df160_2 rfl jd_fF ?_
    refine S.callSe (pc' := 8) dJ0_checkIndex_df160_5 rfl cJ0_1059 (jd_check3 (Or.inl rfl) h0 h1 hn) rfl (by decide) rfl (Nat.le_of_ble_eq_true rfl) ?_
    refine S.pop (pc' := 9) dJ0_checkIndex_df160_8 rfl rfl ?_
    exact S.vret dJ0_checkIndex_df160_9 rfl rfl
  · refine S.getsO (pc' := 5) h dJ0_checkIndex_df160_2 rfl jd_fF ?_
    refine S.callSe (pc' := 8) dJ0_checkIndex_df160_5 rfl cJ0_1059 (jd_check3 (Or.inr ⟨t, rfl⟩) h0 h1 hn) rfl (by decide) rfl (Nat.le_of_ble_eq_true rfl) ?_
    refine S.pop (pc' := 9) dJ0_checkIndex_df160_8 rfl rfl ?_
    exact S.vret dJ0_checkIndex_df160_9 rfl rfl
theorem jd_charAt {a : Nat} {w : List Int} {i : Int} (h : fp_St G a w) (hw : w.length ≤ 100) (h0 : 0 ≤ i) (h1 : i < w.length) (hb : 0 ≤ w.getD i.toNat 0 ∧ w.getD i.toNat 0 < 128) : fp_Ok l G 3 kJ0_charAt_5068e [.ref a, iV i] M (qE (w.getD i.toNat 0) M) := by
  have h' := h
  obtain ⟨v, k1, k2, k3, k4⟩ := h
  obtain ⟨c1, c2, c3⟩ := jd_c hb
  have inner : fp_Ok l G 2 kJ1_charAt_3b067 [.ref v, iV i] M (qE (w.getD i.toNat 0) M) := by
    refine fp_Ok.of (r := 0) rfl (Nat.le_of_ble_eq_true rfl) rfl ?_
    refine S.iload_n (pc' := 1) dJ1_charAt_3b067_0 rfl rfl rfl ?_
    refine S.aload_n (pc' := 2) dJ1_charAt_3b067_1 rfl rfl rfl ?_
    refine S.alenO (pc' := 3) k4 dJ1_charAt_3b067_2 rfl ?_
    refine S.callSw (pc' := 6) dJ1_charAt_3b067_3 rfl cJ1_9 (jd_check h0 h1 (by omega)) rfl (by decide) rfl (Nat.le_of_ble_eq_true rfl) ?_
    refine S.aload_n (pc' := 7) dJ1_charAt_3b067_6 rfl rfl rfl ?_
    refine S.iload_n (pc' := 8) dJ1_charAt_3b067_7 rfl rfl rfl ?_
    refine S.baldO (pc' := 9) k4 dJ1_charAt_3b067_8 rfl h0 h1 (by omega) ?_
    refine S.sipush (pc' := 12) dJ1_charAt_3b067_9 rfl rfl ?_
    refine S.iand (pc' := 13) dJ1_charAt_3b067_12 rfl c1 ?_
    refine S.i2c (pc' := 14) dJ1_charAt_3b067_13 rfl c2 ?_
    exact S.nret (ty := .char) dJ1_charAt_3b067_14 rfl c3 ⟨rfl, rfl⟩
  refine fp_Ok.of (r := 0) rfl (Nat.le_of_ble_eq_true rfl) rfl ?_
  refine S.aload_n (pc' := 1) dJ0_charAt_5068e_0 rfl rfl rfl ?_
  refine S.callO (pc' := 4) (Z := kJ0_isLatin1_aae02) k1 dJ0_charAt_5068e_1 rfl (List.mem_of_getElem? (i := 552) (by decide +kernel)) mJ0_isLatin1_aae02 vJ0_isLatin1_aae02 (jd_isLatin1 h') rfl (by decide) rfl (Nat.le_of_ble_eq_true rfl) ?_
  refine S.if_eq (tgt := 16) (pc' := 7) dJ0_charAt_5068e_4 (by decide) rfl (by unfold fp_rng; decide) (fun h => absurd h (by decide)) (fun _ => ?_)
  refine S.aload_n (pc' := 8) dJ0_charAt_5068e_7 rfl rfl rfl ?_
  refine S.getO (pc' := 11) k3 dJ0_charAt_5068e_8 rfl jd_fV ?_
  refine S.iload_n (pc' := 12) dJ0_charAt_5068e_11 rfl rfl rfl ?_
  refine S.callSe (pc' := 15) dJ0_charAt_5068e_12 rfl cJ0_495 inner rfl (by decide) rfl (Nat.le_of_ble_eq_true rfl) ?_
  exact S.nret (ty := .char) dJ0_charAt_5068e_15 rfl c3 ⟨rfl, rfl⟩
end JDK
