/-! A VISIT TOLD IN A TEXT: the class -/
def pFin (tp : List Int) (s : Int) (D : pD) : Int ⊕ (Int × pD) := if ¬ spOk tp s then .inl (tkS tp s) else .inr (nxt tp s, D)
def pAdd (D : pD) (v : aVt) : pD := (D.1, D.2.1, D.2.2.1, D.2.2.2.1, D.2.2.2.2.1, D.2.2.2.2.2 ++ [v])
def pVisit (tp : List Int) (st s put : Int) (D : pD) : Int ⊕ (Int × pD) := if 12 ≤ D.2.2.2.2.2.length then .inl st else if ¬ nmOk tp s (aLast D.2.2.2.2.2) 99 then .inl (tkS tp s) else if ¬ nmOk tp (nxt tp s) 0 3 then .inl (tkS tp (nxt tp s)) else if ¬ nmOk tp (nxt tp (nxt tp s)) 0 2 then .inl (tkS tp (nxt tp (nxt tp s))) else
  if put = 0 then pFin tp (nxt tp (nxt tp (nxt tp s))) (pAdd D (num tp s, num tp (nxt tp s), num tp (nxt tp (nxt tp s)), -4)) else if ¬ nmOk tp (nxt tp (nxt tp (nxt tp s))) 0 9 then .inl (tkS tp (nxt tp (nxt tp (nxt tp s)))) else pFin tp (nxt tp (nxt tp (nxt tp (nxt tp s)))) (pAdd D (num tp s, num tp (nxt tp s), num tp (nxt tp (nxt tp s)), num tp (nxt tp (nxt tp (nxt tp s)))))
section VIS
variable {l : Launch} {G : fp_WG} {M N : fp_Mem} {tp : List Int} {D : pD} {s st : Int}
theorem lnP_no {r : Int ⊕ (Int × pD)} {h : Int} (hf : fR M N) (hT : rdT N tp) (hI : rdI N) (hr : r = .inl h) (hfl : flt N h) : lnP tp M N r 0 := ⟨hf, hT, hI, Or.inl ⟨h, hr, rfl, hfl⟩⟩
/-- the last of a line: its STOP -/
theorem lnP_fin {O : fp_Mem} {D' : pD} {z : Int} (hf : fR M N) (hT : rdT N tp) (hI : rdI N) (h3 : N 2 3 = 0) (hd : rdD N D') (q : spP tp N O s z) : lnP tp M O (pFin tp s D') z := by
  obtain ⟨f, b⟩ := q
  refine ⟨hf.trans f.R, f.T hT, f.I hI, ?_⟩
  unfold pFin
  rcases b with b | b
  · rw [if_neg (fun q => q b.1)]
    exact Or.inr ⟨_, rfl, b.2.1, b.2.2.1, by rw [b.2.2.2]; exact h3, f.D hd⟩
  · rw [if_pos b.1]
    exact Or.inl ⟨_, rfl, b.2.1, b.2.2⟩
theorem spP_z {O : fp_Mem} {z : Int} (q : spP tp N O s z) : z = 0 ∨ z = 1 := by
  rcases q.2 with b | b
  · exact Or.inr b.2.1
  · exact Or.inl b.2.1
theorem aLast_in2 {vs : List aVt} (h : ∀ v ∈ vs, vtOk v) : 0 ≤ aLast vs ∧ aLast vs ≤ 99 := by
  unfold aLast
  split
  · omega
  · rename_i hne
    have hl : 0 < vs.length := by omega
    have hm : vs.getD (vs.length - 1) aV0 ∈ vs := by
      rw [List.getD_eq_getElem?_getD, List.getElem?_eq_getElem (by omega)]
      exact List.getElem_mem _
    exact (h _ hm).1
theorem vis_D {v : aVt} (hd : rdD M D) (h : ∀ a, (a < 12 ∨ 12 + 4 < a) → N a = M a) (hv : vsIs N 12 (D.2.2.2.2.2 ++ [v])) : rdD N (pAdd D v) := by
  obtain ⟨h1, h2, h3, h4, h5⟩ := hd
  refine ⟨?_, ?_, hv, by rw [h 2 (by omega)]; exact h4, by rw [h 2 (by omega)]; exact h5⟩
  · unfold rdG at *
    rw [h 3 (by omega), h 4 (by omega), h 5 (by omega), h 6 (by omega)]
    exact h1
  · unfold rdP at *
    rw [h 8 (by omega), h 9 (by omega), h 10 (by omega), h 11 (by omega)]
    exact h2
theorem vis_tail {put day p x t s' : Int} (hput : (put = 0 ∧ t = -4) ∨ (put = 1 ∧ N 2 10 = t)) (ht : tpOk tp) (hf : fR M N) (hm : rdT N tp) (hs : N 2 7 = s') (h0 : 0 ≤ s') (h1 : s' ≤ (tp.length : Int)) (h3 : N 2 3 = 0) (hd : rdD N D) (hl : D.2.2.2.2.2.length < 12) (hi : rdI N) : fp_S l G 3 kX6_readVisit 94 [some (rV G 2), some (iV put), some (iV day), some (iV p), some (iV x)] [] N (qI fun z O => lnP tp M O (pFin tp s' (pAdd D (day, p, x, t))) z) := by
  have hv := hd.2.2.1
  refine S.aload_n (pc' := 95) dX6_readVisit_94 rfl rfl rfl ?_
  refine S.getR (pc' := 98) dX6_readVisit_95 rfl fX6_28 L_2 rf_2_2 ?_
  refine S.iload_n (pc' := 99) dX6_readVisit_98 rfl rfl rfl ?_
  refine S.iload_n (pc' := 100) dX6_readVisit_99 rfl rfl rfl ?_
  refine S.iload (pc' := 102) dX6_readVisit_100 rfl rfl ?_
  refine S.iload_n (pc' := 103) dX6_readVisit_102 rfl rfl rfl ?_
  refine S.if_eq (pc' := 106) (tgt := 113) dX6_readVisit_103 (by decide) rfl (by unfold fp_rng; omega) (fun h103 => ?_) (fun h103 => ?_)
  · refine S.bipush (pc' := 115) dX6_readVisit_113 rfl (by decide) ?_
    refine S.callVi (pc' := 118) dX6_readVisit_115 rfl cX6_173 (rk_X10_add (vs := D.2.2.2.2.2) vs12 hv) rfl (vs_lay vs12) (by decide) rfl (Nat.le_of_ble_eq_true rfl) (fun z115 M115 q115 => ?_)
    obtain ⟨a1, a2, a3⟩ := q115
    rw [if_neg (by omega)] at a2
    refine S.pop (pc' := 119) dX6_readVisit_118 rfl rfl ?_
    have hm' : rdT M115 tp := ⟨by rw [a3 2 (by omega)]; exact hm.1, by rw [a3 2 (by omega)]; exact hm.2.1, fun i i0 i1 => by rw [a3 1 (by omega)]; exact hm.2.2 i i0 i1⟩
    refine S.aload_n (pc' := 120) dX6_readVisit_119 rfl rfl rfl ?_
    refine S.callVi (pc' := 123) dX6_readVisit_120 rfl cX6_145 (rk_X6_readStop (s := s') ht hm' (by rw [a3 2 (by omega)]; exact hs) h0 h1) rfl L_2 (by decide) rfl (Nat.le_of_ble_eq_true rfl) (fun z120 M120 q120 => ?_)
    refine S.zret dX6_readVisit_123 rfl (spP_z q120) ?_
    rcases hput with ⟨e1, e2⟩ | ⟨e1, e2⟩
    · first
      | (exfalso; omega)
      | (subst e2; exact lnP_fin (hf.trans (fun a ha => a3 a (by omega))) hm' (hi.kept (a3 4 (by omega)) (a3 5 (by omega)) (a3 6 (by omega)) (a3 11 (by omega))) (by rw [a3 2 (by omega)]; exact h3) (vis_D hd a3 a2) q120)
    · first
      | (exfalso; omega)
      | (rw [e2] at a2; exact lnP_fin (hf.trans (fun a ha => a3 a (by omega))) hm' (hi.kept (a3 4 (by omega)) (a3 5 (by omega)) (a3 6 (by omega)) (a3 11 (by omega))) (by rw [a3 2 (by omega)]; exact h3) (vis_D hd a3 a2) q120)
  · refine S.aload_n (pc' := 107) dX6_readVisit_106 rfl rfl rfl ?_
    refine S.getI (pc' := 110) dX6_readVisit_107 rfl fX6_86 L_2 ?_
    refine S.goto (pc' := 115) dX6_readVisit_110 (by decide) ?_
    refine S.callVi (pc' := 118) dX6_readVisit_115 rfl cX6_173 (rk_X10_add (vs := D.2.2.2.2.2) vs12 hv) rfl (vs_lay vs12) (by decide) rfl (Nat.le_of_ble_eq_true rfl) (fun z115 M115 q115 => ?_)
    obtain ⟨a1, a2, a3⟩ := q115
    rw [if_neg (by omega)] at a2
    refine S.pop (pc' := 119) dX6_readVisit_118 rfl rfl ?_
    have hm' : rdT M115 tp := ⟨by rw [a3 2 (by omega)]; exact hm.1, by rw [a3 2 (by omega)]; exact hm.2.1, fun i i0 i1 => by rw [a3 1 (by omega)]; exact hm.2.2 i i0 i1⟩
    refine S.aload_n (pc' := 120) dX6_readVisit_119 rfl rfl rfl ?_
    refine S.callVi (pc' := 123) dX6_readVisit_120 rfl cX6_145 (rk_X6_readStop (s := s') ht hm' (by rw [a3 2 (by omega)]; exact hs) h0 h1) rfl L_2 (by decide) rfl (Nat.le_of_ble_eq_true rfl) (fun z120 M120 q120 => ?_)
    refine S.zret dX6_readVisit_123 rfl (spP_z q120) ?_
    rcases hput with ⟨e1, e2⟩ | ⟨e1, e2⟩
    · first
      | (exfalso; omega)
      | (subst e2; exact lnP_fin (hf.trans (fun a ha => a3 a (by omega))) hm' (hi.kept (a3 4 (by omega)) (a3 5 (by omega)) (a3 6 (by omega)) (a3 11 (by omega))) (by rw [a3 2 (by omega)]; exact h3) (vis_D hd a3 a2) q120)
    · first
      | (exfalso; omega)
      | (rw [e2] at a2; exact lnP_fin (hf.trans (fun a ha => a3 a (by omega))) hm' (hi.kept (a3 4 (by omega)) (a3 5 (by omega)) (a3 6 (by omega)) (a3 11 (by omega))) (by rw [a3 2 (by omega)]; exact h3) (vis_D hd a3 a2) q120)
theorem rk_X6_readVisit {put : Int} (hput : put = 0 ∨ put = 1) (ht : tpOk tp) (hm : rdT M tp) (hs : M 2 7 = s) (h0 : 0 ≤ s) (h1 : s ≤ (tp.length : Int)) (h9 : M 2 9 = st) (h3 : M 2 3 = 0) (hd : rdD M D) (hD : dOk D) (hi : rdI M) : fp_Ok l G 3 kX6_readVisit [rV G 2, iV put] M (qI fun z N => lnP tp M N (pVisit tp st s put D) z) := by
  refine fp_Ok.of (r := 3) rfl (Nat.le_of_ble_eq_true rfl) rfl ?_
  have hx := nxt_le h1
  have hx2 := nxt_le hx.2
  have hx3 := nxt_le hx2.2
  have hx4 := nxt_le hx3.2
  have hv := hd.2.2.1
  have hvl := hD.2.2.2.2.2.2.1
  have e12 : M 12 0 = (D.2.2.2.2.2.length : Int) := hv.1
  have hla : 0 ≤ aLast D.2.2.2.2.2 ∧ aLast D.2.2.2.2.2 ≤ 99 := aLast_in2 hD.2.2.2.2.2.2.2
  unfold pVisit
  by_cases h12 : 12 ≤ D.2.2.2.2.2.length
  · rw [if_pos h12]
    refine S.aload_n (pc' := 1) dX6_readVisit_0 rfl rfl rfl ?_
    refine S.getR (pc' := 4) dX6_readVisit_1 rfl fX6_28 L_2 rf_2_2 ?_
    refine S.getI (pc' := 7) dX6_readVisit_4 rfl fX6_57 (vs_lay vs12) ?_
    refine S.bipush (pc' := 9) dX6_readVisit_7 rfl (by decide) ?_
    rw [e12]
    refine S.icmp_lt (pc' := 12) (tgt := 22) dX6_readVisit_9 (by decide) rfl (by unfold fp_rng; omega) (by unfold fp_rng; omega) (fun k9 => ?_) (fun k9 => ?_)
    · exfalso; omega
    · refine S.aload_n (pc' := 13) dX6_readVisit_12 rfl rfl rfl ?_
      refine S.iconst (pc' := 14) dX6_readVisit_13 rfl ?_
      refine S.aload_n (pc' := 15) dX6_readVisit_14 rfl rfl rfl ?_
      refine S.getI (pc' := 18) dX6_readVisit_15 rfl fX6_76 L_2 ?_
      rw [h9]
      refine S.callVe (pc' := 21) dX6_readVisit_18 rfl cX6_89 ok_X6_refuse rfl L_2 (by decide) rfl (Nat.le_of_ble_eq_true rfl) ?_
      refine S.zret dX6_readVisit_21 rfl (Or.inl rfl) ?_
      exact lnP_no (fun a ha => by rw [fp_up_ne (by omega), fp_up_ne (by omega)]) ((hm.up (by decide) (by decide)).up (by decide) (by decide)) (hi.kept rfl rfl rfl rfl) rfl (flt_refuse (by omega))
  · rw [if_neg h12]
    rcases hput with rfl | rfl
    · rw [if_pos rfl]
      refine S.aload_n (pc' := 1) dX6_readVisit_0 rfl rfl rfl ?_
      refine S.getR (pc' := 4) dX6_readVisit_1 rfl fX6_28 L_2 rf_2_2 ?_
      refine S.getI (pc' := 7) dX6_readVisit_4 rfl fX6_57 (vs_lay vs12) ?_
      refine S.bipush (pc' := 9) dX6_readVisit_7 rfl (by decide) ?_
      rw [e12]
      refine S.icmp_lt (pc' := 12) (tgt := 22) dX6_readVisit_9 (by decide) rfl (by unfold fp_rng; omega) (by unfold fp_rng; omega) (fun k9 => ?_) (fun k9 => ?_)
      · refine S.aload_n (pc' := 23) dX6_readVisit_22 rfl rfl rfl ?_
        refine S.aload_n (pc' := 24) dX6_readVisit_23 rfl rfl rfl ?_
        refine S.getR (pc' := 27) dX6_readVisit_24 rfl fX6_28 L_2 rf_2_2 ?_
        refine S.callVe (pc' := 30) dX6_readVisit_27 rfl cX6_170 (rk_X10_lastDay vs12 hv) rfl (vs_lay vs12) (by decide) rfl (Nat.le_of_ble_eq_true rfl) ?_
        refine S.bipush (pc' := 32) dX6_readVisit_30 rfl (by decide) ?_
        refine S.callVi (pc' := 35) dX6_readVisit_32 rfl cX6_132 (rk_X6_readNumber ht hm hs h0 h1 (by unfold fp_rng; omega) (by unfold fp_rng; omega)) rfl L_2 (by decide) rfl (Nat.le_of_ble_eq_true rfl) (fun z32 M32 q32 => ?_)
        obtain ⟨f32, b32⟩ := q32
        refine S.if_ne (pc' := 38) (tgt := 40) dX6_readVisit_35 (by decide) rfl (by rcases b32 with b | b <;> (unfold fp_rng; omega)) (fun h35 => ?_) (fun h35 => ?_)
        · rcases b32 with ⟨b1, b2, b3, b4, b5⟩ | b
          rotate_left
          · exfalso; omega
          rw [if_neg (fun q => q b1)]
          refine S.aload_n (pc' := 41) dX6_readVisit_40 rfl rfl rfl ?_
          refine S.getI (pc' := 44) dX6_readVisit_41 rfl fX6_86 L_2 ?_
          rw [b3]
          refine S.istore_n (pc' := 45) (LL' := [_, _, _, _, _]) dX6_readVisit_44 rfl (by decide) rfl rfl rfl ?_
          refine S.aload_n (pc' := 46) dX6_readVisit_45 rfl rfl rfl ?_
          refine S.iconst (pc' := 47) dX6_readVisit_46 rfl ?_
          refine S.iconst (pc' := 48) dX6_readVisit_47 rfl ?_
          refine S.callVi (pc' := 51) dX6_readVisit_48 rfl cX6_132 (rk_X6_readNumber (s := nxt tp s) ht (f32.T hm) b4 (by omega) (by omega) (by unfold fp_rng; omega) (by unfold fp_rng; omega)) rfl L_2 (by decide) rfl (Nat.le_of_ble_eq_true rfl) (fun z48 M48 q48 => ?_)
          obtain ⟨g48, b48⟩ := q48
          have f48 := f32.trans g48
          refine S.if_ne (pc' := 54) (tgt := 56) dX6_readVisit_51 (by decide) rfl (by rcases b48 with b | b <;> (unfold fp_rng; omega)) (fun h51 => ?_) (fun h51 => ?_)
          · rcases b48 with ⟨c1, c2, c3, c4, c5⟩ | b
            rotate_left
            · exfalso; omega
            rw [if_neg (fun q => q c1)]
            refine S.aload_n (pc' := 57) dX6_readVisit_56 rfl rfl rfl ?_
            refine S.getI (pc' := 60) dX6_readVisit_57 rfl fX6_86 L_2 ?_
            rw [c3]
            refine S.istore_n (pc' := 61) (LL' := [_, _, _, _, _]) dX6_readVisit_60 rfl (by decide) rfl rfl rfl ?_
            refine S.aload_n (pc' := 62) dX6_readVisit_61 rfl rfl rfl ?_
            refine S.iconst (pc' := 63) dX6_readVisit_62 rfl ?_
            refine S.iconst (pc' := 64) dX6_readVisit_63 rfl ?_
            refine S.callVi (pc' := 67) dX6_readVisit_64 rfl cX6_132 (rk_X6_readNumber (s := nxt tp (nxt tp s)) ht (f48.T hm) c4 (by omega) (by omega) (by unfold fp_rng; omega) (by unfold fp_rng; omega)) rfl L_2 (by decide) rfl (Nat.le_of_ble_eq_true rfl) (fun z64 M64 q64 => ?_)
            obtain ⟨g64, b64⟩ := q64
            have f64 := f48.trans g64
            refine S.if_ne (pc' := 70) (tgt := 72) dX6_readVisit_67 (by decide) rfl (by rcases b64 with b | b <;> (unfold fp_rng; omega)) (fun h67 => ?_) (fun h67 => ?_)
            · rcases b64 with ⟨d1, d2, d3, d4, d5⟩ | b
              rotate_left
              · exfalso; omega
              rw [if_neg (fun q => q d1)]
              refine S.aload_n (pc' := 73) dX6_readVisit_72 rfl rfl rfl ?_
              refine S.getI (pc' := 76) dX6_readVisit_73 rfl fX6_86 L_2 ?_
              rw [d3]
              refine S.istore (pc' := 78) (LL' := [_, _, _, _, _]) dX6_readVisit_76 rfl (by decide) rfl rfl ?_
              refine S.iload_n (pc' := 79) dX6_readVisit_78 rfl rfl rfl ?_
              refine S.if_eq (pc' := 82) (tgt := 94) dX6_readVisit_79 (by decide) rfl (by unfold fp_rng; omega) (fun h79 => ?_) (fun h79 => ?_)
              · exact vis_tail (Or.inl ⟨rfl, rfl⟩) ht f64.R (f64.T hm) d4 (by omega) (by omega) (by rw [d5, c5, b5]; exact h3) (f64.D hd) (by omega) (f64.I hi)
              · exact absurd rfl h79
            · refine S.iconst (pc' := 71) dX6_readVisit_70 rfl ?_
              refine S.zret dX6_readVisit_71 rfl (by first | exact Or.inl rfl | exact Or.inr rfl | omega) ?_
              rcases b64 with b | b
              · exfalso; omega
              · rw [if_pos b.1]; exact lnP_no f64.R (f64.T hm) (f64.I hi) rfl b.2.2
          · refine S.iconst (pc' := 55) dX6_readVisit_54 rfl ?_
            refine S.zret dX6_readVisit_55 rfl (by first | exact Or.inl rfl | exact Or.inr rfl | omega) ?_
            rcases b48 with b | b
            · exfalso; omega
            · rw [if_pos b.1]; exact lnP_no f48.R (f48.T hm) (f48.I hi) rfl b.2.2
        · refine S.iconst (pc' := 39) dX6_readVisit_38 rfl ?_
          refine S.zret dX6_readVisit_39 rfl (by first | exact Or.inl rfl | exact Or.inr rfl | omega) ?_
          rcases b32 with b | b
          · exfalso; omega
          · rw [if_pos b.1]; exact lnP_no f32.R (f32.T hm) (f32.I hi) rfl b.2.2
      · exfalso; omega
    · rw [if_neg (show ¬ (1 : Int) = 0 by decide)]
      refine S.aload_n (pc' := 1) dX6_readVisit_0 rfl rfl rfl ?_
      refine S.getR (pc' := 4) dX6_readVisit_1 rfl fX6_28 L_2 rf_2_2 ?_
      refine S.getI (pc' := 7) dX6_readVisit_4 rfl fX6_57 (vs_lay vs12) ?_
      refine S.bipush (pc' := 9) dX6_readVisit_7 rfl (by decide) ?_
      rw [e12]
      refine S.icmp_lt (pc' := 12) (tgt := 22) dX6_readVisit_9 (by decide) rfl (by unfold fp_rng; omega) (by unfold fp_rng; omega) (fun k9 => ?_) (fun k9 => ?_)
      · refine S.aload_n (pc' := 23) dX6_readVisit_22 rfl rfl rfl ?_
        refine S.aload_n (pc' := 24) dX6_readVisit_23 rfl rfl rfl ?_
        refine S.getR (pc' := 27) dX6_readVisit_24 rfl fX6_28 L_2 rf_2_2 ?_
        refine S.callVe (pc' := 30) dX6_readVisit_27 rfl cX6_170 (rk_X10_lastDay vs12 hv) rfl (vs_lay vs12) (by decide) rfl (Nat.le_of_ble_eq_true rfl) ?_
        refine S.bipush (pc' := 32) dX6_readVisit_30 rfl (by decide) ?_
        refine S.callVi (pc' := 35) dX6_readVisit_32 rfl cX6_132 (rk_X6_readNumber ht hm hs h0 h1 (by unfold fp_rng; omega) (by unfold fp_rng; omega)) rfl L_2 (by decide) rfl (Nat.le_of_ble_eq_true rfl) (fun z32 M32 q32 => ?_)
        obtain ⟨f32, b32⟩ := q32
        refine S.if_ne (pc' := 38) (tgt := 40) dX6_readVisit_35 (by decide) rfl (by rcases b32 with b | b <;> (unfold fp_rng; omega)) (fun h35 => ?_) (fun h35 => ?_)
        · rcases b32 with ⟨b1, b2, b3, b4, b5⟩ | b
          rotate_left
          · exfalso; omega
          rw [if_neg (fun q => q b1)]
          refine S.aload_n (pc' := 41) dX6_readVisit_40 rfl rfl rfl ?_
          refine S.getI (pc' := 44) dX6_readVisit_41 rfl fX6_86 L_2 ?_
          rw [b3]
          refine S.istore_n (pc' := 45) (LL' := [_, _, _, _, _]) dX6_readVisit_44 rfl (by decide) rfl rfl rfl ?_
          refine S.aload_n (pc' := 46) dX6_readVisit_45 rfl rfl rfl ?_
          refine S.iconst (pc' := 47) dX6_readVisit_46 rfl ?_
          refine S.iconst (pc' := 48) dX6_readVisit_47 rfl ?_
          refine S.callVi (pc' := 51) dX6_readVisit_48 rfl cX6_132 (rk_X6_readNumber (s := nxt tp s) ht (f32.T hm) b4 (by omega) (by omega) (by unfold fp_rng; omega) (by unfold fp_rng; omega)) rfl L_2 (by decide) rfl (Nat.le_of_ble_eq_true rfl) (fun z48 M48 q48 => ?_)
          obtain ⟨g48, b48⟩ := q48
          have f48 := f32.trans g48
          refine S.if_ne (pc' := 54) (tgt := 56) dX6_readVisit_51 (by decide) rfl (by rcases b48 with b | b <;> (unfold fp_rng; omega)) (fun h51 => ?_) (fun h51 => ?_)
          · rcases b48 with ⟨c1, c2, c3, c4, c5⟩ | b
            rotate_left
            · exfalso; omega
            rw [if_neg (fun q => q c1)]
            refine S.aload_n (pc' := 57) dX6_readVisit_56 rfl rfl rfl ?_
            refine S.getI (pc' := 60) dX6_readVisit_57 rfl fX6_86 L_2 ?_
            rw [c3]
            refine S.istore_n (pc' := 61) (LL' := [_, _, _, _, _]) dX6_readVisit_60 rfl (by decide) rfl rfl rfl ?_
            refine S.aload_n (pc' := 62) dX6_readVisit_61 rfl rfl rfl ?_
            refine S.iconst (pc' := 63) dX6_readVisit_62 rfl ?_
            refine S.iconst (pc' := 64) dX6_readVisit_63 rfl ?_
            refine S.callVi (pc' := 67) dX6_readVisit_64 rfl cX6_132 (rk_X6_readNumber (s := nxt tp (nxt tp s)) ht (f48.T hm) c4 (by omega) (by omega) (by unfold fp_rng; omega) (by unfold fp_rng; omega)) rfl L_2 (by decide) rfl (Nat.le_of_ble_eq_true rfl) (fun z64 M64 q64 => ?_)
            obtain ⟨g64, b64⟩ := q64
            have f64 := f48.trans g64
            refine S.if_ne (pc' := 70) (tgt := 72) dX6_readVisit_67 (by decide) rfl (by rcases b64 with b | b <;> (unfold fp_rng; omega)) (fun h67 => ?_) (fun h67 => ?_)
            · rcases b64 with ⟨d1, d2, d3, d4, d5⟩ | b
              rotate_left
              · exfalso; omega
              rw [if_neg (fun q => q d1)]
              refine S.aload_n (pc' := 73) dX6_readVisit_72 rfl rfl rfl ?_
              refine S.getI (pc' := 76) dX6_readVisit_73 rfl fX6_86 L_2 ?_
              rw [d3]
              refine S.istore (pc' := 78) (LL' := [_, _, _, _, _]) dX6_readVisit_76 rfl (by decide) rfl rfl ?_
              refine S.iload_n (pc' := 79) dX6_readVisit_78 rfl rfl rfl ?_
              refine S.if_eq (pc' := 82) (tgt := 94) dX6_readVisit_79 (by decide) rfl (by unfold fp_rng; omega) (fun h79 => ?_) (fun h79 => ?_)
              · first
                | exact absurd h79 (by decide)
                | (rcases b86 with ⟨e1, e2, e3, e4, e5⟩ | b; rotate_left; (exfalso; omega); rw [if_neg (fun q => q e1)]; exact vis_tail (Or.inr ⟨rfl, e3⟩) ht f86.R (f86.T hm) e4 (by omega) (by omega) (by rw [e5, d5, c5, b5]; exact h3) (f86.D hd) (by omega) (f86.I hi))
              · refine S.aload_n (pc' := 83) dX6_readVisit_82 rfl rfl rfl ?_
                refine S.iconst (pc' := 84) dX6_readVisit_83 rfl ?_
                refine S.bipush (pc' := 86) dX6_readVisit_84 rfl (by decide) ?_
                refine S.callVi (pc' := 89) dX6_readVisit_86 rfl cX6_132 (rk_X6_readNumber (s := nxt tp (nxt tp (nxt tp s))) ht (f64.T hm) d4 (by omega) (by omega) (by unfold fp_rng; omega) (by unfold fp_rng; omega)) rfl L_2 (by decide) rfl (Nat.le_of_ble_eq_true rfl) (fun z86 M86 q86 => ?_)
                obtain ⟨g86, b86⟩ := q86
                have f86 := f64.trans g86
                refine S.if_ne (pc' := 92) (tgt := 94) dX6_readVisit_89 (by decide) rfl (by rcases b86 with b | b <;> (unfold fp_rng; omega)) (fun h89 => ?_) (fun h89 => ?_)
                · first
                  | exact absurd h79 (by decide)
                  | (rcases b86 with ⟨e1, e2, e3, e4, e5⟩ | b; rotate_left; (exfalso; omega); rw [if_neg (fun q => q e1)]; exact vis_tail (Or.inr ⟨rfl, e3⟩) ht f86.R (f86.T hm) e4 (by omega) (by omega) (by rw [e5, d5, c5, b5]; exact h3) (f86.D hd) (by omega) (f86.I hi))
                · refine S.iconst (pc' := 93) dX6_readVisit_92 rfl ?_
                  refine S.zret dX6_readVisit_93 rfl (by first | exact Or.inl rfl | exact Or.inr rfl | omega) ?_
                  rcases b86 with b | b
                  · exfalso; omega
                  · rw [if_pos b.1]; exact lnP_no f86.R (f86.T hm) (f86.I hi) rfl b.2.2
            · refine S.iconst (pc' := 71) dX6_readVisit_70 rfl ?_
              refine S.zret dX6_readVisit_71 rfl (by first | exact Or.inl rfl | exact Or.inr rfl | omega) ?_
              rcases b64 with b | b
              · exfalso; omega
              · rw [if_pos b.1]; exact lnP_no f64.R (f64.T hm) (f64.I hi) rfl b.2.2
          · refine S.iconst (pc' := 55) dX6_readVisit_54 rfl ?_
            refine S.zret dX6_readVisit_55 rfl (by first | exact Or.inl rfl | exact Or.inr rfl | omega) ?_
            rcases b48 with b | b
            · exfalso; omega
            · rw [if_pos b.1]; exact lnP_no f48.R (f48.T hm) (f48.I hi) rfl b.2.2
        · refine S.iconst (pc' := 39) dX6_readVisit_38 rfl ?_
          refine S.zret dX6_readVisit_39 rfl (by first | exact Or.inl rfl | exact Or.inr rfl | omega) ?_
          rcases b32 with b | b
          · exfalso; omega
          · rw [if_pos b.1]; exact lnP_no f32.R (f32.T hm) (f32.I hi) rfl b.2.2
      · exfalso; omega
end VIS
