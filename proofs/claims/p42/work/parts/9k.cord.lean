-- joined by tools/merge.py: 9k.cord, 9l.mord, 9m.mord
section
/-! orders: the class, the first order; the call -/
section COS
variable {l : Launch} {G : fp_WG} {M N : fp_Mem} {tp : List Int} {fl : Int} {g : aGd} {pg : aPg} {vs : List aVt} {nt : List Int} {im : aIm} {sh : aSh} {tn : Int}
theorem wk_X4_isPlaced {t : Int} : fp_Ok l G 0 kX4_isPlaced [rV G 133, iV t] M (qI fun z N => (z = 0 ∨ z = 1) ∧ M = N) := by
  refine fp_Ok.of (r := 0) rfl (Nat.le_of_ble_eq_true rfl) rfl ?_
  refine S.aload_n (pc' := 1) dX4_isPlaced_0 rfl rfl rfl ?_
  refine S.getI (pc' := 4) dX4_isPlaced_1 rfl fX4_75 L_133 ?_
  refine S.iconst (pc' := 5) dX4_isPlaced_4 rfl ?_
  refine S.iload_n (pc' := 6) dX4_isPlaced_5 rfl rfl rfl ?_
  refine S.ishl (pc' := 7) dX4_isPlaced_6 rfl (fp_any _) ?_
  refine S.iand (pc' := 8) dX4_isPlaced_7 rfl (fp_any _) ?_
  refine S.if_eq (pc' := 11) (tgt := 15) dX4_isPlaced_8 (by decide) rfl (fp_rng_of _) (fun h8 => ?_) (fun h8 => ?_)
  · refine S.iconst (pc' := 16) dX4_isPlaced_15 rfl ?_
    refine S.zret dX4_isPlaced_16 rfl (by first | exact Or.inl rfl | exact Or.inr rfl | omega) ?_
    first
    | exact ⟨Or.inl rfl, rfl⟩
    | exact ⟨Or.inr rfl, rfl⟩
  · refine S.iconst (pc' := 12) dX4_isPlaced_11 rfl ?_
    refine S.goto (pc' := 16) dX4_isPlaced_12 (by decide) ?_
    refine S.zret dX4_isPlaced_16 rfl (by first | exact Or.inl rfl | exact Or.inr rfl | omega) ?_
    first
    | exact ⟨Or.inl rfl, rfl⟩
    | exact ⟨Or.inr rfl, rfl⟩
theorem wk_X4_mayStand {t s : Int} (h : oPre M g nt) (ht : 0 ≤ t ∧ t ≤ 9) (hs : 0 ≤ s ∧ s ≤ 8) : fp_Ok l G 1 kX4_mayStand [rV G 133, rV G 18, rV G 32, iV t, iV s] M (qI fun z N => (z = 0 ∨ z = 1) ∧ M = N) := by
  have h1 := h.1
  have h2 := h.2.1
  have hl1 := h.2.2.2.2.1.1
  have hl := h.2.2.2.2.1.2.1
  have hL : ∀ (r : Nat) (i : Int) (o6 : Option Value), (8 - i).toNat < r → 0 ≤ i → i ≤ 8 → fp_S l G 1 kX4_mayStand 45 [some (rV G 133), some (rV G 18), some (rV G 32), some (iV t), some (iV s), some (iV i), o6] [] M (qI fun z N => (z = 0 ∨ z = 1) ∧ M = N) := by
    intro r
    induction r with
    | zero => intro i o6 hr; omega
    | succ r ih =>
      intro i o6 hr i0 i1
      by_cases hlt : i < nt.length
      · have hdr := h.drawn i0 hlt
        refine S.iload (pc' := 47) dX4_mayStand_45 rfl rfl ?_
        refine S.aload_n (pc' := 48) dX4_mayStand_47 rfl rfl rfl ?_
        refine S.getI (pc' := 51) dX4_mayStand_48 rfl fX4_45 (nt_lay nt32) ?_
        refine S.icmp_ge (pc' := 54) (tgt := 104) dX4_mayStand_51 (by decide) rfl (by unfold fp_rng; omega) (by unfold fp_rng; omega) (fun h51 => ?_) (fun h51 => ?_)
        · exfalso; omega
        · refine S.aload_n (pc' := 55) dX4_mayStand_54 rfl rfl rfl ?_
          refine S.getR (pc' := 58) dX4_mayStand_55 rfl fX4_48 (nt_lay nt32) (nt_r1 nt32) ?_
          refine S.iload (pc' := 60) dX4_mayStand_58 rfl rfl ?_
          refine S.iald (pc' := 61) dX4_mayStand_60 rfl (nt_a1 nt32) (by omega) (by omega) ?_
          refine S.istore (pc' := 63) (LL' := [_, _, _, _, _, _, _]) dX4_mayStand_61 rfl (by decide) rfl rfl ?_
          refine S.iload (pc' := 65) dX4_mayStand_63 rfl rfl ?_
          refine S.iload_n (pc' := 66) dX4_mayStand_65 rfl rfl rfl ?_
          refine S.icmp_ne (pc' := 69) (tgt := 71) dX4_mayStand_66 (by decide) rfl (by unfold fp_rng; omega) (by unfold fp_rng; omega) (fun h66 => ?_) (fun h66 => ?_)
          · refine S.aload_n (pc' := 72) dX4_mayStand_71 rfl rfl rfl ?_
            refine S.iload (pc' := 74) dX4_mayStand_72 rfl rfl ?_
            refine S.callVi (pc' := 77) dX4_mayStand_74 rfl cX4_78 wk_X4_isPlaced rfl L_133 (by decide) rfl (Nat.le_of_ble_eq_true rfl) (fun z74 M74 q74 => ?_)
            obtain ⟨z1, rfl⟩ := q74
            refine S.if_ne (pc' := 80) (tgt := 98) dX4_mayStand_77 (by decide) rfl (by unfold fp_rng; omega) (fun h77 => ?_) (fun h77 => ?_)
            · refine S.iinc (pc' := 101) (LL' := [_, _, _, _, _, _, _]) dX4_mayStand_98 rfl (by decide) rfl rfl rfl ?_
              refine S.goto (pc' := 45) dX4_mayStand_101 (by decide) ?_
              exact ih _ _ (by omega) (by omega) (by omega)
            · refine S.aload_n (pc' := 81) dX4_mayStand_80 rfl rfl rfl ?_
              refine S.aload_n (pc' := 82) dX4_mayStand_81 rfl rfl rfl ?_
              refine S.iload (pc' := 84) dX4_mayStand_82 rfl rfl ?_
              refine S.callVi (pc' := 87) dX4_mayStand_84 rfl cX4_59 (wk_X4_weight h hdr) rfl L_133 (by decide) rfl (Nat.le_of_ble_eq_true rfl) (fun z84 M84 q84 => ?_)
              obtain ⟨z2, rfl⟩ := q84
              refine S.aload_n (pc' := 88) dX4_mayStand_87 rfl rfl rfl ?_
              refine S.aload_n (pc' := 89) dX4_mayStand_88 rfl rfl rfl ?_
              refine S.iload_n (pc' := 90) dX4_mayStand_89 rfl rfl rfl ?_
              refine S.callVi (pc' := 93) dX4_mayStand_90 rfl cX4_59 (wk_X4_weight h ht) rfl L_133 (by decide) rfl (Nat.le_of_ble_eq_true rfl) (fun z90 M90 q90 => ?_)
              obtain ⟨z3, rfl⟩ := q90
              refine S.icmp_ne (pc' := 96) (tgt := 98) dX4_mayStand_93 (by decide) rfl (by unfold fp_rng; omega) (by unfold fp_rng; omega) (fun h93 => ?_) (fun h93 => ?_)
              · refine S.iinc (pc' := 101) (LL' := [_, _, _, _, _, _, _]) dX4_mayStand_98 rfl (by decide) rfl rfl rfl ?_
                refine S.goto (pc' := 45) dX4_mayStand_101 (by decide) ?_
                exact ih _ _ (by omega) (by omega) (by omega)
              · refine S.iconst (pc' := 97) dX4_mayStand_96 rfl ?_
                refine S.zret dX4_mayStand_97 rfl (by first | exact Or.inl rfl | exact Or.inr rfl | omega) ?_
                exact ⟨Or.inl rfl, rfl⟩
          · refine S.iconst (pc' := 70) dX4_mayStand_69 rfl ?_
            refine S.zret dX4_mayStand_70 rfl (by first | exact Or.inl rfl | exact Or.inr rfl | omega) ?_
            exact ⟨Or.inr rfl, rfl⟩
      · refine S.iload (pc' := 47) dX4_mayStand_45 rfl rfl ?_
        refine S.aload_n (pc' := 48) dX4_mayStand_47 rfl rfl rfl ?_
        refine S.getI (pc' := 51) dX4_mayStand_48 rfl fX4_45 (nt_lay nt32) ?_
        refine S.icmp_ge (pc' := 54) (tgt := 104) dX4_mayStand_51 (by decide) rfl (by unfold fp_rng; omega) (by unfold fp_rng; omega) (fun h51 => ?_) (fun h51 => ?_)
        · refine S.iconst (pc' := 105) dX4_mayStand_104 rfl ?_
          refine S.zret dX4_mayStand_105 rfl (by first | exact Or.inl rfl | exact Or.inr rfl | omega) ?_
          exact ⟨Or.inr rfl, rfl⟩
        · exfalso; omega
  refine fp_Ok.of (r := 2) rfl (Nat.le_of_ble_eq_true rfl) rfl ?_
  refine S.aload_n (pc' := 1) dX4_mayStand_0 rfl rfl rfl ?_
  refine S.getI (pc' := 4) dX4_mayStand_1 rfl fX4_23 L_133 ?_
  refine S.iconst (pc' := 5) dX4_mayStand_4 rfl ?_
  refine S.icmp_ne (pc' := 8) (tgt := 42) dX4_mayStand_5 (by decide) rfl (by unfold fp_rng; omega) (by unfold fp_rng; omega) (fun h5 => ?_) (fun h5 => ?_)
  · refine S.iconst (pc' := 43) dX4_mayStand_42 rfl ?_
    refine S.istore (pc' := 45) (LL' := [_, _, _, _, _, _, _]) dX4_mayStand_43 rfl (by decide) rfl rfl ?_
    exact hL 9 0 _ (by omega) (by omega) (by omega)
  · refine S.aload_n (pc' := 9) dX4_mayStand_8 rfl rfl rfl ?_
    refine S.iload_n (pc' := 10) dX4_mayStand_9 rfl rfl rfl ?_
    refine S.callVi (pc' := 13) dX4_mayStand_10 rfl cX4_63 (wk_X3_spotOf h (by unfold fp_rng; omega)) rfl (nt_lay nt32) (by decide) rfl (Nat.le_of_ble_eq_true rfl) (fun z10 M10 q10 => ?_)
    obtain ⟨z1, rfl⟩ := q10
    refine S.istore (pc' := 15) (LL' := [_, _, _, _, _, _, _]) dX4_mayStand_13 rfl (by decide) rfl rfl ?_
    refine S.iload (pc' := 17) dX4_mayStand_15 rfl rfl ?_
    refine S.bipush (pc' := 19) dX4_mayStand_17 rfl (by decide) ?_
    refine S.icmp_eq (pc' := 22) (tgt := 36) dX4_mayStand_19 (by decide) rfl (by unfold fp_rng; omega) (by unfold fp_rng; omega) (fun h19 => ?_) (fun h19 => ?_)
    · refine S.iconst (pc' := 37) dX4_mayStand_36 rfl ?_
      refine S.goto (pc' := 41) dX4_mayStand_37 (by decide) ?_
      refine S.zret dX4_mayStand_41 rfl (by first | exact Or.inl rfl | exact Or.inr rfl | omega) ?_
      first
      | exact ⟨Or.inl rfl, rfl⟩
      | exact ⟨Or.inr rfl, rfl⟩
    · refine S.iload (pc' := 24) dX4_mayStand_22 rfl rfl ?_
      refine S.aload_n (pc' := 25) dX4_mayStand_24 rfl rfl rfl ?_
      refine S.getI (pc' := 28) dX4_mayStand_25 rfl fX4_31 L_133 ?_
      refine S.iconst (pc' := 29) dX4_mayStand_28 rfl ?_
      refine S.isub (pc' := 30) dX4_mayStand_29 rfl ?_
      refine S.iload (pc' := 32) dX4_mayStand_30 rfl rfl ?_
      refine S.isub (pc' := 33) dX4_mayStand_32 rfl ?_
      refine S.icmp_ne (pc' := 36) (tgt := 40) dX4_mayStand_33 (by decide) rfl (by unfold fp_rng; omega) (by unfold fp_rng; omega) (fun h33 => ?_) (fun h33 => ?_)
      · refine S.iconst (pc' := 41) dX4_mayStand_40 rfl ?_
        refine S.zret dX4_mayStand_41 rfl (by first | exact Or.inl rfl | exact Or.inr rfl | omega) ?_
        first
        | exact ⟨Or.inl rfl, rfl⟩
        | exact ⟨Or.inr rfl, rfl⟩
      · refine S.iconst (pc' := 37) dX4_mayStand_36 rfl ?_
        refine S.goto (pc' := 41) dX4_mayStand_37 (by decide) ?_
        refine S.zret dX4_mayStand_41 rfl (by first | exact Or.inl rfl | exact Or.inr rfl | omega) ?_
        first
        | exact ⟨Or.inl rfl, rfl⟩
        | exact ⟨Or.inr rfl, rfl⟩
theorem ff_in {s : Int} {Q : fp_Q} (h : oPre N g nt) (hs : 0 ≤ s ∧ s ≤ 8) (K : ∀ (le j : Int) (o6 o7 : Option Value), (le = -4 ∨ (0 ≤ le ∧ le ≤ 9)) → fp_S l G 2 kX4_findFirst 97 [some (rV G 133), some (rV G 18), some (rV G 32), some (iV s), some (iV le), some (iV j), o6, o7] [] N Q) : ∀ (r : Nat) (le j : Int) (o6 o7 : Option Value), (8 - j).toNat < r → 0 ≤ j → j ≤ 8 → (le = -4 ∨ (0 ≤ le ∧ le ≤ 9)) →
    fp_S l G 2 kX4_findFirst 22 [some (rV G 133), some (rV G 18), some (rV G 32), some (iV s), some (iV le), some (iV j), o6, o7] [] N Q := by
  have h2 := h.2.1
  intro r
  induction r with
  | zero => intro le j o6 o7 hr; omega
  | succ r ih =>
    intro le j o6 o7 hr j0 j1 hle
    by_cases hlt : j < N 133 1
    · have hm := h.2.2.1 j j0 (by omega)
      have h59 : ∀ z : Int, (z = 0 ∨ z = 1) → fp_S l G 2 kX4_findFirst 59 [some (rV G 133), some (rV G 18), some (rV G 32), some (iV s), some (iV le), some (iV j), some (iV (N 134 j.toNat)), o7] [iV z] N Q := by
        intro z hz
        refine S.istore (pc' := 61) (LL' := [_, _, _, _, _, _, _, _]) dX4_findFirst_59 rfl (by decide) rfl rfl ?_
        refine S.iload (pc' := 63) dX4_findFirst_61 rfl rfl ?_
        refine S.if_eq (pc' := 66) (tgt := 91) dX4_findFirst_63 (by decide) rfl (by unfold fp_rng; omega) (fun h63 => ?_) (fun h63 => ?_)
        · refine S.iinc (pc' := 94) (LL' := [_, _, _, _, _, _, _, _]) dX4_findFirst_91 rfl (by decide) rfl rfl rfl ?_
          refine S.goto (pc' := 22) dX4_findFirst_94 (by decide) ?_
          first
          | exact ih _ _ _ _ (by omega) (by omega) (by omega) hle
          | exact ih _ _ _ _ (by omega) (by omega) (by omega) (Or.inr hm)
        · refine S.aload_n (pc' := 67) dX4_findFirst_66 rfl rfl rfl ?_
          refine S.iload (pc' := 69) dX4_findFirst_67 rfl rfl ?_
          refine S.callVi (pc' := 72) dX4_findFirst_69 rfl cX4_78 wk_X4_isPlaced rfl L_133 (by decide) rfl (Nat.le_of_ble_eq_true rfl) (fun z69 M69 q69 => ?_)
          obtain ⟨z1, rfl⟩ := q69
          refine S.if_ne (pc' := 75) (tgt := 91) dX4_findFirst_72 (by decide) rfl (by unfold fp_rng; omega) (fun h72 => ?_) (fun h72 => ?_)
          · refine S.iinc (pc' := 94) (LL' := [_, _, _, _, _, _, _, _]) dX4_findFirst_91 rfl (by decide) rfl rfl rfl ?_
            refine S.goto (pc' := 22) dX4_findFirst_94 (by decide) ?_
            first
            | exact ih _ _ _ _ (by omega) (by omega) (by omega) hle
            | exact ih _ _ _ _ (by omega) (by omega) (by omega) (Or.inr hm)
          · refine S.aload_n (pc' := 76) dX4_findFirst_75 rfl rfl rfl ?_
            refine S.aload_n (pc' := 77) dX4_findFirst_76 rfl rfl rfl ?_
            refine S.aload_n (pc' := 78) dX4_findFirst_77 rfl rfl rfl ?_
            refine S.iload (pc' := 80) dX4_findFirst_78 rfl rfl ?_
            refine S.iload_n (pc' := 81) dX4_findFirst_80 rfl rfl rfl ?_
            refine S.callVi (pc' := 84) dX4_findFirst_81 rfl cX4_81 (wk_X4_mayStand h hm hs) rfl L_133 (by decide) rfl (Nat.le_of_ble_eq_true rfl) (fun z81 M81 q81 => ?_)
            obtain ⟨z2, rfl⟩ := q81
            refine S.if_eq (pc' := 87) (tgt := 91) dX4_findFirst_84 (by decide) rfl (by unfold fp_rng; omega) (fun h84 => ?_) (fun h84 => ?_)
            · refine S.iinc (pc' := 94) (LL' := [_, _, _, _, _, _, _, _]) dX4_findFirst_91 rfl (by decide) rfl rfl rfl ?_
              refine S.goto (pc' := 22) dX4_findFirst_94 (by decide) ?_
              first
              | exact ih _ _ _ _ (by omega) (by omega) (by omega) hle
              | exact ih _ _ _ _ (by omega) (by omega) (by omega) (Or.inr hm)
            · refine S.iload (pc' := 89) dX4_findFirst_87 rfl rfl ?_
              refine S.istore (pc' := 91) (LL' := [_, _, _, _, _, _, _, _]) dX4_findFirst_89 rfl (by decide) rfl rfl ?_
              refine S.iinc (pc' := 94) (LL' := [_, _, _, _, _, _, _, _]) dX4_findFirst_91 rfl (by decide) rfl rfl rfl ?_
              refine S.goto (pc' := 22) dX4_findFirst_94 (by decide) ?_
              first
              | exact ih _ _ _ _ (by omega) (by omega) (by omega) hle
              | exact ih _ _ _ _ (by omega) (by omega) (by omega) (Or.inr hm)
      refine S.iload (pc' := 24) dX4_findFirst_22 rfl rfl ?_
      refine S.aload_n (pc' := 25) dX4_findFirst_24 rfl rfl rfl ?_
      refine S.getI (pc' := 28) dX4_findFirst_25 rfl fX4_31 L_133 ?_
      refine S.icmp_ge (pc' := 31) (tgt := 97) dX4_findFirst_28 (by decide) rfl (by unfold fp_rng; omega) (by unfold fp_rng; omega) (fun h28 => ?_) (fun h28 => ?_)
      · exfalso; omega
      · refine S.aload_n (pc' := 32) dX4_findFirst_31 rfl rfl rfl ?_
        refine S.getR (pc' := 35) dX4_findFirst_32 rfl fX4_9 L_133 rf_133_2 ?_
        refine S.iload (pc' := 37) dX4_findFirst_35 rfl rfl ?_
        refine S.iald (pc' := 38) dX4_findFirst_37 rfl L_134 (by omega) (by omega) ?_
        refine S.istore (pc' := 40) (LL' := [_, _, _, _, _, _, _, _]) dX4_findFirst_38 rfl (by decide) rfl rfl ?_
        refine S.iload (pc' := 42) dX4_findFirst_40 rfl rfl ?_
        refine S.bipush (pc' := 44) dX4_findFirst_42 rfl (by decide) ?_
        refine S.icmp_eq (pc' := 47) (tgt := 54) dX4_findFirst_44 (by decide) rfl (by unfold fp_rng; omega) (by unfold fp_rng; omega) (fun h44 => ?_) (fun h44 => ?_)
        · refine S.iconst (pc' := 55) dX4_findFirst_54 rfl ?_
          refine S.goto (pc' := 59) dX4_findFirst_55 (by decide) ?_
          exact h59 _ (by omega)
        · refine S.iload (pc' := 49) dX4_findFirst_47 rfl rfl ?_
          refine S.iload (pc' := 51) dX4_findFirst_49 rfl rfl ?_
          refine S.icmp_ge (pc' := 54) (tgt := 58) dX4_findFirst_51 (by decide) rfl (by unfold fp_rng; omega) (by unfold fp_rng; omega) (fun h51 => ?_) (fun h51 => ?_)
          · refine S.iconst (pc' := 59) dX4_findFirst_58 rfl ?_
            exact h59 _ (by omega)
          · refine S.iconst (pc' := 55) dX4_findFirst_54 rfl ?_
            refine S.goto (pc' := 59) dX4_findFirst_55 (by decide) ?_
            exact h59 _ (by omega)
    · refine S.iload (pc' := 24) dX4_findFirst_22 rfl rfl ?_
      refine S.aload_n (pc' := 25) dX4_findFirst_24 rfl rfl rfl ?_
      refine S.getI (pc' := 28) dX4_findFirst_25 rfl fX4_31 L_133 ?_
      refine S.icmp_ge (pc' := 31) (tgt := 97) dX4_findFirst_28 (by decide) rfl (by unfold fp_rng; omega) (by unfold fp_rng; omega) (fun h28 => ?_) (fun h28 => ?_)
      · exact K _ _ _ _ hle
      · exfalso; omega
theorem wk_X4_findFirst (h : oPre M g nt) : fp_Ok l G 2 kX4_findFirst [rV G 133, rV G 18, rV G 32] M (qV fun N => ∀ a, a ≠ 133 → a ≠ 135 → N a = M a) := by
  have h2 := h.2.1
  have hL : ∀ (r : Nat) (s : Int) (N : fp_Mem) (o4 o5 o6 o7 : Option Value), (8 - s).toNat < r → 0 ≤ s → s ≤ 8 → N 133 0 = M 133 0 → N 133 1 = M 133 1 → (∀ a, a ≠ 133 → a ≠ 135 → N a = M a) → fp_S l G 2 kX4_findFirst 7 [some (rV G 133), some (rV G 18), some (rV G 32), some (iV s), o4, o5, o6, o7] [] N (qV fun N => ∀ a, a ≠ 133 → a ≠ 135 → N a = M a) := by
    intro r
    induction r with
    | zero => intro s N o4 o5 o6 o7 hr; omega
    | succ r ih =>
      intro s N o4 o5 o6 o7 hr s0 s1 e0 e1 hf
      have hN := h.kept e0 e1 hf
      by_cases hlt : s < N 133 1
      · have h125 : ∀ (O : fp_Mem) (o4 o5 o6 o7 : Option Value), O 133 0 = M 133 0 → O 133 1 = M 133 1 → (∀ a, a ≠ 133 → a ≠ 135 → O a = M a) → fp_S l G 2 kX4_findFirst 125 [some (rV G 133), some (rV G 18), some (rV G 32), some (iV s), o4, o5, o6, o7] [] O (qV fun N => ∀ a, a ≠ 133 → a ≠ 135 → N a = M a) := by
          intro O o4 o5 o6 o7 a1 a2 a3
          refine S.iinc (pc' := 128) (LL' := [_, _, _, _, _, _, _, _]) dX4_findFirst_125 rfl (by decide) rfl rfl rfl ?_
          refine S.goto (pc' := 7) dX4_findFirst_128 (by decide) ?_
          exact ih _ _ _ _ _ _ (by omega) (by omega) (by omega) a1 a2 a3
        have h97 : ∀ (le j : Int) (o6 o7 : Option Value), (le = -4 ∨ (0 ≤ le ∧ le ≤ 9)) → fp_S l G 2 kX4_findFirst 97 [some (rV G 133), some (rV G 18), some (rV G 32), some (iV s), some (iV le), some (iV j), o6, o7] [] N (qV fun N => ∀ a, a ≠ 133 → a ≠ 135 → N a = M a) := by
          intro le j o6 o7 hle
          refine S.aload_n (pc' := 98) dX4_findFirst_97 rfl rfl rfl ?_
          refine S.getR (pc' := 101) dX4_findFirst_98 rfl fX4_15 L_133 rf_133_4 ?_
          refine S.iload_n (pc' := 102) dX4_findFirst_101 rfl rfl rfl ?_
          refine S.iload (pc' := 104) dX4_findFirst_102 rfl rfl ?_
          refine S.iast (pc' := 105) dX4_findFirst_104 rfl L_135 (by omega) (by omega) ?_
          refine S.iload (pc' := 107) dX4_findFirst_105 rfl rfl ?_
          refine S.bipush (pc' := 109) dX4_findFirst_107 rfl (by decide) ?_
          refine S.icmp_eq (pc' := 112) (tgt := 125) dX4_findFirst_109 (by decide) rfl (by unfold fp_rng; omega) (by unfold fp_rng; omega) (fun h109 => ?_) (fun h109 => ?_)
          · first
            | exact h125 _ _ _ _ _ (by rw [fp_up_ne (by decide)]; exact e0) (by rw [fp_up_ne (by decide)]; exact e1) (fun a a1 a2 => by rw [fp_up_ne a2]; exact hf a a1 a2)
            | exact h125 _ _ _ _ _ (by rw [fp_up_at, fp_upf_ne (by decide), fp_up_ne (by decide)]; exact e0) (by rw [fp_up_at, fp_upf_ne (by decide), fp_up_ne (by decide)]; exact e1) (fun a a1 a2 => by rw [fp_up_ne a1, fp_up_ne a2]; exact hf a a1 a2)
          · refine S.aload_n (pc' := 113) dX4_findFirst_112 rfl rfl rfl ?_
            refine S.dup (pc' := 114) dX4_findFirst_113 rfl rfl ?_
            refine S.getI (pc' := 117) dX4_findFirst_114 rfl fX4_75 L_133 ?_
            refine S.iconst (pc' := 118) dX4_findFirst_117 rfl ?_
            refine S.iload (pc' := 120) dX4_findFirst_118 rfl rfl ?_
            refine S.ishl (pc' := 121) dX4_findFirst_120 rfl (fp_any _) ?_
            refine S.ior (pc' := 122) dX4_findFirst_121 rfl (fp_any _) ?_
            refine S.putI (pc' := 125) dX4_findFirst_122 rfl fX4_75 L_133 ?_
            first
            | exact h125 _ _ _ _ _ (by rw [fp_up_ne (by decide)]; exact e0) (by rw [fp_up_ne (by decide)]; exact e1) (fun a a1 a2 => by rw [fp_up_ne a2]; exact hf a a1 a2)
            | exact h125 _ _ _ _ _ (by rw [fp_up_at, fp_upf_ne (by decide), fp_up_ne (by decide)]; exact e0) (by rw [fp_up_at, fp_upf_ne (by decide), fp_up_ne (by decide)]; exact e1) (fun a a1 a2 => by rw [fp_up_ne a1, fp_up_ne a2]; exact hf a a1 a2)
        refine S.iload_n (pc' := 8) dX4_findFirst_7 rfl rfl rfl ?_
        refine S.aload_n (pc' := 9) dX4_findFirst_8 rfl rfl rfl ?_
        refine S.getI (pc' := 12) dX4_findFirst_9 rfl fX4_31 L_133 ?_
        refine S.icmp_ge (pc' := 15) (tgt := 131) dX4_findFirst_12 (by decide) rfl (by unfold fp_rng; omega) (by unfold fp_rng; omega) (fun h12 => ?_) (fun h12 => ?_)
        · exfalso; omega
        · refine S.bipush (pc' := 17) dX4_findFirst_15 rfl (by decide) ?_
          refine S.istore (pc' := 19) (LL' := [_, _, _, _, _, _, _, _]) dX4_findFirst_17 rfl (by decide) rfl rfl ?_
          refine S.iconst (pc' := 20) dX4_findFirst_19 rfl ?_
          refine S.istore (pc' := 22) (LL' := [_, _, _, _, _, _, _, _]) dX4_findFirst_20 rfl (by decide) rfl rfl ?_
          exact ff_in hN (by omega) h97 9 _ 0 _ _ (by omega) (by omega) (by omega) (Or.inl rfl)
      · refine S.iload_n (pc' := 8) dX4_findFirst_7 rfl rfl rfl ?_
        refine S.aload_n (pc' := 9) dX4_findFirst_8 rfl rfl rfl ?_
        refine S.getI (pc' := 12) dX4_findFirst_9 rfl fX4_31 L_133 ?_
        refine S.icmp_ge (pc' := 15) (tgt := 131) dX4_findFirst_12 (by decide) rfl (by unfold fp_rng; omega) (by unfold fp_rng; omega) (fun h12 => ?_) (fun h12 => ?_)
        · refine S.vret dX4_findFirst_131 rfl ?_
          exact hf
        · exfalso; omega
  refine fp_Ok.of (r := 5) rfl (Nat.le_of_ble_eq_true rfl) rfl ?_
  refine S.aload_n (pc' := 1) dX4_findFirst_0 rfl rfl rfl ?_
  refine S.iconst (pc' := 2) dX4_findFirst_1 rfl ?_
  refine S.putI (pc' := 5) dX4_findFirst_2 rfl fX4_75 L_133 ?_
  refine S.iconst (pc' := 6) dX4_findFirst_5 rfl ?_
  refine S.istore_n (pc' := 7) (LL' := [_, _, _, _, _, _, _, _]) dX4_findFirst_6 rfl (by decide) rfl rfl rfl ?_
  exact hL 9 0 _ _ _ _ _ (by omega) (by omega) (by omega) (by rw [fp_up_at, fp_upf_ne (by decide)]) (by rw [fp_up_at, fp_upf_ne (by decide)]) (fun a a1 _ => fp_up_ne a1)
theorem wk_X4_prepare {x : Int} (hx : 0 ≤ x ∧ x < 3) (hpl : pl_ok M 22) (hgd : gd_ok M 18) (hn : ntIs M 32 nt) (hno : ntOk g nt) (hg : gOk g) (h7 : M 25 x.toNat ≤ 7) : fp_Ok l G 1 kX4_prepare [rV G 133, rV G 18, rV G 22, iV x] M (qV fun N => oPre N g nt ∧ ∀ a, a ≠ 133 → a ≠ 134 → N a = M a) := by
  have hk := hgd.2.2.2.2.2 x hx.1 hx.2
  have hs : 0 ≤ M 25 x.toNat ∧ M 25 x.toNat ≤ 8 := hpl.2.1 x hx.1 hx.2
  refine fp_Ok.of (r := 0) rfl (Nat.le_of_ble_eq_true rfl) rfl ?_
  refine S.aload_n (pc' := 1) dX4_prepare_0 rfl rfl rfl ?_
  refine S.aload_n (pc' := 2) dX4_prepare_1 rfl rfl rfl ?_
  refine S.getR (pc' := 5) dX4_prepare_2 rfl fX4_18 (gd_lay gd18) (gd_r5 gd18) ?_
  refine S.iload_n (pc' := 6) dX4_prepare_5 rfl rfl rfl ?_
  refine S.iald (pc' := 7) dX4_prepare_6 rfl (gd_a5 gd18) (by omega) (by omega) ?_
  refine S.putI (pc' := 10) dX4_prepare_7 rfl fX4_23 L_133 ?_
  refine S.aload_n (pc' := 11) dX4_prepare_10 rfl rfl rfl ?_
  refine S.aload_n (pc' := 12) dX4_prepare_11 rfl rfl rfl ?_
  refine S.getR (pc' := 15) dX4_prepare_12 rfl fX4_26 (pl_lay pl22) (pl_r2 pl22) ?_
  refine S.iload_n (pc' := 16) dX4_prepare_15 rfl rfl rfl ?_
  refine S.iald (pc' := 17) dX4_prepare_16 rfl (pl_a2 pl22) (by omega) (by omega) ?_
  rw [fp_up_ne (by decide)]
  refine S.putI (pc' := 20) dX4_prepare_17 rfl fX4_31 L_133 ?_
  refine S.aload_n (pc' := 21) dX4_prepare_20 rfl rfl rfl ?_
  refine S.getR (pc' := 24) dX4_prepare_21 rfl fX4_33 (pl_lay pl22) (pl_r3 pl22) ?_
  refine S.iload_n (pc' := 25) dX4_prepare_24 rfl rfl rfl ?_
  refine S.bipush (pc' := 27) dX4_prepare_25 rfl (by decide) ?_
  refine S.imul (pc' := 28) dX4_prepare_27 rfl ?_
  refine S.aload_n (pc' := 29) dX4_prepare_28 rfl rfl rfl ?_
  refine S.getR (pc' := 32) dX4_prepare_29 rfl fX4_9 L_133 rf_133_2 ?_
  refine S.iconst (pc' := 33) dX4_prepare_32 rfl ?_
  refine S.bipush (pc' := 35) dX4_prepare_33 rfl (by decide) ?_
  refine S.copyi (pc' := 38) dX4_prepare_35 rfl aX4_36 (pl_a3 pl22) L_134 (by decide) (by decide) (by omega) (by omega) (by omega) (by omega) (by omega) (by decide) (Nat.le_of_ble_eq_true rfl) ?_
  generalize hN1 : fp_upM _ 134 _ = N1
  have n1 : ∀ a, a ≠ 133 → a ≠ 134 → N1 a = M a := fun a a1 a2 => by rw [← hN1, fp_upM_ne a2, fp_up_ne a1, fp_up_ne a1]
  have k0 : N1 133 0 = M (18 + 3) x.toNat := by rw [← hN1, fp_upM_ne (by decide), fp_up_at, fp_upf_ne (by decide), fp_up_at, fp_upf_at]
  have k1 : N1 133 1 = M 25 x.toNat := by rw [← hN1, fp_upM_ne (by decide), fp_up_at, fp_upf_at]
  have r1 : ∀ i : Int, 0 ≤ i → i < 8 → 0 ≤ N1 134 i.toNat ∧ N1 134 i.toNat ≤ 9 := fun i i0 i1 => by
    rw [← hN1, fp_upM_at]
    simp only [va_cpy]
    rw [if_pos (by omega), fp_up_ne (by decide), fp_up_ne (by decide)]
    have := hpl.2.2 (x * 8 + i) (by omega) (by omega)
    rw [show (x * 8).toNat + (i.toNat - (0 : Int).toNat) = (x * 8 + i).toNat by omega]
    exact this
  refine S.vret dX4_prepare_38 rfl ?_
  refine ⟨⟨by rw [k0]; exact hk, by rw [k1]; exact ⟨hs.1, h7⟩, r1, ?_, hn.kept (fun a a1 a2 => n1 a (by omega) (by omega)), hno, hg⟩, n1⟩
  unfold gd_ok at hgd ⊢
  rw [n1 18 (by decide) (by decide), n1 (18 + 1) (by decide) (by decide), n1 (18 + 2) (by decide) (by decide), n1 (18 + 3) (by decide) (by decide)]
  exact hgd
theorem cw_orders {x w : Int} (hc : CS M tp fl g pg vs nt im sh tn) (ho : OK g pg vs nt im sh) (hx : fp_rng x) (hw : fp_rng w) : fp_Ok l G 4 kX11_orders [rV G 0, iV x, iV w] M (qI fun _ N => CS N tp fl g pg vs nt im sh tn ∧ frC M N) := by
  have hcs := hc
  obtain ⟨-, hd, hcl, hv, hn, -⟩ := hc
  obtain ⟨hg, hP, hvo, hno, -⟩ := ho
  have hg1 := hg.1
  have hg2 := hg.2.1
  have hgd := hd.2.2.2.2.2.2.2.2
  have hpl := hcl.2.2.2.2
  have hw' := hw
  unfold fp_rng at hw'
  refine fp_Ok.of (r := 1) rfl (Nat.le_of_ble_eq_true rfl) rfl ?_
  have h39 : ∀ z3 : Int, (z3 = 0 ∨ z3 = 1) → (z3 = 1 → 10 ≤ w ∧ w < 18) → (0 ≤ x ∧ x < g.2.1) → fp_S l G 4 kX11_orders 39 [some (rV G 0), some (iV x), some (iV w), some (iV z3)] [] M (qI fun _ N => CS N tp fl g pg vs nt im sh tn ∧ frC M N) := by
    intro z3 hz hz1 hxx
    have hs : 0 ≤ M (22 + 3) x.toNat ∧ M (22 + 3) x.toNat ≤ 8 := hpl.2.1 x hxx.1 (by omega)
    by_cases h7 : M (22 + 3) x.toNat ≤ 7
    · refine S.aload_n (pc' := 40) dX11_orders_39 rfl rfl rfl ?_
      refine S.getR (pc' := 43) dX11_orders_40 rfl fX11_30 L_0 rf_0_4 ?_
      refine S.getR (pc' := 46) dX11_orders_43 rfl fX11_151 (pl_lay pl22) (pl_r2 pl22) ?_
      refine S.iload_n (pc' := 47) dX11_orders_46 rfl rfl rfl ?_
      refine S.iald (pc' := 48) dX11_orders_47 rfl (pl_a2 pl22) (by omega) (by omega) ?_
      refine S.bipush (pc' := 50) dX11_orders_48 rfl (by decide) ?_
      refine S.icmp_le (pc' := 53) (tgt := 56) dX11_orders_50 (by decide) rfl (by unfold fp_rng; omega) (by unfold fp_rng; omega) (fun h50 => ?_) (fun h50 => ?_)
      · refine S.aload_n (pc' := 57) dX11_orders_56 rfl rfl rfl ?_
        refine S.getR (pc' := 60) dX11_orders_57 rfl fX11_65 L_0 rf_0_9 ?_
        refine S.aload_n (pc' := 61) dX11_orders_60 rfl rfl rfl ?_
        refine S.getR (pc' := 64) dX11_orders_61 rfl fX11_23 L_0 rf_0_3 ?_
        refine S.aload_n (pc' := 65) dX11_orders_64 rfl rfl rfl ?_
        refine S.getR (pc' := 68) dX11_orders_65 rfl fX11_30 L_0 rf_0_4 ?_
        refine S.iload_n (pc' := 69) dX11_orders_68 rfl rfl rfl ?_
        refine S.callVv (pc' := 72) dX11_orders_69 rfl cX11_285 (wk_X4_prepare (by omega) hpl hgd hn hno hg h7) rfl L_133 (by decide) rfl (Nat.le_of_ble_eq_true rfl) (fun M69 q69 => ?_)
        obtain ⟨p1, f1⟩ := q69
        have fz : frZ M M69 := fun a ha => f1 a (by omega) (by omega)
        refine S.iload_n (pc' := 73) dX11_orders_72 rfl rfl rfl ?_
        refine S.if_ne (pc' := 76) (tgt := 92) dX11_orders_73 (by decide) rfl (by unfold fp_rng; omega) (fun h73 => ?_) (fun h73 => ?_)
        · refine S.aload_n (pc' := 93) dX11_orders_92 rfl rfl rfl ?_
          refine S.getR (pc' := 96) dX11_orders_93 rfl fX11_65 L_0 rf_0_9 ?_
          refine S.aload_n (pc' := 97) dX11_orders_96 rfl rfl rfl ?_
          refine S.getR (pc' := 100) dX11_orders_97 rfl fX11_23 L_0 rf_0_3 ?_
          refine S.aload_n (pc' := 101) dX11_orders_100 rfl rfl rfl ?_
          refine S.getR (pc' := 104) dX11_orders_101 rfl fX11_44 L_0 rf_0_6 ?_
          refine S.callVi (pc' := 107) dX11_orders_104 rfl cX11_292 (wk_X4_canFit p1) rfl L_133 (by decide) rfl (Nat.le_of_ble_eq_true rfl) (fun z104 M104 q104 => ?_)
          obtain ⟨z4, rfl⟩ := q104
          refine S.if_eq (pc' := 110) (tgt := 126) dX11_orders_107 (by decide) rfl (by unfold fp_rng; omega) (fun h107 => ?_) (fun h107 => ?_)
          · refine S.bipush (pc' := 128) dX11_orders_126 rfl (by decide) ?_
            refine S.iret dX11_orders_128 rfl ?_
            exact ⟨hcs.scz fz, fz.c⟩
          · refine S.iload_n (pc' := 111) dX11_orders_110 rfl rfl rfl ?_
            refine S.bipush (pc' := 113) dX11_orders_111 rfl (by decide) ?_
            refine S.isub (pc' := 114) dX11_orders_113 rfl ?_
            refine S.aload_n (pc' := 115) dX11_orders_114 rfl rfl rfl ?_
            refine S.getR (pc' := 118) dX11_orders_115 rfl fX11_30 L_0 rf_0_4 ?_
            refine S.getR (pc' := 121) dX11_orders_118 rfl fX11_151 (pl_lay pl22) (pl_r2 pl22) ?_
            refine S.iload_n (pc' := 122) dX11_orders_121 rfl rfl rfl ?_
            refine S.iald (pc' := 123) dX11_orders_122 rfl (pl_a2 pl22) (by omega) (by omega) ?_
            rw [f1 (22 + 3) (by decide) (by decide)]
            refine S.icmp_lt (pc' := 126) (tgt := 129) dX11_orders_123 (by decide) rfl (by unfold fp_rng; omega) (by unfold fp_rng; omega) (fun h123 => ?_) (fun h123 => ?_)
            · refine S.aload_n (pc' := 130) dX11_orders_129 rfl rfl rfl ?_
              refine S.getR (pc' := 133) dX11_orders_130 rfl fX11_65 L_0 rf_0_9 ?_
              refine S.aload_n (pc' := 134) dX11_orders_133 rfl rfl rfl ?_
              refine S.getR (pc' := 137) dX11_orders_134 rfl fX11_23 L_0 rf_0_3 ?_
              refine S.aload_n (pc' := 138) dX11_orders_137 rfl rfl rfl ?_
              refine S.getR (pc' := 141) dX11_orders_138 rfl fX11_44 L_0 rf_0_6 ?_
              refine S.callVv (pc' := 144) dX11_orders_141 rfl cX11_296 (wk_X4_findFirst p1) rfl L_133 (by decide) rfl (Nat.le_of_ble_eq_true rfl) (fun M141 q141 => ?_)
              refine S.aload_n (pc' := 145) dX11_orders_144 rfl rfl rfl ?_
              refine S.getR (pc' := 148) dX11_orders_145 rfl fX11_65 L_0 rf_0_9 ?_
              refine S.getR (pc' := 151) dX11_orders_148 rfl fX11_300 L_133 rf_133_4 ?_
              refine S.iload_n (pc' := 152) dX11_orders_151 rfl rfl rfl ?_
              refine S.bipush (pc' := 154) dX11_orders_152 rfl (by decide) ?_
              refine S.isub (pc' := 155) dX11_orders_154 rfl ?_
              refine S.iald (pc' := 156) dX11_orders_155 rfl L_135 (by omega) (by omega) ?_
              refine S.iret dX11_orders_156 rfl ?_
              have fz2 : frZ M M141 := fz.trans (fun a ha => q141 a (by omega) (by omega))
              exact ⟨hcs.scz fz2, fz2.c⟩
            · refine S.bipush (pc' := 128) dX11_orders_126 rfl (by decide) ?_
              refine S.iret dX11_orders_128 rfl ?_
              exact ⟨hcs.scz fz, fz.c⟩
        · refine S.aload_n (pc' := 77) dX11_orders_76 rfl rfl rfl ?_
          refine S.getR (pc' := 80) dX11_orders_77 rfl fX11_65 L_0 rf_0_9 ?_
          refine S.aload_n (pc' := 81) dX11_orders_80 rfl rfl rfl ?_
          refine S.getR (pc' := 84) dX11_orders_81 rfl fX11_23 L_0 rf_0_3 ?_
          refine S.aload_n (pc' := 85) dX11_orders_84 rfl rfl rfl ?_
          refine S.getR (pc' := 88) dX11_orders_85 rfl fX11_44 L_0 rf_0_6 ?_
          refine S.callVi (pc' := 91) dX11_orders_88 rfl cX11_288 (wk_X4_howMany p1) rfl L_133 (by decide) rfl (Nat.le_of_ble_eq_true rfl) (fun z88 M88 q88 => ?_)
          subst q88
          refine S.iret dX11_orders_91 rfl ?_
          exact ⟨hcs.scz fz, fz.c⟩
      · exfalso; omega
    · refine S.aload_n (pc' := 40) dX11_orders_39 rfl rfl rfl ?_
      refine S.getR (pc' := 43) dX11_orders_40 rfl fX11_30 L_0 rf_0_4 ?_
      refine S.getR (pc' := 46) dX11_orders_43 rfl fX11_151 (pl_lay pl22) (pl_r2 pl22) ?_
      refine S.iload_n (pc' := 47) dX11_orders_46 rfl rfl rfl ?_
      refine S.iald (pc' := 48) dX11_orders_47 rfl (pl_a2 pl22) (by omega) (by omega) ?_
      refine S.bipush (pc' := 50) dX11_orders_48 rfl (by decide) ?_
      refine S.icmp_le (pc' := 53) (tgt := 56) dX11_orders_50 (by decide) rfl (by unfold fp_rng; omega) (by unfold fp_rng; omega) (fun h50 => ?_) (fun h50 => ?_)
      · exfalso; omega
      · refine S.bipush (pc' := 55) dX11_orders_53 rfl (by decide) ?_
        refine S.iret dX11_orders_55 rfl ?_
        exact ⟨hcs, frC.refl _⟩
  refine S.iload_n (pc' := 1) dX11_orders_0 rfl rfl rfl ?_
  refine S.bipush (pc' := 3) dX11_orders_1 rfl (by decide) ?_
  refine S.icmp_lt (pc' := 6) (tgt := 16) dX11_orders_3 (by decide) rfl hw (by unfold fp_rng; omega) (fun h3 => ?_) (fun h3 => ?_)
  · refine S.iconst (pc' := 17) dX11_orders_16 rfl ?_
    refine S.istore_n (pc' := 18) (LL' := [_, _, _, _]) dX11_orders_17 rfl (by decide) rfl rfl rfl ?_
    refine S.aload_n (pc' := 19) dX11_orders_18 rfl rfl rfl ?_
    refine S.getR (pc' := 22) dX11_orders_19 rfl fX11_23 L_0 rf_0_3 ?_
    refine S.iload_n (pc' := 23) dX11_orders_22 rfl rfl rfl ?_
    refine S.callVi (pc' := 26) dX11_orders_23 rfl cX11_148 (bk_X1_hasLine gd18) rfl (gd_lay gd18) (by decide) rfl (Nat.le_of_ble_eq_true rfl) (fun z23 M23 q23 => ?_)
    obtain ⟨b23, rfl⟩ := q23
    refine S.if_eq (pc' := 29) (tgt := 37) dX11_orders_26 (by decide) rfl (by unfold fp_rng; omega) (fun h26 => ?_) (fun h26 => ?_)
    · refine S.iconst (pc' := 38) dX11_orders_37 rfl ?_
      refine S.iret dX11_orders_38 rfl ?_
      exact ⟨hcs, frC.refl _⟩
    · refine S.iload_n (pc' := 30) dX11_orders_29 rfl rfl rfl ?_
      refine S.if_eq (pc' := 33) (tgt := 39) dX11_orders_30 (by decide) rfl hw (fun h30 => ?_) (fun h30 => ?_)
      · exact h39 _ (by omega) (by omega) (by omega)
      · refine S.iload_n (pc' := 34) dX11_orders_33 rfl rfl rfl ?_
        refine S.if_ne (pc' := 37) (tgt := 39) dX11_orders_34 (by decide) rfl (by unfold fp_rng; omega) (fun h34 => ?_) (fun h34 => ?_)
        · exact h39 _ (by omega) (by omega) (by omega)
        · refine S.iconst (pc' := 38) dX11_orders_37 rfl ?_
          refine S.iret dX11_orders_38 rfl ?_
          exact ⟨hcs, frC.refl _⟩
  · refine S.iload_n (pc' := 7) dX11_orders_6 rfl rfl rfl ?_
    refine S.bipush (pc' := 9) dX11_orders_7 rfl (by decide) ?_
    refine S.icmp_ge (pc' := 12) (tgt := 16) dX11_orders_9 (by decide) rfl hw (by unfold fp_rng; omega) (fun h9 => ?_) (fun h9 => ?_)
    · refine S.iconst (pc' := 17) dX11_orders_16 rfl ?_
      refine S.istore_n (pc' := 18) (LL' := [_, _, _, _]) dX11_orders_17 rfl (by decide) rfl rfl rfl ?_
      refine S.aload_n (pc' := 19) dX11_orders_18 rfl rfl rfl ?_
      refine S.getR (pc' := 22) dX11_orders_19 rfl fX11_23 L_0 rf_0_3 ?_
      refine S.iload_n (pc' := 23) dX11_orders_22 rfl rfl rfl ?_
      refine S.callVi (pc' := 26) dX11_orders_23 rfl cX11_148 (bk_X1_hasLine gd18) rfl (gd_lay gd18) (by decide) rfl (Nat.le_of_ble_eq_true rfl) (fun z23 M23 q23 => ?_)
      obtain ⟨b23, rfl⟩ := q23
      refine S.if_eq (pc' := 29) (tgt := 37) dX11_orders_26 (by decide) rfl (by unfold fp_rng; omega) (fun h26 => ?_) (fun h26 => ?_)
      · refine S.iconst (pc' := 38) dX11_orders_37 rfl ?_
        refine S.iret dX11_orders_38 rfl ?_
        exact ⟨hcs, frC.refl _⟩
      · refine S.iload_n (pc' := 30) dX11_orders_29 rfl rfl rfl ?_
        refine S.if_eq (pc' := 33) (tgt := 39) dX11_orders_30 (by decide) rfl hw (fun h30 => ?_) (fun h30 => ?_)
        · exact h39 _ (by omega) (by omega) (by omega)
        · refine S.iload_n (pc' := 34) dX11_orders_33 rfl rfl rfl ?_
          refine S.if_ne (pc' := 37) (tgt := 39) dX11_orders_34 (by decide) rfl (by unfold fp_rng; omega) (fun h34 => ?_) (fun h34 => ?_)
          · exact h39 _ (by omega) (by omega) (by omega)
          · refine S.iconst (pc' := 38) dX11_orders_37 rfl ?_
            refine S.iret dX11_orders_38 rfl ?_
            exact ⟨hcs, frC.refl _⟩
    · refine S.iconst (pc' := 13) dX11_orders_12 rfl ?_
      refine S.goto (pc' := 17) dX11_orders_13 (by decide) ?_
      refine S.istore_n (pc' := 18) (LL' := [_, _, _, _]) dX11_orders_17 rfl (by decide) rfl rfl rfl ?_
      refine S.aload_n (pc' := 19) dX11_orders_18 rfl rfl rfl ?_
      refine S.getR (pc' := 22) dX11_orders_19 rfl fX11_23 L_0 rf_0_3 ?_
      refine S.iload_n (pc' := 23) dX11_orders_22 rfl rfl rfl ?_
      refine S.callVi (pc' := 26) dX11_orders_23 rfl cX11_148 (bk_X1_hasLine gd18) rfl (gd_lay gd18) (by decide) rfl (Nat.le_of_ble_eq_true rfl) (fun z23 M23 q23 => ?_)
      obtain ⟨b23, rfl⟩ := q23
      refine S.if_eq (pc' := 29) (tgt := 37) dX11_orders_26 (by decide) rfl (by unfold fp_rng; omega) (fun h26 => ?_) (fun h26 => ?_)
      · refine S.iconst (pc' := 38) dX11_orders_37 rfl ?_
        refine S.iret dX11_orders_38 rfl ?_
        exact ⟨hcs, frC.refl _⟩
      · refine S.iload_n (pc' := 30) dX11_orders_29 rfl rfl rfl ?_
        refine S.if_eq (pc' := 33) (tgt := 39) dX11_orders_30 (by decide) rfl hw (fun h30 => ?_) (fun h30 => ?_)
        · exact h39 _ (by omega) (by omega) (by omega)
        · refine S.iload_n (pc' := 34) dX11_orders_33 rfl rfl rfl ?_
          refine S.if_ne (pc' := 37) (tgt := 39) dX11_orders_34 (by decide) rfl (by unfold fp_rng; omega) (fun h34 => ?_) (fun h34 => ?_)
          · exact h39 _ (by omega) (by omega) (by omega)
          · refine S.iconst (pc' := 38) dX11_orders_37 rfl ?_
            refine S.iret dX11_orders_38 rfl ?_
            exact ⟨hcs, frC.refl _⟩
end COS
end
section
/-! orders: the reference's rows: the next one is greater -/
def rOk (f : Nat → Int) (m : Int) : Prop := (∀ k : Nat, (k : Int) < m → 0 ≤ f k ∧ f k ≤ 9) ∧ ∀ u v : Nat, (u : Int) < m → (v : Int) < m → u ≠ v → f u ≠ f v
def rwV (f : Nat → Int) : Nat → Int
  | 0 => 0
  | n + 1 => 10 * rwV f n + f n
theorem rwV_in {f : Nat → Int} : ∀ n : Nat, (∀ k : Nat, k < n → 0 ≤ f k ∧ f k ≤ 9) → 0 ≤ rwV f n ∧ rwV f n < 10 ^ n
  | 0, _ => by show (0 : Int) ≤ 0 ∧ (0 : Int) < 10 ^ 0; decide
  | n + 1, h => by
    have ih := rwV_in n (fun k hk => h k (by omega))
    have := h n (by omega)
    rw [rwV, Int.pow_succ 10 n]
    omega
theorem rwV_congr {f h : Nat → Int} : ∀ n : Nat, (∀ k : Nat, k < n → f k = h k) → rwV f n = rwV h n
  | 0, _ => rfl
  | n + 1, e => by rw [rwV, rwV, rwV_congr n (fun k hk => e k (by omega)), e n (by omega)]
theorem rwV_lt {f h : Nat → Int} {i : Nat} : ∀ n : Nat, i < n → (∀ k : Nat, k < i → f k = h k) → f i < h i → (∀ k : Nat, k < n → 0 ≤ f k ∧ f k ≤ 9) → (∀ k : Nat, k < n → 0 ≤ h k ∧ h k ≤ 9) → rwV f n < rwV h n
  | 0, hi, _, _, _, _ => by omega
  | n + 1, hi, e, hlt, hf, hh => by
    have a1 := hf n (by omega)
    have a2 := hh n (by omega)
    rw [rwV, rwV]
    by_cases q : i = n
    · subst q
      rw [rwV_congr i e]
      omega
    · have ih := rwV_lt n (by omega) e hlt (fun k hk => hf k (by omega)) (fun k hk => hh k (by omega))
      omega
theorem rOk.swap {f : Nat → Int} {m : Int} {a b : Nat} (h : rOk f m) (ha : (a : Int) < m) (hb : (b : Int) < m) : rOk (fp_upf (fp_upf f a (f b)) b (f a)) m := by
  have e : ∀ u, fp_upf (fp_upf f a (f b)) b (f a) u = f (if u = b then a else if u = a then b else u) := by
    intro u
    unfold fp_upf
    by_cases h1 : u = b
    · rw [if_pos h1, if_pos h1]
    · rw [if_neg h1, if_neg h1]
      by_cases h2 : u = a
      · rw [if_pos h2, if_pos h2]
      · rw [if_neg h2, if_neg h2]
  refine ⟨fun k hk => ?_, fun u v hu hv huv => ?_⟩
  · rw [e]; exact h.1 _ (by split; omega; split <;> omega)
  · rw [e, e]
    refine h.2 _ _ (by split; omega; split <;> omega) (by split; omega; split <;> omega) ?_
    split <;> split <;> (try split) <;> (try split) <;> omega
theorem fp_swap_lo {f : Nat → Int} {a b k : Nat} (ha : k ≠ a) (hb : k ≠ b) : fp_upf (fp_upf f a (f b)) b (f a) k = f k := by rw [fp_upf_ne hb, fp_upf_ne ha]
section MOR
variable {l : Launch} {G : fp_WG} {M N : fp_Mem}
def nrP (M N : fp_Mem) (m z : Int) : Prop := (∀ c, c ≠ 194 → N c = M c) ∧ (z = 0 ∨ (z = 1 ∧ rOk (N 194) m ∧ rwV (M 194) m.toNat < rwV (N 194) m.toNat))
theorem nr_rev {m i j : Int} (hm : 0 ≤ m ∧ m ≤ 8) (hi : 0 ≤ i ∧ i < m) (hM : rOk (M 194) m) : ∀ (r : Nat) (h4 a b : Int) (N : fp_Mem), (b - a + 1).toNat < r → i < a → a ≤ m → -1 ≤ b → b < m → (∀ c, c ≠ 194 → N c = M c) → rOk (N 194) m → (∀ k : Nat, (k : Int) < i → N 194 k = M 194 k) → M 194 i.toNat < N 194 i.toNat →
    fp_S l G 0 kX12_nextRow 100 [some (rV G 177), some (iV m), some (iV i), some (iV j), some (iV h4), some (iV a), some (iV b)] [] N (qI fun z N => nrP M N m z) := by
  intro r
  induction r with
  | zero => intro h4 a b N hr; omega
  | succ r ih =>
    intro h4 a b N hr ha ha2 hb0 hb hf hN hlo hlt
    by_cases hab : a < b
    · have hsw := hN.swap (a := a.toNat) (b := b.toNat) (by omega) (by omega)
      refine S.iload (pc' := 102) dX12_nextRow_100 rfl rfl ?_
      refine S.iload (pc' := 104) dX12_nextRow_102 rfl rfl ?_
      refine S.icmp_ge (pc' := 107) (tgt := 148) dX12_nextRow_104 (by decide) rfl (by unfold fp_rng; omega) (by unfold fp_rng; omega) (fun h104 => ?_) (fun h104 => ?_)
      · exfalso; omega
      · refine S.aload_n (pc' := 108) dX12_nextRow_107 rfl rfl rfl ?_
        refine S.getR (pc' := 111) dX12_nextRow_108 rfl fX12_63 L_177 rf_177_35 ?_
        refine S.iload (pc' := 113) dX12_nextRow_111 rfl rfl ?_
        refine S.iald (pc' := 114) dX12_nextRow_113 rfl L_194 (by omega) (by omega) ?_
        refine S.istore (pc' := 116) (LL' := [_, _, _, _, _, _, _]) dX12_nextRow_114 rfl (by decide) rfl rfl ?_
        refine S.aload_n (pc' := 117) dX12_nextRow_116 rfl rfl rfl ?_
        refine S.getR (pc' := 120) dX12_nextRow_117 rfl fX12_63 L_177 rf_177_35 ?_
        refine S.iload (pc' := 122) dX12_nextRow_120 rfl rfl ?_
        refine S.aload_n (pc' := 123) dX12_nextRow_122 rfl rfl rfl ?_
        refine S.getR (pc' := 126) dX12_nextRow_123 rfl fX12_63 L_177 rf_177_35 ?_
        refine S.iload (pc' := 128) dX12_nextRow_126 rfl rfl ?_
        refine S.iald (pc' := 129) dX12_nextRow_128 rfl L_194 (by omega) (by omega) ?_
        refine S.iast (pc' := 130) dX12_nextRow_129 rfl L_194 (by omega) (by omega) ?_
        refine S.aload_n (pc' := 131) dX12_nextRow_130 rfl rfl rfl ?_
        refine S.getR (pc' := 134) dX12_nextRow_131 rfl fX12_63 L_177 rf_177_35 ?_
        refine S.iload (pc' := 136) dX12_nextRow_134 rfl rfl ?_
        refine S.iload (pc' := 138) dX12_nextRow_136 rfl rfl ?_
        refine S.iast (pc' := 139) dX12_nextRow_138 rfl L_194 (by omega) (by omega) ?_
        refine S.iinc (pc' := 142) (LL' := [_, _, _, _, _, _, _]) dX12_nextRow_139 rfl (by decide) rfl rfl rfl ?_
        refine S.iinc (pc' := 145) (LL' := [_, _, _, _, _, _, _]) dX12_nextRow_142 rfl (by decide) rfl rfl rfl ?_
        refine S.goto (pc' := 100) dX12_nextRow_145 (by decide) ?_
        refine ih _ _ _ _ (by omega) (by omega) (by omega) (by omega) (by omega) (fun c hc => by rw [fp_up_ne hc, fp_up_ne hc]; exact hf c hc) (by rw [fp_up_at, fp_up_at]; exact hsw) (fun k hk => by rw [fp_up_at, fp_up_at, fp_swap_lo (by omega) (by omega)]; exact hlo k hk) (by rw [fp_up_at, fp_up_at, fp_swap_lo (by omega) (by omega)]; exact hlt)
    · refine S.iload (pc' := 102) dX12_nextRow_100 rfl rfl ?_
      refine S.iload (pc' := 104) dX12_nextRow_102 rfl rfl ?_
      refine S.icmp_ge (pc' := 107) (tgt := 148) dX12_nextRow_104 (by decide) rfl (by unfold fp_rng; omega) (by unfold fp_rng; omega) (fun h104 => ?_) (fun h104 => ?_)
      · refine S.iconst (pc' := 149) dX12_nextRow_148 rfl ?_
        refine S.zret dX12_nextRow_149 rfl (by first | exact Or.inl rfl | exact Or.inr rfl | omega) ?_
        refine ⟨hf, Or.inr ⟨rfl, hN, ?_⟩⟩
        exact rwV_lt (i := i.toNat) m.toNat (by omega) (fun k hk => (hlo k (by omega)).symm) hlt (fun k hk => hM.1 k (by omega)) (fun k hk => hN.1 k (by omega))
      · exfalso; omega
theorem nr_j {m i : Int} (hm : 0 ≤ m ∧ m ≤ 8) (hi : 0 ≤ i ∧ i + 1 < m) (hM : rOk (M 194) m) (hup : M 194 i.toNat ≤ M 194 (i + 1).toNat) : ∀ (r : Nat) (j : Int), (j - i).toNat < r → i < j → j < m →
    fp_S l G 0 kX12_nextRow 41 [some (rV G 177), some (iV m), some (iV i), some (iV j), none, none, none] [] M (qI fun z N => nrP M N m z) := by
  intro r
  induction r with
  | zero => intro j hr; omega
  | succ r ih =>
    intro j hr hj1 hj2
    have b1 := hM.1 j.toNat (by omega)
    have b2 := hM.1 i.toNat (by omega)
    have hne := hM.2 i.toNat j.toNat (by omega) (by omega) (by omega)
    by_cases hlt : M 194 j.toNat < M 194 i.toNat
    · have hj3 : j ≠ i + 1 := fun e => by rw [e] at hlt; omega
      refine S.aload_n (pc' := 42) dX12_nextRow_41 rfl rfl rfl ?_
      refine S.getR (pc' := 45) dX12_nextRow_42 rfl fX12_63 L_177 rf_177_35 ?_
      refine S.iload_n (pc' := 46) dX12_nextRow_45 rfl rfl rfl ?_
      refine S.iald (pc' := 47) dX12_nextRow_46 rfl L_194 (by omega) (by omega) ?_
      refine S.aload_n (pc' := 48) dX12_nextRow_47 rfl rfl rfl ?_
      refine S.getR (pc' := 51) dX12_nextRow_48 rfl fX12_63 L_177 rf_177_35 ?_
      refine S.iload_n (pc' := 52) dX12_nextRow_51 rfl rfl rfl ?_
      refine S.iald (pc' := 53) dX12_nextRow_52 rfl L_194 (by omega) (by omega) ?_
      refine S.icmp_ge (pc' := 56) (tgt := 62) dX12_nextRow_53 (by decide) rfl (by unfold fp_rng; omega) (by unfold fp_rng; omega) (fun h53 => ?_) (fun h53 => ?_)
      · exfalso; omega
      · refine S.iinc (pc' := 59) (LL' := [_, _, _, _, _, _, _]) dX12_nextRow_56 rfl (by decide) rfl rfl rfl ?_
        refine S.goto (pc' := 41) dX12_nextRow_59 (by decide) ?_
        exact ih _ (by omega) (by omega) (by omega)
    · have hsw := hM.swap (a := i.toNat) (b := j.toNat) (by omega) (by omega)
      refine S.aload_n (pc' := 42) dX12_nextRow_41 rfl rfl rfl ?_
      refine S.getR (pc' := 45) dX12_nextRow_42 rfl fX12_63 L_177 rf_177_35 ?_
      refine S.iload_n (pc' := 46) dX12_nextRow_45 rfl rfl rfl ?_
      refine S.iald (pc' := 47) dX12_nextRow_46 rfl L_194 (by omega) (by omega) ?_
      refine S.aload_n (pc' := 48) dX12_nextRow_47 rfl rfl rfl ?_
      refine S.getR (pc' := 51) dX12_nextRow_48 rfl fX12_63 L_177 rf_177_35 ?_
      refine S.iload_n (pc' := 52) dX12_nextRow_51 rfl rfl rfl ?_
      refine S.iald (pc' := 53) dX12_nextRow_52 rfl L_194 (by omega) (by omega) ?_
      refine S.icmp_ge (pc' := 56) (tgt := 62) dX12_nextRow_53 (by decide) rfl (by unfold fp_rng; omega) (by unfold fp_rng; omega) (fun h53 => ?_) (fun h53 => ?_)
      · refine S.aload_n (pc' := 63) dX12_nextRow_62 rfl rfl rfl ?_
        refine S.getR (pc' := 66) dX12_nextRow_63 rfl fX12_63 L_177 rf_177_35 ?_
        refine S.iload_n (pc' := 67) dX12_nextRow_66 rfl rfl rfl ?_
        refine S.iald (pc' := 68) dX12_nextRow_67 rfl L_194 (by omega) (by omega) ?_
        refine S.istore (pc' := 70) (LL' := [_, _, _, _, _, _, _]) dX12_nextRow_68 rfl (by decide) rfl rfl ?_
        refine S.aload_n (pc' := 71) dX12_nextRow_70 rfl rfl rfl ?_
        refine S.getR (pc' := 74) dX12_nextRow_71 rfl fX12_63 L_177 rf_177_35 ?_
        refine S.iload_n (pc' := 75) dX12_nextRow_74 rfl rfl rfl ?_
        refine S.aload_n (pc' := 76) dX12_nextRow_75 rfl rfl rfl ?_
        refine S.getR (pc' := 79) dX12_nextRow_76 rfl fX12_63 L_177 rf_177_35 ?_
        refine S.iload_n (pc' := 80) dX12_nextRow_79 rfl rfl rfl ?_
        refine S.iald (pc' := 81) dX12_nextRow_80 rfl L_194 (by omega) (by omega) ?_
        refine S.iast (pc' := 82) dX12_nextRow_81 rfl L_194 (by omega) (by omega) ?_
        refine S.aload_n (pc' := 83) dX12_nextRow_82 rfl rfl rfl ?_
        refine S.getR (pc' := 86) dX12_nextRow_83 rfl fX12_63 L_177 rf_177_35 ?_
        refine S.iload_n (pc' := 87) dX12_nextRow_86 rfl rfl rfl ?_
        refine S.iload (pc' := 89) dX12_nextRow_87 rfl rfl ?_
        refine S.iast (pc' := 90) dX12_nextRow_89 rfl L_194 (by omega) (by omega) ?_
        refine S.iload_n (pc' := 91) dX12_nextRow_90 rfl rfl rfl ?_
        refine S.iconst (pc' := 92) dX12_nextRow_91 rfl ?_
        refine S.iadd (pc' := 93) dX12_nextRow_92 rfl ?_
        refine S.istore (pc' := 95) (LL' := [_, _, _, _, _, _, _]) dX12_nextRow_93 rfl (by decide) rfl rfl ?_
        refine S.iload_n (pc' := 96) dX12_nextRow_95 rfl rfl rfl ?_
        refine S.iconst (pc' := 97) dX12_nextRow_96 rfl ?_
        refine S.isub (pc' := 98) dX12_nextRow_97 rfl ?_
        refine S.istore (pc' := 100) (LL' := [_, _, _, _, _, _, _]) dX12_nextRow_98 rfl (by decide) rfl rfl ?_
        refine nr_rev (M := M) hm (by omega) hM _ _ _ _ _ (Nat.lt_succ_self _) (by omega) (by omega) (by omega) (by omega) (fun c hc => by rw [fp_up_ne hc, fp_up_ne hc]) (by rw [fp_up_at, fp_up_at]; exact hsw) (fun k hk => by rw [fp_up_at, fp_up_at, fp_swap_lo (by omega) (by omega)]) (by rw [fp_up_at, fp_up_at, fp_upf_ne (by omega), fp_upf_at]; omega)
      · exfalso; omega
theorem rk_X12_nextRow {m : Int} (hm : 0 ≤ m ∧ m ≤ 8) (hM : rOk (M 194) m) : fp_Ok l G 0 kX12_nextRow [rV G 177, iV m] M (qI fun z N => nrP M N m z) := by
  refine fp_Ok.of (r := 5) rfl (Nat.le_of_ble_eq_true rfl) rfl ?_
  have hL : ∀ (r : Nat) (i : Int), (i + 1).toNat < r → -1 ≤ i → i + 1 < m → fp_S l G 0 kX12_nextRow 4 [some (rV G 177), some (iV m), some (iV i), none, none, none, none] [] M (qI fun z N => nrP M N m z) := by
    intro r
    induction r with
    | zero => intro i hr; omega
    | succ r ih =>
      intro i hr hi0 hi
      by_cases h0 : i < 0
      · refine S.iload_n (pc' := 5) dX12_nextRow_4 rfl rfl rfl ?_
        refine S.if_lt (pc' := 8) (tgt := 31) dX12_nextRow_5 (by decide) rfl (by unfold fp_rng; omega) (fun h5 => ?_) (fun h5 => ?_)
        · refine S.iload_n (pc' := 32) dX12_nextRow_31 rfl rfl rfl ?_
          refine S.if_ge (pc' := 35) (tgt := 37) dX12_nextRow_32 (by decide) rfl (by unfold fp_rng; omega) (fun h32 => ?_) (fun h32 => ?_)
          · exfalso; omega
          · refine S.iconst (pc' := 36) dX12_nextRow_35 rfl ?_
            refine S.zret dX12_nextRow_36 rfl (by first | exact Or.inl rfl | exact Or.inr rfl | omega) ?_
            exact ⟨fun _ _ => rfl, Or.inl rfl⟩
        · exfalso; omega
      · have b1 := hM.1 i.toNat (by omega)
        have b2 := hM.1 (i + 1).toNat (by omega)
        by_cases hup : M 194 i.toNat ≤ M 194 (i + 1).toNat
        · refine S.iload_n (pc' := 5) dX12_nextRow_4 rfl rfl rfl ?_
          refine S.if_lt (pc' := 8) (tgt := 31) dX12_nextRow_5 (by decide) rfl (by unfold fp_rng; omega) (fun h5 => ?_) (fun h5 => ?_)
          · refine S.iload_n (pc' := 32) dX12_nextRow_31 rfl rfl rfl ?_
            refine S.if_ge (pc' := 35) (tgt := 37) dX12_nextRow_32 (by decide) rfl (by unfold fp_rng; omega) (fun h32 => ?_) (fun h32 => ?_)
            · refine S.iload_n (pc' := 38) dX12_nextRow_37 rfl rfl rfl ?_
              refine S.iconst (pc' := 39) dX12_nextRow_38 rfl ?_
              refine S.isub (pc' := 40) dX12_nextRow_39 rfl ?_
              refine S.istore_n (pc' := 41) (LL' := [_, _, _, _, _, _, _]) dX12_nextRow_40 rfl (by decide) rfl rfl rfl ?_
              exact nr_j hm (by omega) hM hup _ _ (Nat.lt_succ_self _) (by omega) (by omega)
            · exfalso; omega
          · refine S.aload_n (pc' := 9) dX12_nextRow_8 rfl rfl rfl ?_
            refine S.getR (pc' := 12) dX12_nextRow_9 rfl fX12_63 L_177 rf_177_35 ?_
            refine S.iload_n (pc' := 13) dX12_nextRow_12 rfl rfl rfl ?_
            refine S.iald (pc' := 14) dX12_nextRow_13 rfl L_194 (by omega) (by omega) ?_
            refine S.aload_n (pc' := 15) dX12_nextRow_14 rfl rfl rfl ?_
            refine S.getR (pc' := 18) dX12_nextRow_15 rfl fX12_63 L_177 rf_177_35 ?_
            refine S.iload_n (pc' := 19) dX12_nextRow_18 rfl rfl rfl ?_
            refine S.iconst (pc' := 20) dX12_nextRow_19 rfl ?_
            refine S.iadd (pc' := 21) dX12_nextRow_20 rfl ?_
            refine S.iald (pc' := 22) dX12_nextRow_21 rfl L_194 (by omega) (by omega) ?_
            refine S.icmp_le (pc' := 25) (tgt := 31) dX12_nextRow_22 (by decide) rfl (by unfold fp_rng; omega) (by unfold fp_rng; omega) (fun h22 => ?_) (fun h22 => ?_)
            · refine S.iload_n (pc' := 32) dX12_nextRow_31 rfl rfl rfl ?_
              refine S.if_ge (pc' := 35) (tgt := 37) dX12_nextRow_32 (by decide) rfl (by unfold fp_rng; omega) (fun h32 => ?_) (fun h32 => ?_)
              · refine S.iload_n (pc' := 38) dX12_nextRow_37 rfl rfl rfl ?_
                refine S.iconst (pc' := 39) dX12_nextRow_38 rfl ?_
                refine S.isub (pc' := 40) dX12_nextRow_39 rfl ?_
                refine S.istore_n (pc' := 41) (LL' := [_, _, _, _, _, _, _]) dX12_nextRow_40 rfl (by decide) rfl rfl rfl ?_
                exact nr_j hm (by omega) hM hup _ _ (Nat.lt_succ_self _) (by omega) (by omega)
              · exfalso; omega
            · exfalso; omega
        · refine S.iload_n (pc' := 5) dX12_nextRow_4 rfl rfl rfl ?_
          refine S.if_lt (pc' := 8) (tgt := 31) dX12_nextRow_5 (by decide) rfl (by unfold fp_rng; omega) (fun h5 => ?_) (fun h5 => ?_)
          · exfalso; omega
          · refine S.aload_n (pc' := 9) dX12_nextRow_8 rfl rfl rfl ?_
            refine S.getR (pc' := 12) dX12_nextRow_9 rfl fX12_63 L_177 rf_177_35 ?_
            refine S.iload_n (pc' := 13) dX12_nextRow_12 rfl rfl rfl ?_
            refine S.iald (pc' := 14) dX12_nextRow_13 rfl L_194 (by omega) (by omega) ?_
            refine S.aload_n (pc' := 15) dX12_nextRow_14 rfl rfl rfl ?_
            refine S.getR (pc' := 18) dX12_nextRow_15 rfl fX12_63 L_177 rf_177_35 ?_
            refine S.iload_n (pc' := 19) dX12_nextRow_18 rfl rfl rfl ?_
            refine S.iconst (pc' := 20) dX12_nextRow_19 rfl ?_
            refine S.iadd (pc' := 21) dX12_nextRow_20 rfl ?_
            refine S.iald (pc' := 22) dX12_nextRow_21 rfl L_194 (by omega) (by omega) ?_
            refine S.icmp_le (pc' := 25) (tgt := 31) dX12_nextRow_22 (by decide) rfl (by unfold fp_rng; omega) (by unfold fp_rng; omega) (fun h22 => ?_) (fun h22 => ?_)
            · exfalso; omega
            · refine S.iinc (pc' := 28) (LL' := [_, _, _, _, _, _, _]) dX12_nextRow_25 rfl (by decide) rfl rfl rfl ?_
              refine S.goto (pc' := 4) dX12_nextRow_28 (by decide) ?_
              exact ih _ (by omega) (by omega) (by omega)
  by_cases hm1 : 1 ≤ m
  · refine S.iload_n (pc' := 1) dX12_nextRow_0 rfl rfl rfl ?_
    refine S.iconst (pc' := 2) dX12_nextRow_1 rfl ?_
    refine S.isub (pc' := 3) dX12_nextRow_2 rfl ?_
    refine S.istore_n (pc' := 4) (LL' := [_, _, _, _, _, _, _]) dX12_nextRow_3 rfl (by decide) rfl rfl rfl ?_
    exact hL _ _ (Nat.lt_succ_self _) (by omega) (by omega)
  · refine S.iload_n (pc' := 1) dX12_nextRow_0 rfl rfl rfl ?_
    refine S.iconst (pc' := 2) dX12_nextRow_1 rfl ?_
    refine S.isub (pc' := 3) dX12_nextRow_2 rfl ?_
    refine S.istore_n (pc' := 4) (LL' := [_, _, _, _, _, _, _]) dX12_nextRow_3 rfl (by decide) rfl rfl rfl ?_
    refine S.iload_n (pc' := 5) dX12_nextRow_4 rfl rfl rfl ?_
    refine S.if_lt (pc' := 8) (tgt := 31) dX12_nextRow_5 (by decide) rfl (by unfold fp_rng; omega) (fun h5 => ?_) (fun h5 => ?_)
    · refine S.iload_n (pc' := 32) dX12_nextRow_31 rfl rfl rfl ?_
      refine S.if_ge (pc' := 35) (tgt := 37) dX12_nextRow_32 (by decide) rfl (by unfold fp_rng; omega) (fun h32 => ?_) (fun h32 => ?_)
      · exfalso; omega
      · refine S.iconst (pc' := 36) dX12_nextRow_35 rfl ?_
        refine S.zret dX12_nextRow_36 rfl (by first | exact Or.inl rfl | exact Or.inr rfl | omega) ?_
        exact ⟨fun _ _ => rfl, Or.inl rfl⟩
    · exfalso; omega
end MOR
end
section
/-! orders: the reference returns and keeps the state -/
def cntL (L : List Int) : Nat → Int
  | 0 => 0
  | n + 1 => cntL L n + if (n : Int) ∈ L then 1 else 0
theorem cntL_in (L : List Int) : ∀ n d : Nat, 0 ≤ cntL L n ∧ cntL L n ≤ cntL L (n + d)
  | 0, 0 => by show (0 : Int) ≤ 0 ∧ (0 : Int) ≤ 0; omega
  | n + 1, 0 => by
    have := cntL_in L n 0
    refine ⟨?_, Int.le_refl _⟩
    unfold cntL; split <;> omega
  | n, d + 1 => by
    have := cntL_in L n d
    refine ⟨this.1, ?_⟩
    rw [show n + (d + 1) = (n + d) + 1 by omega, cntL]
    split <;> omega
theorem cntL_cons {a : Int} {L : List Int} (h : a ∉ L) (h0 : 0 ≤ a) : ∀ n : Nat, cntL (a :: L) n = cntL L n + if a < n then 1 else 0
  | 0 => by show (0 : Int) = 0 + _; rw [if_neg (by omega)]; rfl
  | n + 1 => by
    rw [cntL, cntL, cntL_cons h h0 n]
    by_cases e : (n : Int) = a
    · rw [if_neg (show ¬ a < (n : Int) by omega), if_pos (show (n : Int) ∈ a :: L by rw [e]; exact List.mem_cons_self), if_neg (show ¬ (n : Int) ∈ L by rw [e]; exact h), if_pos (show a < ((n + 1 : Nat) : Int) by omega)]; try omega
    · have : (n : Int) ∈ a :: L ↔ (n : Int) ∈ L := by
        rw [List.mem_cons]
        exact ⟨fun q => q.resolve_left e, Or.inr⟩
      by_cases e2 : (n : Int) ∈ L
      · rw [if_pos (this.mpr e2), if_pos e2]
        by_cases e3 : a < n
        · rw [if_pos e3, if_pos (by omega)]; try omega
        · rw [if_neg e3, if_neg (by omega)]; try omega
      · rw [if_neg (fun q => e2 (this.mp q)), if_neg e2]
        by_cases e3 : a < n
        · rw [if_pos e3, if_pos (by omega)]; try omega
        · rw [if_neg e3, if_neg (by omega)]; try omega
theorem cntL_nil : ∀ n : Nat, cntL [] n = 0
  | 0 => rfl
  | n + 1 => by rw [cntL, cntL_nil n, if_neg (List.not_mem_nil)]; rfl
theorem cntL_len {n : Nat} : ∀ L : List Int, L.Nodup → (∀ t ∈ L, 0 ≤ t ∧ t < n) → cntL L n = L.length
  | [], _, _ => cntL_nil n
  | a :: L, h, hb => by
    have h1 := List.nodup_cons.mp h
    have ha := hb a List.mem_cons_self
    rw [cntL_cons h1.1 ha.1, cntL_len L h1.2 (fun t ht => hb t (List.mem_cons_of_mem _ ht)), if_pos ha.2, List.length_cons]
    omega
theorem pow10_7 {n : Nat} (h : n < 8) : (10 : Int) ^ n ≤ 10000000 := by
  have q : ∀ n : Nat, n < 8 → (10 : Int) ^ n ≤ 10000000 := by decide +kernel
  exact q n h
def frY (M N : fp_Mem) : Prop := (∀ c, c ≠ 178 → c ≠ 194 → c ≠ 195 → N c = M c) ∧ ∀ j : Nat, (j < 360 ∨ 410 ≤ j) → N 178 j = M 178 j
theorem frY.refl (M : fp_Mem) : frY M M := ⟨fun _ _ _ _ => rfl, fun _ _ => rfl⟩
theorem frY.trans {M N O : fp_Mem} (h1 : frY M N) (h2 : frY N O) : frY M O := ⟨fun c a1 a2 a3 => (h2.1 c a1 a2 a3).trans (h1.1 c a1 a2 a3), fun j hj => (h2.2 j hj).trans (h1.2 j hj)⟩
theorem frY.d {M N : fp_Mem} (h : frY M N) : frD M N := fun c hc => h.1 c (by omega) (by omega) (by omega)
theorem frT.y {M N : fp_Mem} (h : frT M N) : frY M N := ⟨fun c a1 _ _ => h.1 c a1, h.2⟩
theorem frY.ok {M N : fp_Mem} (h : frY M N) (hd : md_ok M) : md_ok N := by
  unfold md_ok at *
  rw [h.1 177 (by decide) (by decide) (by decide), h.1 179 (by decide) (by decide) (by decide), h.1 180 (by decide) (by decide) (by decide), h.1 181 (by decide) (by decide) (by decide)]
  exact hd
section MOT
variable {l : Launch} {G : fp_WG} {M N : fp_Mem} {tp : List Int} {fl : Int} {g : aGd} {pg : aPg} {vs : List aVt} {nt : List Int} {im : aIm} {sh : aSh} {tn : Int}
theorem MS.yy (h : MS M tp fl g pg vs nt im sh tn) (ho : OK g pg vs nt im sh) (e : frY M N) : MS N tp fl g pg vs nt im sh tn := h.trial ho (fun c hc => e.1 c (by omega) (by omega) (by omega)) (fun j hj => e.2 j (by omega))
theorem fits_two {x m b : Int} (hx : 0 ≤ x ∧ x < 3) (hd : md_ok M) (hn : mnRow (M 178) nt) (hno : ∀ t ∈ nt, 0 ≤ t ∧ t ≤ 9) : ∀ (r : Nat) (i : Int) (N : fp_Mem) (o5 : Option Value), (8 - i).toNat < r → 0 ≤ i → i ≤ 8 → frT M N → tOk (N 178) x →
    fp_S l G 2 kX12_fitsRow 52 [some (rV G 177), some (iV x), some (iV m), some (iV b), some (iV i), o5] [] N (qI fun z O => (z = 0 ∨ z = 1) ∧ frT M O) := by
  have hl := hn.2.1
  intro r
  induction r with
  | zero => intro i N o5 hr; omega
  | succ r ih =>
    intro i N o5 hr i0 i1 hf hT
    have dN : md_ok N := by
      unfold md_ok at hd ⊢
      rw [hf.1 177 (by decide), hf.1 179 (by decide), hf.1 180 (by decide), hf.1 181 (by decide)]; exact hd
    have e104 : N 178 (Int.toNat 104) = (nt.length : Int) := by
      show N 178 104 = _
      rw [hf.2 104 (by omega)]; exact hn.1
    have hT1 := hT.1
    have hT2 := hT.2
    have hsel := md_sel_in (M := N) (at_ := 360) (x := x) hT1
    by_cases hlt : i < nt.length
    · have eN : md_take (N 178) (360 + 10 + 9 * x) (md_sel N 360 x) (96 + i).toNat = nt.getD i.toNat 0 ∨ md_sel N 360 x < 0 := by
        by_cases hs : md_sel N 360 x < 0
        · exact Or.inr hs
        · left
          unfold md_take
          rw [if_neg (by omega), if_neg (by omega), hf.2 _ (by omega)]
          exact hn.2.2 i i0 hlt
      have hnv := hno _ (fp_getD_mem (L := nt) (i := i.toNat) (by omega))
      have frtake : ∀ s, 0 ≤ s → frT M (fp_upM N 178 (md_take (N 178) (360 + 10 + 9 * x) s)) := fun s hs => ⟨fun c hc => by rw [fp_upM_ne hc]; exact hf.1 c hc, fun j hj => by rw [fp_upM_at]; unfold md_take; rw [if_neg (by omega), if_neg (by omega)]; exact hf.2 j hj⟩
      refine S.iload (pc' := 54) dX12_fitsRow_52 rfl rfl ?_
      refine S.aload_n (pc' := 55) dX12_fitsRow_54 rfl rfl rfl ?_
      refine S.getR (pc' := 58) dX12_fitsRow_55 rfl fX12_7 L_177 rf_177_0 ?_
      refine S.bipush (pc' := 60) dX12_fitsRow_58 rfl (by decide) ?_
      refine S.iald (pc' := 61) dX12_fitsRow_60 rfl L_178 (by omega) (by omega) ?_
      rw [e104]
      refine S.icmp_ge (pc' := 64) (tgt := 112) dX12_fitsRow_61 (by decide) rfl (by unfold fp_rng; omega) (by unfold fp_rng; omega) (fun h61 => ?_) (fun h61 => ?_)
      · exfalso; omega
      · refine S.aload_n (pc' := 65) dX12_fitsRow_64 rfl rfl rfl ?_
        refine S.sipush (pc' := 68) dX12_fitsRow_65 rfl (by decide) ?_
        refine S.iload_n (pc' := 69) dX12_fitsRow_68 rfl rfl rfl ?_
        refine S.callVe (pc' := 72) dX12_fitsRow_69 rfl cX12_216 (ok_X12_givesAt (by omega) (by omega) hx dN hT1 hT2) rfl L_177 (by decide) rfl (Nat.le_of_ble_eq_true rfl) ?_
        refine S.istore (pc' := 74) (LL' := [_, _, _, _, _, _]) dX12_fitsRow_72 rfl (by decide) rfl rfl ?_
        refine S.iload (pc' := 76) dX12_fitsRow_74 rfl rfl ?_
        refine S.bipush (pc' := 78) dX12_fitsRow_76 rfl (by decide) ?_
        refine S.icmp_eq (pc' := 81) (tgt := 104) dX12_fitsRow_78 (by decide) rfl (by unfold fp_rng; omega) (by unfold fp_rng; omega) (fun h78 => ?_) (fun h78 => ?_)
        · refine S.iconst (pc' := 105) dX12_fitsRow_104 rfl ?_
          refine S.zret dX12_fitsRow_105 rfl (by first | exact Or.inl rfl | exact Or.inr rfl | omega) ?_
          first
          | exact ⟨Or.inl rfl, hf⟩
          | exact ⟨Or.inl rfl, frtake _ (by omega)⟩
        · refine S.aload_n (pc' := 82) dX12_fitsRow_81 rfl rfl rfl ?_
          refine S.sipush (pc' := 85) dX12_fitsRow_82 rfl (by decide) ?_
          refine S.iload_n (pc' := 86) dX12_fitsRow_85 rfl rfl rfl ?_
          refine S.iload (pc' := 88) dX12_fitsRow_86 rfl rfl ?_
          refine S.callVe (pc' := 91) dX12_fitsRow_88 rfl cX12_241 (ok_X12_takesOut (by omega) (by omega) hx (by omega) (by omega)) rfl L_177 (by decide) rfl (Nat.le_of_ble_eq_true rfl) ?_
          have hsv := hT2 (md_sel N 360 x) (by omega) (by omega)
          refine S.aload_n (pc' := 92) dX12_fitsRow_91 rfl rfl rfl ?_
          refine S.getR (pc' := 95) dX12_fitsRow_92 rfl fX12_7 L_177 rf_177_0 ?_
          refine S.bipush (pc' := 97) dX12_fitsRow_95 rfl (by decide) ?_
          refine S.iload (pc' := 99) dX12_fitsRow_97 rfl rfl ?_
          refine S.iadd (pc' := 100) dX12_fitsRow_99 rfl ?_
          refine S.iald (pc' := 101) dX12_fitsRow_100 rfl L_178 (by omega) (by omega) ?_
          rw [fp_upM_at, eN.resolve_right (by omega)]
          refine S.icmp_eq (pc' := 104) (tgt := 106) dX12_fitsRow_101 (by decide) rfl (by unfold fp_rng; omega) (by unfold fp_rng; omega) (fun h101 => ?_) (fun h101 => ?_)
          · refine S.iinc (pc' := 109) (LL' := [_, _, _, _, _, _]) dX12_fitsRow_106 rfl (by decide) rfl rfl rfl ?_
            refine S.goto (pc' := 52) dX12_fitsRow_109 (by decide) ?_
            exact ih _ _ _ (by omega) (by omega) (by omega) (frtake _ (by omega)) (by rw [fp_upM_at]; exact hT.take hx (by omega))
          · refine S.iconst (pc' := 105) dX12_fitsRow_104 rfl ?_
            refine S.zret dX12_fitsRow_105 rfl (by first | exact Or.inl rfl | exact Or.inr rfl | omega) ?_
            first
            | exact ⟨Or.inl rfl, hf⟩
            | exact ⟨Or.inl rfl, frtake _ (by omega)⟩
    · refine S.iload (pc' := 54) dX12_fitsRow_52 rfl rfl ?_
      refine S.aload_n (pc' := 55) dX12_fitsRow_54 rfl rfl rfl ?_
      refine S.getR (pc' := 58) dX12_fitsRow_55 rfl fX12_7 L_177 rf_177_0 ?_
      refine S.bipush (pc' := 60) dX12_fitsRow_58 rfl (by decide) ?_
      refine S.iald (pc' := 61) dX12_fitsRow_60 rfl L_178 (by omega) (by omega) ?_
      rw [e104]
      refine S.icmp_ge (pc' := 64) (tgt := 112) dX12_fitsRow_61 (by decide) rfl (by unfold fp_rng; omega) (by unfold fp_rng; omega) (fun h61 => ?_) (fun h61 => ?_)
      · refine S.iconst (pc' := 113) dX12_fitsRow_112 rfl ?_
        refine S.zret dX12_fitsRow_113 rfl (by first | exact Or.inl rfl | exact Or.inr rfl | omega) ?_
        exact ⟨Or.inr rfl, hf⟩
      · exfalso; omega
theorem wk_X12_fitsRow {x m : Int} (hx : 0 ≤ x ∧ x < 3) (hm : 0 ≤ m ∧ m ≤ 8) (hd : md_ok M) (hr : ∀ k : Nat, (k : Int) < m → 0 ≤ M 194 k ∧ M 194 k ≤ 9) (hn : mnRow (M 178) nt) (hno : ∀ t ∈ nt, 0 ≤ t ∧ t ≤ 9) : fp_Ok l G 2 kX12_fitsRow [rV G 177, iV x, iV m] M (qI fun z O => (z = 0 ∨ z = 1) ∧ frT M O) := by
  have hL : ∀ (r : Nat) (i : Int) (N : fp_Mem), (8 - i).toNat < r → 0 ≤ i → i ≤ m → frT M N → N 178 (360 + 10 + 9 * x).toNat = m → (∀ k : Int, 0 ≤ k → k < i → N 178 (360 + 10 + 9 * x + 1 + k).toNat = M 194 k.toNat) → fp_S l G 2 kX12_fitsRow 19 [some (rV G 177), some (iV x), some (iV m), some (iV (370 + 9 * x)), some (iV i), none] [] N (qI fun z O => (z = 0 ∨ z = 1) ∧ frT M O) := by
    intro r
    induction r with
    | zero => intro i N hr; omega
    | succ r ih =>
      intro i N hr' i0 i1 hf hb hR
      by_cases hlt : i < m
      · refine S.iload (pc' := 21) dX12_fitsRow_19 rfl rfl ?_
        refine S.iload_n (pc' := 22) dX12_fitsRow_21 rfl rfl rfl ?_
        refine S.icmp_ge (pc' := 25) (tgt := 49) dX12_fitsRow_22 (by decide) rfl (by unfold fp_rng; omega) (by unfold fp_rng; omega) (fun h22 => ?_) (fun h22 => ?_)
        · exfalso; omega
        · refine S.aload_n (pc' := 26) dX12_fitsRow_25 rfl rfl rfl ?_
          refine S.getR (pc' := 29) dX12_fitsRow_26 rfl fX12_7 L_177 rf_177_0 ?_
          refine S.iload_n (pc' := 30) dX12_fitsRow_29 rfl rfl rfl ?_
          refine S.iconst (pc' := 31) dX12_fitsRow_30 rfl ?_
          refine S.iadd (pc' := 32) dX12_fitsRow_31 rfl ?_
          refine S.iload (pc' := 34) dX12_fitsRow_32 rfl rfl ?_
          refine S.iadd (pc' := 35) dX12_fitsRow_34 rfl ?_
          refine S.aload_n (pc' := 36) dX12_fitsRow_35 rfl rfl rfl ?_
          refine S.getR (pc' := 39) dX12_fitsRow_36 rfl fX12_63 L_177 rf_177_35 ?_
          refine S.iload (pc' := 41) dX12_fitsRow_39 rfl rfl ?_
          refine S.iald (pc' := 42) dX12_fitsRow_41 rfl L_194 (by omega) (by omega) ?_
          refine S.iast (pc' := 43) dX12_fitsRow_42 rfl L_178 (by omega) (by omega) ?_
          refine S.iinc (pc' := 46) (LL' := [_, _, _, _, _, _]) dX12_fitsRow_43 rfl (by decide) rfl rfl rfl ?_
          refine S.goto (pc' := 19) dX12_fitsRow_46 (by decide) ?_
          refine ih _ _ (by omega) (by omega) (by omega) ⟨fun c hc => by rw [fp_up_ne hc]; exact hf.1 c hc, fun j hj => by rw [fp_up_at, fp_upf_ne (by omega)]; exact hf.2 j hj⟩ (by rw [fp_up_at, fp_upf_ne (by omega)]; exact hb) (fun k k0 k1 => ?_)
          rw [fp_up_at]
          by_cases e : k = i
          · rw [e, show (360 + 10 + 9 * x + 1 + i).toNat = (370 + 9 * x + 1 + i).toNat by omega, fp_upf_at, hf.1 194 (by decide)]
          · rw [fp_upf_ne (by omega)]; exact hR k k0 (by omega)
      · refine S.iload (pc' := 21) dX12_fitsRow_19 rfl rfl ?_
        refine S.iload_n (pc' := 22) dX12_fitsRow_21 rfl rfl rfl ?_
        refine S.icmp_ge (pc' := 25) (tgt := 49) dX12_fitsRow_22 (by decide) rfl (by unfold fp_rng; omega) (by unfold fp_rng; omega) (fun h22 => ?_) (fun h22 => ?_)
        · refine S.iconst (pc' := 50) dX12_fitsRow_49 rfl ?_
          refine S.istore (pc' := 52) (LL' := [_, _, _, _, _, _]) dX12_fitsRow_50 rfl (by decide) rfl rfl ?_
          exact fits_two hx hd hn hno 9 0 _ _ (by omega) (by omega) (by omega) hf ⟨by omega, fun k k0 k1 => by rw [hR k k0 (by omega)]; have := hr k.toNat (by omega); omega⟩
        · exfalso; omega
  refine fp_Ok.of (r := 3) rfl (Nat.le_of_ble_eq_true rfl) rfl ?_
  refine S.sipush (pc' := 3) dX12_fitsRow_0 rfl (by decide) ?_
  refine S.bipush (pc' := 5) dX12_fitsRow_3 rfl (by decide) ?_
  refine S.iload_n (pc' := 6) dX12_fitsRow_5 rfl rfl rfl ?_
  refine S.imul (pc' := 7) dX12_fitsRow_6 rfl ?_
  refine S.iadd (pc' := 8) dX12_fitsRow_7 rfl ?_
  refine S.istore_n (pc' := 9) (LL' := [_, _, _, _, _, _]) dX12_fitsRow_8 rfl (by decide) rfl rfl rfl ?_
  refine S.aload_n (pc' := 10) dX12_fitsRow_9 rfl rfl rfl ?_
  refine S.getR (pc' := 13) dX12_fitsRow_10 rfl fX12_7 L_177 rf_177_0 ?_
  refine S.iload_n (pc' := 14) dX12_fitsRow_13 rfl rfl rfl ?_
  refine S.iload_n (pc' := 15) dX12_fitsRow_14 rfl rfl rfl ?_
  refine S.iast (pc' := 16) dX12_fitsRow_15 rfl L_178 (by omega) (by omega) ?_
  refine S.iconst (pc' := 17) dX12_fitsRow_16 rfl ?_
  refine S.istore (pc' := 19) (LL' := [_, _, _, _, _, _]) dX12_fitsRow_17 rfl (by decide) rfl rfl ?_
  exact hL 9 0 _ (by omega) (by omega) (by omega) ⟨fun c hc => fp_up_ne hc, fun j hj => by rw [fp_up_at, fp_upf_ne (by omega)]⟩ (by rw [fp_up_at, show (360 + 10 + 9 * x).toNat = (370 + 9 * x).toNat by omega, fp_upf_at]) (fun k k0 k1 => by omega)
theorem mw_orders {x w : Int} (hc : MS M tp fl g pg vs nt im sh tn) (ho : OK g pg vs nt im sh) (hx : fp_rng x) (hw : fp_rng w) : fp_Ok l G 3 kX12_orders [rV G 177, iV x, iV w] M (qI fun _ N => MS N tp fl g pg vs nt im sh tn ∧ frD M N) := by
  have hcs := hc
  obtain ⟨-, hd, hcl, hv, hn, -⟩ := hc
  have hg := ho.1
  have hP := ho.2.1
  have hno := ho.2.2.2.1
  have e4 : M 177 4 = g.1 := hd.1
  have e5 : M 177 5 = g.2.1 := hd.2.1
  have hg1 := hg.1
  have hg2 := hg.2.1
  have hok := hd.2.2.2.2.2.2.2.2
  have hno9 : ∀ t ∈ nt, 0 ≤ t ∧ t ≤ 9 := fun t ht => by have := hno.1 t ht; omega
  have hw' := hw
  unfold fp_rng at hw'
  refine fp_Ok.of (r := 5) rfl (Nat.le_of_ble_eq_true rfl) rfl ?_
  have h28 : (0 ≤ x ∧ x < g.2.1) → (w = 0 ∨ (10 ≤ w ∧ w ≤ 17)) → fp_S l G 3 kX12_orders 28 [some (rV G 177), some (iV x), some (iV w), none, none, none, none, none] [] M (qI fun _ N => MS N tp fl g pg vs nt im sh tn ∧ frD M N) := by
    intro hxx hww
    have hx3 : 0 ≤ x ∧ x < 3 := by omega
    have hlen : M 178 (0 + 10 + 9 * x).toNat = (pg.2.2 x).length := (hcl.2.2 x hxx.1 hx3.2).1
    obtain ⟨l1, l2, l3, l4⟩ := hP.2.1 x hxx.1 hx3.2
    generalize hm : ((pg.2.2 x).length : Int) = m at *
    by_cases h7 : m ≤ 7
    · have h158 : ∀ (N : fp_Mem) (n many more : Int) (o7 : Option Value), 0 ≤ many ∧ many ≤ 20000000 → frY M N → fp_S l G 3 kX12_orders 158 [some (rV G 177), some (iV x), some (iV w), some (iV m), some (iV n), some (iV many), some (iV more), o7] [] N (qI fun _ N => MS N tp fl g pg vs nt im sh tn ∧ frD M N) := by
        intro N n many more o7 hmn f1
        refine S.iload_n (pc' := 159) dX12_orders_158 rfl rfl rfl ?_
        refine S.if_ne (pc' := 162) (tgt := 167) dX12_orders_159 (by decide) rfl (by unfold fp_rng; omega) (fun h159 => ?_) (fun h159 => ?_)
        · refine S.iload (pc' := 169) dX12_orders_167 rfl rfl ?_
          refine S.if_eq (pc' := 172) (tgt := 180) dX12_orders_169 (by decide) rfl (by unfold fp_rng; omega) (fun h169 => ?_) (fun h169 => ?_)
          · refine S.bipush (pc' := 182) dX12_orders_180 rfl (by decide) ?_
            refine S.goto (pc' := 194) dX12_orders_182 (by decide) ?_
            refine S.iret dX12_orders_194 rfl ?_
            exact ⟨hcs.yy ho f1, f1.d⟩
          · refine S.iload_n (pc' := 173) dX12_orders_172 rfl rfl rfl ?_
            refine S.bipush (pc' := 175) dX12_orders_173 rfl (by decide) ?_
            refine S.isub (pc' := 176) dX12_orders_175 rfl ?_
            refine S.iload_n (pc' := 177) dX12_orders_176 rfl rfl rfl ?_
            refine S.icmp_lt (pc' := 180) (tgt := 185) dX12_orders_177 (by decide) rfl (by unfold fp_rng; omega) (by unfold fp_rng; omega) (fun h177 => ?_) (fun h177 => ?_)
            · refine S.aload_n (pc' := 186) dX12_orders_185 rfl rfl rfl ?_
              refine S.getR (pc' := 189) dX12_orders_186 rfl fX12_66 L_177 rf_177_36 ?_
              refine S.iload_n (pc' := 190) dX12_orders_189 rfl rfl rfl ?_
              refine S.bipush (pc' := 192) dX12_orders_190 rfl (by decide) ?_
              refine S.isub (pc' := 193) dX12_orders_192 rfl ?_
              refine S.iald (pc' := 194) dX12_orders_193 rfl L_195 (by omega) (by omega) ?_
              refine S.iret dX12_orders_194 rfl ?_
              exact ⟨hcs.yy ho f1, f1.d⟩
            · refine S.bipush (pc' := 182) dX12_orders_180 rfl (by decide) ?_
              refine S.goto (pc' := 194) dX12_orders_182 (by decide) ?_
              refine S.iret dX12_orders_194 rfl ?_
              exact ⟨hcs.yy ho f1, f1.d⟩
        · refine S.iload (pc' := 164) dX12_orders_162 rfl rfl ?_
          refine S.goto (pc' := 194) dX12_orders_164 (by decide) ?_
          refine S.iret dX12_orders_194 rfl ?_
          exact ⟨hcs.yy ho f1, f1.d⟩
      have hLoop : ∀ (r : Nat) (n many : Int) (N : fp_Mem) (o7 : Option Value), (10000000 - rwV (N 194) m.toNat).toNat < r → frY M N → rOk (N 194) m → 0 ≤ many ∧ many ≤ rwV (N 194) m.toNat → fp_S l G 3 kX12_orders 97 [some (rV G 177), some (iV x), some (iV w), some (iV m), some (iV n), some (iV many), some (iV 1), o7] [] N (qI fun _ N => MS N tp fl g pg vs nt im sh tn ∧ frD M N) := by
        intro r
        induction r with
        | zero => intro n many N o7 hr; omega
        | succ r ih =>
          intro n many N o7 hr hf hR hmn
          have hVb := rwV_in (f := N 194) m.toNat (fun k hk => hR.1 k (by omega))
          have hp7 := pow10_7 (show m.toNat < 8 by omega)
          have h97e : ∀ (n many : Int) (O : fp_Mem) (o7 : Option Value), 0 ≤ many ∧ many ≤ 20000000 → frY M O → fp_S l G 3 kX12_orders 97 [some (rV G 177), some (iV x), some (iV w), some (iV m), some (iV n), some (iV many), some (iV 0), o7] [] O (qI fun _ N => MS N tp fl g pg vs nt im sh tn ∧ frD M N) := by
            intro n many O o7 hmm fO
            refine S.iload (pc' := 99) dX12_orders_97 rfl rfl ?_
            refine S.if_eq (pc' := 102) (tgt := 158) dX12_orders_99 (by decide) rfl (by unfold fp_rng; omega) (fun h99 => ?_) (fun h99 => ?_)
            · exact h158 _ _ _ _ _ hmm fO
            · exact absurd rfl h99
          have h148 : ∀ (O : fp_Mem) (many : Int) (o7 : Option Value), frY M O → O 194 = N 194 → 0 ≤ many ∧ many ≤ rwV (N 194) m.toNat + 1 → fp_S l G 3 kX12_orders 148 [some (rV G 177), some (iV x), some (iV w), some (iV m), some (iV n), some (iV many), some (iV 1), o7] [] O (qI fun _ N => MS N tp fl g pg vs nt im sh tn ∧ frD M N) := by
            intro O many o7 f1 e1 hmn1
            refine S.aload_n (pc' := 149) dX12_orders_148 rfl rfl rfl ?_
            refine S.iload_n (pc' := 150) dX12_orders_149 rfl rfl rfl ?_
            refine S.callVi (pc' := 153) dX12_orders_150 rfl cX12_315 (rk_X12_nextRow (by omega) (by rw [e1]; exact hR)) rfl L_177 (by decide) rfl (Nat.le_of_ble_eq_true rfl) (fun z150 M150 q150 => ?_)
            obtain ⟨f2, hz⟩ := q150
            have f3 : frY M M150 := f1.trans ⟨fun c _ a2 _ => f2 c a2, fun j _ => by rw [f2 178 (by decide)]⟩
            refine S.istore (pc' := 155) (LL' := [_, _, _, _, _, _, _, _]) dX12_orders_153 rfl (by decide) rfl rfl ?_
            refine S.goto (pc' := 97) dX12_orders_155 (by decide) ?_
            rcases hz with rfl | ⟨rfl, r1, r2⟩
            · exact h97e _ _ _ _ (by omega) f3
            · rw [e1] at r2
              exact ih _ _ _ _ (by omega) f3 r1 (by omega)
          have hrow : ∀ k : Nat, (k : Int) < m → 0 ≤ N 194 k ∧ N 194 k ≤ 9 := hR.1
          have hnN : mnRow (N 178) nt := hn.kept (fun j j0 j1 => hf.2 j (by omega))
          have h114 : ∀ (rr : Nat) (i : Int) (O : fp_Mem), (8 - i).toNat < rr → 0 ≤ i → i ≤ m → frY M O → O 194 = N 194 → fp_S l G 3 kX12_orders 114 [some (rV G 177), some (iV x), some (iV w), some (iV m), some (iV n), some (iV many), some (iV 1), some (iV i)] [] O (qI fun _ N => MS N tp fl g pg vs nt im sh tn ∧ frD M N) := by
            intro rr
            induction rr with
            | zero => intro i O hr; omega
            | succ rr ihh =>
              intro i O hr2 i0 i1 f1 e1
              refine S.iload (pc' := 116) dX12_orders_114 rfl rfl ?_
              refine S.iload_n (pc' := 117) dX12_orders_116 rfl rfl rfl ?_
              refine S.icmp_ge (pc' := 120) (tgt := 145) dX12_orders_117 (by decide) rfl (by unfold fp_rng; omega) (by unfold fp_rng; omega) (fun h117 => ?_) (fun h117 => ?_)
              · refine S.iinc (pc' := 148) (LL' := [_, _, _, _, _, _, _, _]) dX12_orders_145 rfl (by decide) rfl rfl rfl ?_
                exact h148 _ _ _ f1 e1 (by omega)
              · refine S.iload (pc' := 122) dX12_orders_120 rfl rfl ?_
                refine S.if_ne (pc' := 125) (tgt := 145) dX12_orders_122 (by decide) rfl (by unfold fp_rng; omega) (fun h122 => ?_) (fun h122 => ?_)
                · refine S.iinc (pc' := 148) (LL' := [_, _, _, _, _, _, _, _]) dX12_orders_145 rfl (by decide) rfl rfl rfl ?_
                  exact h148 _ _ _ f1 e1 (by omega)
                · refine S.aload_n (pc' := 126) dX12_orders_125 rfl rfl rfl ?_
                  refine S.getR (pc' := 129) dX12_orders_126 rfl fX12_66 L_177 rf_177_36 ?_
                  refine S.iload (pc' := 131) dX12_orders_129 rfl rfl ?_
                  refine S.aload_n (pc' := 132) dX12_orders_131 rfl rfl rfl ?_
                  refine S.getR (pc' := 135) dX12_orders_132 rfl fX12_63 L_177 rf_177_35 ?_
                  refine S.iload (pc' := 137) dX12_orders_135 rfl rfl ?_
                  refine S.iald (pc' := 138) dX12_orders_137 rfl L_194 (by omega) (by omega) ?_
                  refine S.iast (pc' := 139) dX12_orders_138 rfl L_195 (by omega) (by omega) ?_
                  refine S.iinc (pc' := 142) (LL' := [_, _, _, _, _, _, _, _]) dX12_orders_139 rfl (by decide) rfl rfl rfl ?_
                  refine S.goto (pc' := 114) dX12_orders_142 (by decide) ?_
                  exact ihh _ _ (by omega) (by omega) (by omega) (f1.trans ⟨fun c _ _ a3 => fp_up_ne a3, fun j _ => by rw [fp_up_ne (by decide)]⟩) (by rw [fp_up_ne (by decide)]; exact e1)
          refine S.iload (pc' := 99) dX12_orders_97 rfl rfl ?_
          refine S.if_eq (pc' := 102) (tgt := 158) dX12_orders_99 (by decide) rfl (by unfold fp_rng; omega) (fun h99 => ?_) (fun h99 => ?_)
          · exact absurd h99 (by decide)
          · refine S.aload_n (pc' := 103) dX12_orders_102 rfl rfl rfl ?_
            refine S.iload_n (pc' := 104) dX12_orders_103 rfl rfl rfl ?_
            refine S.iload_n (pc' := 105) dX12_orders_104 rfl rfl rfl ?_
            refine S.callVi (pc' := 108) dX12_orders_105 rfl cX12_312 (wk_X12_fitsRow hx3 (by omega) (hf.ok hok) hrow hnN hno9) rfl L_177 (by decide) rfl (Nat.le_of_ble_eq_true rfl) (fun z105 M105 q105 => ?_)
            obtain ⟨z1, f1⟩ := q105
            refine S.if_eq (pc' := 111) (tgt := 148) dX12_orders_108 (by decide) rfl (by unfold fp_rng; omega) (fun h108 => ?_) (fun h108 => ?_)
            · exact h148 _ _ _ (hf.trans f1.y) (f1.1 194 (by decide)) (by omega)
            · refine S.iconst (pc' := 112) dX12_orders_111 rfl ?_
              refine S.istore (pc' := 114) (LL' := [_, _, _, _, _, _, _, _]) dX12_orders_112 rfl (by decide) rfl rfl ?_
              exact h114 9 0 _ (by omega) (by omega) (by omega) (hf.trans f1.y) (f1.1 194 (by decide))
      have hcnt := cntL_len (n := g.1.toNat) (pg.2.2 x) l2 (fun t ht => by have := l4 t ht; omega)
      have hBuild : ∀ (r k : Nat) (N : fp_Mem), g.1.toNat - k < r → (k : Int) ≤ g.1 → (∀ c, c ≠ 194 → N c = M c) → (∀ a : Nat, (a : Int) < cntL (pg.2.2 x) k → 0 ≤ N 194 a ∧ N 194 a < k) → (∀ a b : Nat, a < b → (b : Int) < cntL (pg.2.2 x) k → N 194 a < N 194 b) → fp_S l G 3 kX12_orders 50 [some (rV G 177), some (iV x), some (iV w), some (iV m), some (iV (cntL (pg.2.2 x) k)), some (iV (k : Int)), none, none] [] N (qI fun _ N => MS N tp fl g pg vs nt im sh tn ∧ frD M N) := by
        intro r
        induction r with
        | zero => intro k N hr; omega
        | succ r ih =>
          intro k N hr hk hf h1 h2
          have n4 : N 177 4 = g.1 := by rw [hf 177 (by decide)]; exact e4
          have hci := cntL_in (pg.2.2 x) k (g.1.toNat - k)
          rw [show k + (g.1.toNat - k) = g.1.toNat by omega, hcnt] at hci
          by_cases hlt : (k : Int) < g.1
          · have hw1 := hP.1 (k : Int) (by omega) hlt
            have ek : N 178 ((k : Int)).toNat = pg.1 (k : Int) := by
              rw [hf 178 (by decide)]
              have := hcl.1 (k : Int) (by omega) hlt
              rw [Int.zero_add] at this
              exact this
            have hmem : (k : Int) ∈ pg.2.2 x ↔ pg.1 (k : Int) = 10 + x := by
              constructor
              · intro q; exact (l4 _ q).2.2
              · intro q
                have := (hP.2.2 (k : Int) (by omega) hlt (by omega)).1
                rw [q, show 10 + x - 10 = x by omega] at this
                exact this
            have hci2 := cntL_in (pg.2.2 x) (k + 1) (g.1.toNat - (k + 1))
            rw [show k + 1 + (g.1.toNat - (k + 1)) = g.1.toNat by omega, hcnt] at hci2
            have es : cntL (pg.2.2 x) (k + 1) = cntL (pg.2.2 x) k + if (k : Int) ∈ pg.2.2 x then 1 else 0 := rfl
            have hi := ih (k + 1)
            by_cases hin : pg.1 (k : Int) = 10 + x
            · rw [if_pos (hmem.mpr hin)] at es
              rw [es] at hi hci2
              have h85 : fp_S l G 3 kX12_orders 85 [some (rV G 177), some (iV x), some (iV w), some (iV m), some (iV (cntL (pg.2.2 x) k + 1)), some (iV (k : Int)), none, none] [] (fp_up N 194 (cntL (pg.2.2 x) k).toNat (k : Int)) (qI fun _ N => MS N tp fl g pg vs nt im sh tn ∧ frD M N) := by
                refine S.iinc (pc' := 88) (LL' := [_, _, _, _, _, _, _, _]) dX12_orders_85 rfl (by decide) rfl rfl rfl ?_
                refine S.goto (pc' := 50) dX12_orders_88 (by decide) ?_
                rw [show ((k : Int) + 1) = ((k + 1 : Nat) : Int) by omega]
                refine hi _ (by omega) (by omega) (fun c hc => by rw [fp_up_ne hc]; exact hf c hc) (fun a ha => ?_) (fun a b hab hb => ?_)
                · rw [fp_up_at]
                  by_cases e : a = (cntL (pg.2.2 x) k).toNat
                  · rw [e, fp_upf_at]; omega
                  · rw [fp_upf_ne e]
                    have := h1 a (by omega)
                    omega
                · rw [fp_up_at, fp_upf_ne (show a ≠ (cntL (pg.2.2 x) k).toNat by omega)]
                  by_cases e : b = (cntL (pg.2.2 x) k).toNat
                  · rw [e, fp_upf_at]
                    exact (h1 a (by omega)).2
                  · rw [fp_upf_ne e]; exact h2 a b hab (by omega)
              refine S.iload (pc' := 52) dX12_orders_50 rfl rfl ?_
              refine S.aload_n (pc' := 53) dX12_orders_52 rfl rfl rfl ?_
              refine S.getI (pc' := 56) dX12_orders_53 rfl fX12_181 L_177 ?_
              rw [n4]
              refine S.icmp_ge (pc' := 59) (tgt := 91) dX12_orders_56 (by decide) rfl (by unfold fp_rng; omega) (by unfold fp_rng; omega) (fun h56 => ?_) (fun h56 => ?_)
              · exfalso; omega
              · refine S.aload_n (pc' := 60) dX12_orders_59 rfl rfl rfl ?_
                refine S.getR (pc' := 63) dX12_orders_60 rfl fX12_7 L_177 rf_177_0 ?_
                refine S.iload (pc' := 65) dX12_orders_63 rfl rfl ?_
                refine S.iald (pc' := 66) dX12_orders_65 rfl L_178 (by omega) (by omega) ?_
                rw [ek]
                refine S.bipush (pc' := 68) dX12_orders_66 rfl (by decide) ?_
                refine S.iload_n (pc' := 69) dX12_orders_68 rfl rfl rfl ?_
                refine S.iadd (pc' := 70) dX12_orders_69 rfl ?_
                refine S.icmp_ne (pc' := 73) (tgt := 85) dX12_orders_70 (by decide) rfl (by unfold fp_rng; omega) (by unfold fp_rng; omega) (fun h70 => ?_) (fun h70 => ?_)
                · first
                  | (exfalso; omega)
                  | exact h85
                · refine S.aload_n (pc' := 74) dX12_orders_73 rfl rfl rfl ?_
                  refine S.getR (pc' := 77) dX12_orders_74 rfl fX12_63 L_177 rf_177_35 ?_
                  refine S.iload (pc' := 79) dX12_orders_77 rfl rfl ?_
                  refine S.iload (pc' := 81) dX12_orders_79 rfl rfl ?_
                  refine S.iast (pc' := 82) dX12_orders_81 rfl L_194 (by omega) (by omega) ?_
                  refine S.iinc (pc' := 85) (LL' := [_, _, _, _, _, _, _, _]) dX12_orders_82 rfl (by decide) rfl rfl rfl ?_
                  first
                  | (exfalso; omega)
                  | exact h85
            · rw [if_neg (fun q => hin (hmem.mp q)), Int.add_zero] at es
              rw [es] at hi
              refine S.iload (pc' := 52) dX12_orders_50 rfl rfl ?_
              refine S.aload_n (pc' := 53) dX12_orders_52 rfl rfl rfl ?_
              refine S.getI (pc' := 56) dX12_orders_53 rfl fX12_181 L_177 ?_
              rw [n4]
              refine S.icmp_ge (pc' := 59) (tgt := 91) dX12_orders_56 (by decide) rfl (by unfold fp_rng; omega) (by unfold fp_rng; omega) (fun h56 => ?_) (fun h56 => ?_)
              · exfalso; omega
              · refine S.aload_n (pc' := 60) dX12_orders_59 rfl rfl rfl ?_
                refine S.getR (pc' := 63) dX12_orders_60 rfl fX12_7 L_177 rf_177_0 ?_
                refine S.iload (pc' := 65) dX12_orders_63 rfl rfl ?_
                refine S.iald (pc' := 66) dX12_orders_65 rfl L_178 (by omega) (by omega) ?_
                rw [ek]
                refine S.bipush (pc' := 68) dX12_orders_66 rfl (by decide) ?_
                refine S.iload_n (pc' := 69) dX12_orders_68 rfl rfl rfl ?_
                refine S.iadd (pc' := 70) dX12_orders_69 rfl ?_
                refine S.icmp_ne (pc' := 73) (tgt := 85) dX12_orders_70 (by decide) rfl (by unfold fp_rng; omega) (by unfold fp_rng; omega) (fun h70 => ?_) (fun h70 => ?_)
                · refine S.iinc (pc' := 88) (LL' := [_, _, _, _, _, _, _, _]) dX12_orders_85 rfl (by decide) rfl rfl rfl ?_
                  refine S.goto (pc' := 50) dX12_orders_88 (by decide) ?_
                  rw [show ((k : Int) + 1) = ((k + 1 : Nat) : Int) by omega]
                  exact hi N (by omega) (by omega) hf (fun a ha => by have := h1 a ha; omega) h2
                · exfalso; omega
          · have ek : k = g.1.toNat := by omega
            rw [ek, hcnt, hm] at h1 h2
            have hRR : rOk (N 194) m := ⟨fun a ha => by have := h1 a ha; omega, fun u v hu hv huv => by
              rcases Nat.lt_or_gt_of_ne huv with q | q
              · have := h2 u v q hv; omega
              · have := h2 v u q hu; omega⟩
            have hV0 := (rwV_in (f := N 194) m.toNat (fun a ha => hRR.1 a (by omega))).1
            refine S.iload (pc' := 52) dX12_orders_50 rfl rfl ?_
            refine S.aload_n (pc' := 53) dX12_orders_52 rfl rfl rfl ?_
            refine S.getI (pc' := 56) dX12_orders_53 rfl fX12_181 L_177 ?_
            rw [n4]
            refine S.icmp_ge (pc' := 59) (tgt := 91) dX12_orders_56 (by decide) rfl (by unfold fp_rng; omega) (by unfold fp_rng; omega) (fun h56 => ?_) (fun h56 => ?_)
            · refine S.iconst (pc' := 92) dX12_orders_91 rfl ?_
              refine S.istore (pc' := 94) (LL' := [_, _, _, _, _, _, _, _]) dX12_orders_92 rfl (by decide) rfl rfl ?_
              refine S.iconst (pc' := 95) dX12_orders_94 rfl ?_
              refine S.istore (pc' := 97) (LL' := [_, _, _, _, _, _, _, _]) dX12_orders_95 rfl (by decide) rfl rfl ?_
              exact hLoop _ _ 0 N _ (Nat.lt_succ_self _) ⟨fun c _ a2 _ => hf c a2, fun j _ => by rw [hf 178 (by decide)]⟩ hRR (by omega)
            · exfalso; omega
      refine S.aload_n (pc' := 29) dX12_orders_28 rfl rfl rfl ?_
      refine S.iconst (pc' := 30) dX12_orders_29 rfl ?_
      refine S.iload_n (pc' := 31) dX12_orders_30 rfl rfl rfl ?_
      refine S.callVe (pc' := 34) dX12_orders_31 rfl cX12_198 (ok_X12_lie (by omega) (by omega) hx3) rfl L_177 (by decide) rfl (Nat.le_of_ble_eq_true rfl) ?_
      rw [hlen]
      refine S.istore_n (pc' := 35) (LL' := [_, _, _, _, _, _, _, _]) dX12_orders_34 rfl (by decide) rfl rfl rfl ?_
      refine S.iload_n (pc' := 36) dX12_orders_35 rfl rfl rfl ?_
      refine S.bipush (pc' := 38) dX12_orders_36 rfl (by decide) ?_
      refine S.icmp_le (pc' := 41) (tgt := 44) dX12_orders_38 (by decide) rfl (by unfold fp_rng; omega) (by unfold fp_rng; omega) (fun h38 => ?_) (fun h38 => ?_)
      · refine S.iconst (pc' := 45) dX12_orders_44 rfl ?_
        refine S.istore (pc' := 47) (LL' := [_, _, _, _, _, _, _, _]) dX12_orders_45 rfl (by decide) rfl rfl ?_
        refine S.iconst (pc' := 48) dX12_orders_47 rfl ?_
        refine S.istore (pc' := 50) (LL' := [_, _, _, _, _, _, _, _]) dX12_orders_48 rfl (by decide) rfl rfl ?_
        exact hBuild _ 0 M (Nat.lt_succ_self _) (by omega) (fun _ _ => rfl) (fun a ha => by have : cntL (pg.2.2 x) 0 = 0 := rfl; omega) (fun a b _ hb => by have : cntL (pg.2.2 x) 0 = 0 := rfl; omega)
      · exfalso; omega
    · refine S.aload_n (pc' := 29) dX12_orders_28 rfl rfl rfl ?_
      refine S.iconst (pc' := 30) dX12_orders_29 rfl ?_
      refine S.iload_n (pc' := 31) dX12_orders_30 rfl rfl rfl ?_
      refine S.callVe (pc' := 34) dX12_orders_31 rfl cX12_198 (ok_X12_lie (by omega) (by omega) hx3) rfl L_177 (by decide) rfl (Nat.le_of_ble_eq_true rfl) ?_
      rw [hlen]
      refine S.istore_n (pc' := 35) (LL' := [_, _, _, _, _, _, _, _]) dX12_orders_34 rfl (by decide) rfl rfl rfl ?_
      refine S.iload_n (pc' := 36) dX12_orders_35 rfl rfl rfl ?_
      refine S.bipush (pc' := 38) dX12_orders_36 rfl (by decide) ?_
      refine S.icmp_le (pc' := 41) (tgt := 44) dX12_orders_38 (by decide) rfl (by unfold fp_rng; omega) (by unfold fp_rng; omega) (fun h38 => ?_) (fun h38 => ?_)
      · exfalso; omega
      · refine S.bipush (pc' := 43) dX12_orders_41 rfl (by decide) ?_
        refine S.iret dX12_orders_43 rfl ?_
        exact ⟨hcs, frD.refl _⟩
  refine S.aload_n (pc' := 1) dX12_orders_0 rfl rfl rfl ?_
  refine S.iload_n (pc' := 2) dX12_orders_1 rfl rfl rfl ?_
  refine S.callVi (pc' := 5) dX12_orders_2 rfl cX12_219 (bk_X12_isLine) rfl L_177 (by decide) rfl (Nat.le_of_ble_eq_true rfl) (fun z2 M2 q2 => ?_)
  obtain ⟨b2, rfl⟩ := q2
  refine S.if_eq (pc' := 8) (tgt := 26) dX12_orders_5 (by decide) rfl (by unfold fp_rng; omega) (fun h5 => ?_) (fun h5 => ?_)
  · refine S.iconst (pc' := 27) dX12_orders_26 rfl ?_
    refine S.iret dX12_orders_27 rfl ?_
    exact ⟨hcs, frD.refl _⟩
  · refine S.iload_n (pc' := 9) dX12_orders_8 rfl rfl rfl ?_
    refine S.if_eq (pc' := 12) (tgt := 28) dX12_orders_9 (by decide) rfl hw (fun h9 => ?_) (fun h9 => ?_)
    · exact h28 (by omega) (by omega)
    · refine S.iload_n (pc' := 13) dX12_orders_12 rfl rfl rfl ?_
      refine S.i2l (pc' := 14) dX12_orders_13 rfl hw ?_
      refine S.ldc2 (pc' := 17) (v := 10) dX12_orders_14 rfl lX12_212 (by decide) ?_
      refine S.ldc2 (pc' := 20) (v := 17) dX12_orders_17 rfl lX12_310 (by decide) ?_
      refine S.callSi (pc' := 23) dX12_orders_20 rfl cX12_94 (bk_X12_in) rfl (by decide) rfl (Nat.le_of_ble_eq_true rfl) (fun z20 M20 q20 => ?_)
      obtain ⟨b20, rfl⟩ := q20
      refine S.if_ne (pc' := 26) (tgt := 28) dX12_orders_23 (by decide) rfl (by unfold fp_rng; omega) (fun h23 => ?_) (fun h23 => ?_)
      · exact h28 (by omega) (by omega)
      · refine S.iconst (pc' := 27) dX12_orders_26 rfl ?_
        refine S.iret dX12_orders_27 rfl ?_
        exact ⟨hcs, frD.refl _⟩
end MOT
end
