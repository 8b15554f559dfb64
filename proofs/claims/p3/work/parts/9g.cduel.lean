/-! duel: the class, all turns -/
def dPre (M : fp_Mem) (turn : Int) : Prop := (0 ≤ M 121 0 ∧ M 121 0 ≤ 6) ∧ (∀ j : Int, 0 ≤ j → j ≤ 1 → (0 ≤ M 122 j.toNat ∧ M 122 j.toNat < 4) ∧ (0 ≤ M 123 j.toNat ∧ M 123 j.toNat ≤ 2)) ∧ dRow M (125 + turn.toNat) ∧ (0 ≤ M 132 turn.toNat ∧ M 132 turn.toNat ≤ 8) ∧ gd_ok M 18
def dPost (M N : fp_Mem) (turn : Int) : Prop := N 121 0 = M 121 0 ∧ N 123 = M 123 ∧ (∀ j : Nat, j ≤ turn.toNat → N 132 j = M 132 j) ∧ ∀ a, a ≠ 121 → a ≠ 123 → a ≠ 132 → (a ≤ 125 + turn.toNat ∨ 131 < a) → N a = M a
theorem dPost.refl (M : fp_Mem) (turn : Int) : dPost M M turn := ⟨rfl, rfl, fun _ _ => rfl, fun _ _ _ _ _ => rfl⟩
theorem dPost.gd {M N : fp_Mem} {turn : Int} (h : dPost M N turn) (hgd : gd_ok M 18) : gd_ok N 18 := by
  unfold gd_ok at hgd ⊢
  rw [h.2.2.2 18 (by decide) (by decide) (by decide) (by omega), h.2.2.2 (18 + 1) (by decide) (by decide) (by decide) (by omega), h.2.2.2 (18 + 2) (by decide) (by decide) (by decide) (by omega), h.2.2.2 (18 + 3) (by decide) (by decide) (by decide) (by omega)]
  exact hgd
theorem dPre.to {M N : fp_Mem} {turn : Int} (h : dPre M turn) (p : dPost M N turn) (ht : turn ≤ 6) : dPre N turn := by
  obtain ⟨h1, h2, h3, h4, h5⟩ := h
  refine ⟨by rw [p.1]; exact h1, fun j j0 j1 => ?_, fun i i0 i1 => ?_, ?_, p.gd h5⟩
  · rw [p.2.2.2 122 (by decide) (by decide) (by decide) (by omega), p.2.1]; exact h2 j j0 j1
  · rw [p.2.2.2 _ (by omega) (by omega) (by omega) (by omega)]; exact h3 i i0 i1
  · rw [p.2.2.1 _ (Nat.le_refl _)]; exact h4
section CDV2
variable {l : Launch} {G : fp_WG} {M N : fp_Mem} {tp : List Int} {fl : Int} {g : aGd} {pg : aPg} {vs : List aVt} {nt : List Int} {im : aIm} {sh : aSh} {tn : Int}
theorem wk_X0_takeBack {deed mover : Int} (hd : 0 ≤ deed ∧ deed < 3) (hm : 0 ≤ mover ∧ mover ≤ 1) : fp_Ok l G 0 kX0_takeBack [rV G 121, iV deed, iV mover] M (qV fun N => N 123 = (if deed = 1 then fp_upf (M 123) mover.toNat (M 123 mover.toNat + 1) else M 123) ∧ ∀ a, a ≠ 123 → N a = M a) := by
  refine fp_Ok.of (r := 0) rfl (Nat.le_of_ble_eq_true rfl) rfl ?_
  refine S.iload_n (pc' := 1) dX0_takeBack_0 rfl rfl rfl ?_
  refine S.iconst (pc' := 2) dX0_takeBack_1 rfl ?_
  refine S.icmp_ne (pc' := 5) (tgt := 15) dX0_takeBack_2 (by decide) rfl (by unfold fp_rng; omega) (by unfold fp_rng; omega) (fun h2 => ?_) (fun h2 => ?_)
  · refine S.vret dX0_takeBack_15 rfl ?_
    first
    | exact ⟨by rw [if_neg (by omega)], fun _ _ => rfl⟩
    | exact ⟨by rw [if_pos (by omega), fp_up_at], fun a ha => fp_up_ne ha⟩
  · refine S.aload_n (pc' := 6) dX0_takeBack_5 rfl rfl rfl ?_
    refine S.getR (pc' := 9) dX0_takeBack_6 rfl fX0_15 L_121 rf_121_3 ?_
    refine S.iload_n (pc' := 10) dX0_takeBack_9 rfl rfl rfl ?_
    refine S.dup2 (pc' := 11) dX0_takeBack_10 rfl rfl rfl ?_
    refine S.iald (pc' := 12) dX0_takeBack_11 rfl L_123 (by omega) (by omega) ?_
    refine S.iconst (pc' := 13) dX0_takeBack_12 rfl ?_
    refine S.iadd (pc' := 14) dX0_takeBack_13 rfl ?_
    refine S.iast (pc' := 15) dX0_takeBack_14 rfl L_123 (by omega) (by omega) ?_
    refine S.vret dX0_takeBack_15 rfl ?_
    first
    | exact ⟨by rw [if_neg (by omega)], fun _ _ => rfl⟩
    | exact ⟨by rw [if_pos (by omega), fp_up_at], fun a ha => fp_up_ne ha⟩
theorem wk_X0_noteFirst {turn deed : Int} (ht : 0 ≤ turn ∧ turn ≤ 6) : fp_Ok l G 0 kX0_noteFirst [rV G 121, iV turn, iV deed] M (qV fun N => N 121 0 = M 121 0 ∧ ∀ a, a ≠ 121 → N a = M a) := by
  refine fp_Ok.of (r := 0) rfl (Nat.le_of_ble_eq_true rfl) rfl ?_
  refine S.iload_n (pc' := 1) dX0_noteFirst_0 rfl rfl rfl ?_
  refine S.if_ne (pc' := 4) (tgt := 9) dX0_noteFirst_1 (by decide) rfl (by unfold fp_rng; omega) (fun h1 => ?_) (fun h1 => ?_)
  · refine S.vret dX0_noteFirst_9 rfl ?_
    first
    | exact ⟨rfl, fun _ _ => rfl⟩
    | exact ⟨by rw [fp_up_at, fp_upf_ne (by decide)], fun a ha => fp_up_ne ha⟩
  · refine S.aload_n (pc' := 5) dX0_noteFirst_4 rfl rfl rfl ?_
    refine S.iload_n (pc' := 6) dX0_noteFirst_5 rfl rfl rfl ?_
    refine S.putI (pc' := 9) dX0_noteFirst_6 rfl fX0_76 L_121 ?_
    refine S.vret dX0_noteFirst_9 rfl ?_
    first
    | exact ⟨rfl, fun _ _ => rfl⟩
    | exact ⟨by rw [fp_up_at, fp_upf_ne (by decide)], fun a ha => fp_up_ne ha⟩
theorem wk_X0_outcome {kind : Int} (hk : 0 ≤ kind ∧ kind ≤ 2) : ∀ (n : Nat) (turn : Int) (M : fp_Mem), 0 ≤ turn → turn + n = 6 → dPre M turn → fp_Ok l G (n + 3) kX0_outcome [rV G 121, rV G 18, iV kind, iV turn] M (qI fun z N => (-(20 * (n : Int)) ≤ z ∧ z ≤ 20 * n) ∧ dPost M N turn) := by
  intro n
  induction n with
  | zero =>
    intro turn M t0 t1 hp
    refine fp_Ok.of (r := 6) rfl (Nat.le_of_ble_eq_true rfl) rfl ?_
    refine S.iload_n (pc' := 1) dX0_outcome_0 rfl rfl rfl ?_
    refine S.bipush (pc' := 3) dX0_outcome_1 rfl (by decide) ?_
    refine S.icmp_ge (pc' := 6) (tgt := 14) dX0_outcome_3 (by decide) rfl (by unfold fp_rng; omega) (by unfold fp_rng; omega) (fun h3 => ?_) (fun h3 => ?_)
    · refine S.iconst (pc' := 15) dX0_outcome_14 rfl ?_
      refine S.iret dX0_outcome_15 rfl ?_
      exact ⟨by omega, dPost.refl _ _⟩
    · exfalso; omega
  | succ n ih =>
    intro turn M t0 t1 hp
    have hp1 := hp.1
    refine fp_Ok.of (r := 6) rfl (Nat.le_of_ble_eq_true rfl) rfl ?_
    have hmv : 0 ≤ turn % 2 ∧ turn % 2 ≤ 1 := by omega
    generalize hmE : turn % 2 = mv at *
    have hL : ∀ (r : Nat) (deed any best : Int) (N : fp_Mem) (o8 o9 : Option Value), (3 - deed).toNat < r → 0 ≤ deed → deed ≤ 3 → 0 ≤ any ∧ any ≤ 1 → -(20 * ((n + 1 : Nat) : Int)) ≤ best ∧ best ≤ 20 * ((n + 1 : Nat) : Int) → dPost M N turn →
        fp_S l G (n + 1 + 3) kX0_outcome 30 [some (rV G 121), some (rV G 18), some (iV kind), some (iV turn), some (iV mv), some (iV any), some (iV best), some (iV deed), o8, o9] [] N (qI fun z N => (-(20 * ((n + 1 : Nat) : Int)) ≤ z ∧ z ≤ 20 * ((n + 1 : Nat) : Int)) ∧ dPost M N turn) := by
      intro r
      induction r with
      | zero => intro deed any best N o8 o9 h; omega
      | succ r ihr =>
        intro deed any best N o8 o9 h d0 d1 hany hbest hpo
        by_cases hlt : deed < 3
        · have hpN := hp.to hpo (by omega)
          obtain ⟨q1, q2, q3, q4, q5⟩ := hpN
          obtain ⟨q21, q22⟩ := q2 mv hmv.1 hmv.2
          have h127 : ∀ (any best : Int) (O : fp_Mem) (o8 o9 : Option Value), 0 ≤ any ∧ any ≤ 1 → -(20 * ((n + 1 : Nat) : Int)) ≤ best ∧ best ≤ 20 * ((n + 1 : Nat) : Int) → dPost M O turn → fp_S l G (n + 1 + 3) kX0_outcome 127 [some (rV G 121), some (rV G 18), some (iV kind), some (iV turn), some (iV mv), some (iV any), some (iV best), some (iV deed), o8, o9] [] O (qI fun z N => (-(20 * ((n + 1 : Nat) : Int)) ≤ z ∧ z ≤ 20 * ((n + 1 : Nat) : Int)) ∧ dPost M N turn) := by
            intro any best O o8 o9 a1 a2 a3
            refine S.iinc (pc' := 130) (LL' := [_, _, _, _, _, _, _, _, _, _]) dX0_outcome_127 rfl (by decide) rfl rfl rfl ?_
            refine S.goto (pc' := 30) dX0_outcome_130 (by decide) ?_
            exact ihr _ _ _ _ _ _ (by omega) (by omega) (by omega) a1 a2 a3
          have cC := wk_X0_canDo (l := l) (G := G) (M := N) (deed := deed) (turn := turn) (mover := mv) ⟨d0, hlt⟩ (by omega) hmv (by unfold fp_rng; omega) (by unfold fp_rng; omega)
          by_cases hcan : deed = 1 → (0 < N 123 mv.toNat ∧ N 132 turn.toNat < 8)
          · rw [if_pos hcan] at cC
            refine S.iload (pc' := 32) dX0_outcome_30 rfl rfl ?_
            refine S.iconst (pc' := 33) dX0_outcome_32 rfl ?_
            refine S.icmp_ge (pc' := 36) (tgt := 133) dX0_outcome_33 (by decide) rfl (by unfold fp_rng; omega) (by unfold fp_rng; omega) (fun h33 => ?_) (fun h33 => ?_)
            · exfalso; omega
            · refine S.aload_n (pc' := 37) dX0_outcome_36 rfl rfl rfl ?_
              refine S.iload (pc' := 39) dX0_outcome_37 rfl rfl ?_
              refine S.iload_n (pc' := 40) dX0_outcome_39 rfl rfl rfl ?_
              refine S.iload (pc' := 42) dX0_outcome_40 rfl rfl ?_
              refine S.callVe (pc' := 45) dX0_outcome_42 rfl cX0_48 cC rfl L_121 (by omega) rfl (Nat.le_of_ble_eq_true rfl) ?_
              refine S.if_ne (pc' := 48) (tgt := 51) dX0_outcome_45 (by decide) rfl (by unfold fp_rng; omega) (fun h45 => ?_) (fun h45 => ?_)
              · refine S.aload_n (pc' := 52) dX0_outcome_51 rfl rfl rfl ?_
                refine S.aload_n (pc' := 53) dX0_outcome_52 rfl rfl rfl ?_
                refine S.iload_n (pc' := 54) dX0_outcome_53 rfl rfl rfl ?_
                refine S.iload (pc' := 56) dX0_outcome_54 rfl rfl ?_
                refine S.iload_n (pc' := 57) dX0_outcome_56 rfl rfl rfl ?_
                refine S.iload (pc' := 59) dX0_outcome_57 rfl rfl ?_
                refine S.callVi (pc' := 62) dX0_outcome_59 rfl cX0_52 (wk_X0_perform q5 hk ⟨d0, hlt⟩ (by omega) hmv q21 q3 q4 (fun q => (hcan q).2)) rfl L_121 (by omega) rfl (Nat.le_of_ble_eq_true rfl) (fun z59 M59 q59 => ?_)
                obtain ⟨p1, p2, p3, p4, p5, p6⟩ := q59
                have hpre1 : dPre M59 (turn + 1) := by
                  refine ⟨by rw [p6 121 (by decide) (by decide) (by omega)]; exact q1, fun j j0 j1 => ?_, p2, p3, ?_⟩
                  · rw [p6 122 (by decide) (by decide) (by omega), p5]
                    refine ⟨(q2 j j0 j1).1, ?_⟩
                    have hj := (q2 j j0 j1).2
                    by_cases e : deed = 1
                    · rw [if_pos e]
                      have := (hcan e).1
                      unfold fp_upf
                      split <;> omega
                    · rw [if_neg e]; exact hj
                  · unfold gd_ok at q5 ⊢
                    rw [p6 18 (by decide) (by decide) (by omega), p6 (18 + 1) (by decide) (by decide) (by omega), p6 (18 + 2) (by decide) (by decide) (by omega), p6 (18 + 3) (by decide) (by decide) (by omega)]
                    exact q5
                refine S.istore (pc' := 64) (LL' := [_, _, _, _, _, _, _, _, _, _]) dX0_outcome_62 rfl (by decide) rfl rfl ?_
                refine S.iload (pc' := 66) dX0_outcome_64 rfl rfl ?_
                refine S.aload_n (pc' := 67) dX0_outcome_66 rfl rfl rfl ?_
                refine S.aload_n (pc' := 68) dX0_outcome_67 rfl rfl rfl ?_
                refine S.iload_n (pc' := 69) dX0_outcome_68 rfl rfl rfl ?_
                refine S.iload_n (pc' := 70) dX0_outcome_69 rfl rfl rfl ?_
                refine S.iconst (pc' := 71) dX0_outcome_70 rfl ?_
                refine S.iadd (pc' := 72) dX0_outcome_71 rfl ?_
                refine S.callVi (pc' := 75) dX0_outcome_72 rfl cX0_44 (ih (turn + 1) M59 (by omega) (by omega) hpre1) rfl L_121 (by omega) rfl (Nat.le_of_ble_eq_true rfl) (fun z72 M72 q72 => ?_)
                obtain ⟨w1, w2⟩ := q72
                refine S.iadd (pc' := 76) dX0_outcome_75 rfl ?_
                refine S.istore (pc' := 78) (LL' := [_, _, _, _, _, _, _, _, _, _]) dX0_outcome_76 rfl (by decide) rfl rfl ?_
                refine S.aload_n (pc' := 79) dX0_outcome_78 rfl rfl rfl ?_
                refine S.iload (pc' := 81) dX0_outcome_79 rfl rfl ?_
                refine S.iload (pc' := 83) dX0_outcome_81 rfl rfl ?_
                refine S.callVv (pc' := 86) dX0_outcome_83 rfl cX0_56 (wk_X0_takeBack ⟨d0, hlt⟩ hmv) rfl L_121 (by omega) rfl (Nat.le_of_ble_eq_true rfl) (fun M83 q83 => ?_)
                obtain ⟨b1, b2⟩ := q83
                have hpo3 : dPost M M83 turn := by
                  refine ⟨?_, ?_, fun j hj => ?_, fun a a1 a2 a3 a4 => ?_⟩
                  · rw [b2 121 (by decide), w2.1, p6 121 (by decide) (by decide) (by omega)]; exact hpo.1
                  · rw [b1, w2.2.1, p5, ← hpo.2.1]
                    by_cases e : deed = 1
                    · rw [if_pos e, if_pos e]
                      funext j
                      unfold fp_upf
                      split
                      · rename_i ej
                        rw [if_pos rfl, ej]; omega
                      · rfl
                    · rw [if_neg e, if_neg e]
                  · rw [b2 132 (by decide), w2.2.2.1 j (by omega), p4 j (by omega)]; exact hpo.2.2.1 j hj
                  · rw [b2 a a2, w2.2.2.2 a a1 a2 a3 (by omega), p6 a a2 a3 (by omega)]; exact hpo.2.2.2 a a1 a2 a3 a4
                refine S.iload (pc' := 88) dX0_outcome_86 rfl rfl ?_
                refine S.if_eq (pc' := 91) (tgt := 113) dX0_outcome_88 (by decide) rfl (by unfold fp_rng; omega) (fun h88 => ?_) (fun h88 => ?_)
                · refine S.iconst (pc' := 114) dX0_outcome_113 rfl ?_
                  refine S.istore (pc' := 116) (LL' := [_, _, _, _, _, _, _, _, _, _]) dX0_outcome_114 rfl (by decide) rfl rfl ?_
                  refine S.iload (pc' := 118) dX0_outcome_116 rfl rfl ?_
                  refine S.istore (pc' := 120) (LL' := [_, _, _, _, _, _, _, _, _, _]) dX0_outcome_118 rfl (by decide) rfl rfl ?_
                  refine S.aload_n (pc' := 121) dX0_outcome_120 rfl rfl rfl ?_
                  refine S.iload_n (pc' := 122) dX0_outcome_121 rfl rfl rfl ?_
                  refine S.iload (pc' := 124) dX0_outcome_122 rfl rfl ?_
                  refine S.callVv (pc' := 127) dX0_outcome_124 rfl cX0_60 (wk_X0_noteFirst (by omega)) rfl L_121 (by omega) rfl (Nat.le_of_ble_eq_true rfl) (fun M124 q124 => ?_)
                  first
                  | exact h127 _ _ _ _ _ hany hbest hpo3
                  | exact h127 _ _ _ _ _ (by omega) (by omega) ⟨q124.1.trans hpo3.1, by rw [q124.2 123 (by decide)]; exact hpo3.2.1, fun j hj => by rw [q124.2 132 (by decide)]; exact hpo3.2.2.1 j hj, fun a a1 a2 a3 a4 => by rw [q124.2 a a1]; exact hpo3.2.2.2 a a1 a2 a3 a4⟩
                · refine S.iload (pc' := 93) dX0_outcome_91 rfl rfl ?_
                  refine S.if_ne (pc' := 96) (tgt := 106) dX0_outcome_93 (by decide) rfl (by unfold fp_rng; omega) (fun h93 => ?_) (fun h93 => ?_)
                  · refine S.iload (pc' := 108) dX0_outcome_106 rfl rfl ?_
                    refine S.iload (pc' := 110) dX0_outcome_108 rfl rfl ?_
                    refine S.icmp_ge (pc' := 113) (tgt := 127) dX0_outcome_110 (by decide) rfl (by unfold fp_rng; omega) (by unfold fp_rng; omega) (fun h110 => ?_) (fun h110 => ?_)
                    · first
                      | exact h127 _ _ _ _ _ hany hbest hpo3
                      | exact h127 _ _ _ _ _ (by omega) (by omega) ⟨q124.1.trans hpo3.1, by rw [q124.2 123 (by decide)]; exact hpo3.2.1, fun j hj => by rw [q124.2 132 (by decide)]; exact hpo3.2.2.1 j hj, fun a a1 a2 a3 a4 => by rw [q124.2 a a1]; exact hpo3.2.2.2 a a1 a2 a3 a4⟩
                    · refine S.iconst (pc' := 114) dX0_outcome_113 rfl ?_
                      refine S.istore (pc' := 116) (LL' := [_, _, _, _, _, _, _, _, _, _]) dX0_outcome_114 rfl (by decide) rfl rfl ?_
                      refine S.iload (pc' := 118) dX0_outcome_116 rfl rfl ?_
                      refine S.istore (pc' := 120) (LL' := [_, _, _, _, _, _, _, _, _, _]) dX0_outcome_118 rfl (by decide) rfl rfl ?_
                      refine S.aload_n (pc' := 121) dX0_outcome_120 rfl rfl rfl ?_
                      refine S.iload_n (pc' := 122) dX0_outcome_121 rfl rfl rfl ?_
                      refine S.iload (pc' := 124) dX0_outcome_122 rfl rfl ?_
                      refine S.callVv (pc' := 127) dX0_outcome_124 rfl cX0_60 (wk_X0_noteFirst (by omega)) rfl L_121 (by omega) rfl (Nat.le_of_ble_eq_true rfl) (fun M124 q124 => ?_)
                      first
                      | exact h127 _ _ _ _ _ hany hbest hpo3
                      | exact h127 _ _ _ _ _ (by omega) (by omega) ⟨q124.1.trans hpo3.1, by rw [q124.2 123 (by decide)]; exact hpo3.2.1, fun j hj => by rw [q124.2 132 (by decide)]; exact hpo3.2.2.1 j hj, fun a a1 a2 a3 a4 => by rw [q124.2 a a1]; exact hpo3.2.2.2 a a1 a2 a3 a4⟩
                  · refine S.iload (pc' := 98) dX0_outcome_96 rfl rfl ?_
                    refine S.iload (pc' := 100) dX0_outcome_98 rfl rfl ?_
                    refine S.icmp_le (pc' := 103) (tgt := 127) dX0_outcome_100 (by decide) rfl (by unfold fp_rng; omega) (by unfold fp_rng; omega) (fun h100 => ?_) (fun h100 => ?_)
                    · first
                      | exact h127 _ _ _ _ _ hany hbest hpo3
                      | exact h127 _ _ _ _ _ (by omega) (by omega) ⟨q124.1.trans hpo3.1, by rw [q124.2 123 (by decide)]; exact hpo3.2.1, fun j hj => by rw [q124.2 132 (by decide)]; exact hpo3.2.2.1 j hj, fun a a1 a2 a3 a4 => by rw [q124.2 a a1]; exact hpo3.2.2.2 a a1 a2 a3 a4⟩
                    · refine S.goto (pc' := 113) dX0_outcome_103 (by decide) ?_
                      refine S.iconst (pc' := 114) dX0_outcome_113 rfl ?_
                      refine S.istore (pc' := 116) (LL' := [_, _, _, _, _, _, _, _, _, _]) dX0_outcome_114 rfl (by decide) rfl rfl ?_
                      refine S.iload (pc' := 118) dX0_outcome_116 rfl rfl ?_
                      refine S.istore (pc' := 120) (LL' := [_, _, _, _, _, _, _, _, _, _]) dX0_outcome_118 rfl (by decide) rfl rfl ?_
                      refine S.aload_n (pc' := 121) dX0_outcome_120 rfl rfl rfl ?_
                      refine S.iload_n (pc' := 122) dX0_outcome_121 rfl rfl rfl ?_
                      refine S.iload (pc' := 124) dX0_outcome_122 rfl rfl ?_
                      refine S.callVv (pc' := 127) dX0_outcome_124 rfl cX0_60 (wk_X0_noteFirst (by omega)) rfl L_121 (by omega) rfl (Nat.le_of_ble_eq_true rfl) (fun M124 q124 => ?_)
                      first
                      | exact h127 _ _ _ _ _ hany hbest hpo3
                      | exact h127 _ _ _ _ _ (by omega) (by omega) ⟨q124.1.trans hpo3.1, by rw [q124.2 123 (by decide)]; exact hpo3.2.1, fun j hj => by rw [q124.2 132 (by decide)]; exact hpo3.2.2.1 j hj, fun a a1 a2 a3 a4 => by rw [q124.2 a a1]; exact hpo3.2.2.2 a a1 a2 a3 a4⟩
              · exact absurd h45 (by decide)
          · rw [if_neg hcan] at cC
            refine S.iload (pc' := 32) dX0_outcome_30 rfl rfl ?_
            refine S.iconst (pc' := 33) dX0_outcome_32 rfl ?_
            refine S.icmp_ge (pc' := 36) (tgt := 133) dX0_outcome_33 (by decide) rfl (by unfold fp_rng; omega) (by unfold fp_rng; omega) (fun h33 => ?_) (fun h33 => ?_)
            · exfalso; omega
            · refine S.aload_n (pc' := 37) dX0_outcome_36 rfl rfl rfl ?_
              refine S.iload (pc' := 39) dX0_outcome_37 rfl rfl ?_
              refine S.iload_n (pc' := 40) dX0_outcome_39 rfl rfl rfl ?_
              refine S.iload (pc' := 42) dX0_outcome_40 rfl rfl ?_
              refine S.callVe (pc' := 45) dX0_outcome_42 rfl cX0_48 cC rfl L_121 (by omega) rfl (Nat.le_of_ble_eq_true rfl) ?_
              refine S.if_ne (pc' := 48) (tgt := 51) dX0_outcome_45 (by decide) rfl (by unfold fp_rng; omega) (fun h45 => ?_) (fun h45 => ?_)
              · exact absurd rfl h45
              · refine S.goto (pc' := 127) dX0_outcome_48 (by decide) ?_
                exact h127 _ _ _ _ _ hany hbest hpo
        · refine S.iload (pc' := 32) dX0_outcome_30 rfl rfl ?_
          refine S.iconst (pc' := 33) dX0_outcome_32 rfl ?_
          refine S.icmp_ge (pc' := 36) (tgt := 133) dX0_outcome_33 (by decide) rfl (by unfold fp_rng; omega) (by unfold fp_rng; omega) (fun h33 => ?_) (fun h33 => ?_)
          · refine S.iload (pc' := 135) dX0_outcome_133 rfl rfl ?_
            refine S.iret dX0_outcome_135 rfl ?_
            exact ⟨hbest, hpo⟩
          · exfalso; omega
    refine S.iload_n (pc' := 1) dX0_outcome_0 rfl rfl rfl ?_
    refine S.bipush (pc' := 3) dX0_outcome_1 rfl (by decide) ?_
    refine S.icmp_ge (pc' := 6) (tgt := 14) dX0_outcome_3 (by decide) rfl (by unfold fp_rng; omega) (by unfold fp_rng; omega) (fun h3 => ?_) (fun h3 => ?_)
    · refine S.iconst (pc' := 15) dX0_outcome_14 rfl ?_
      refine S.iret dX0_outcome_15 rfl ?_
      exact ⟨by omega, dPost.refl _ _⟩
    · refine S.iload_n (pc' := 7) dX0_outcome_6 rfl rfl rfl ?_
      refine S.aload_n (pc' := 8) dX0_outcome_7 rfl rfl rfl ?_
      refine S.getI (pc' := 11) dX0_outcome_8 rfl fX0_40 L_121 ?_
      refine S.icmp_lt (pc' := 14) (tgt := 16) dX0_outcome_11 (by decide) rfl (by unfold fp_rng; omega) (by unfold fp_rng; omega) (fun h11 => ?_) (fun h11 => ?_)
      · refine S.iload_n (pc' := 17) dX0_outcome_16 rfl rfl rfl ?_
        refine S.iconst (pc' := 18) dX0_outcome_17 rfl ?_
        refine S.irem (pc' := 19) dX0_outcome_18 rfl (by decide) (fp_irem (by omega) (by omega)) ?_
        rw [hmE]
        refine S.istore (pc' := 21) (LL' := [_, _, _, _, _, _, _, _, _, _]) dX0_outcome_19 rfl (by decide) rfl rfl ?_
        refine S.iconst (pc' := 22) dX0_outcome_21 rfl ?_
        refine S.istore (pc' := 24) (LL' := [_, _, _, _, _, _, _, _, _, _]) dX0_outcome_22 rfl (by decide) rfl rfl ?_
        refine S.iconst (pc' := 25) dX0_outcome_24 rfl ?_
        refine S.istore (pc' := 27) (LL' := [_, _, _, _, _, _, _, _, _, _]) dX0_outcome_25 rfl (by decide) rfl rfl ?_
        refine S.iconst (pc' := 28) dX0_outcome_27 rfl ?_
        refine S.istore (pc' := 30) (LL' := [_, _, _, _, _, _, _, _, _, _]) dX0_outcome_28 rfl (by decide) rfl rfl ?_
        exact hL 4 0 0 0 M none none (by omega) (by omega) (by omega) (by omega) (by omega) (dPost.refl _ _)
      · refine S.iconst (pc' := 15) dX0_outcome_14 rfl ?_
        refine S.iret dX0_outcome_15 rfl ?_
        exact ⟨by omega, dPost.refl _ _⟩
theorem wk_X0_fight {kind : Int} (hk : 0 ≤ kind ∧ kind ≤ 2) (hp : dPre M 0) : fp_Ok l G 10 kX0_fight [rV G 121, rV G 18, iV kind] M (qI fun z N => (-120 ≤ z ∧ z ≤ 120) ∧ dPost M N 0) := by
  refine fp_Ok.of (r := 0) rfl (Nat.le_of_ble_eq_true rfl) rfl ?_
  refine S.aload_n (pc' := 1) dX0_fight_0 rfl rfl rfl ?_
  refine S.aload_n (pc' := 2) dX0_fight_1 rfl rfl rfl ?_
  refine S.iload_n (pc' := 3) dX0_fight_2 rfl rfl rfl ?_
  refine S.iconst (pc' := 4) dX0_fight_3 rfl ?_
  refine S.callVi (pc' := 7) dX0_fight_4 rfl cX0_44 (wk_X0_outcome hk 6 0 M (by omega) (by omega) hp) rfl L_121 (by decide) rfl (Nat.le_of_ble_eq_true rfl) (fun z4 M4 q4 => ?_)
  refine S.iret dX0_fight_7 rfl ?_
  exact ⟨by have := q4.1; omega, q4.2⟩
theorem wk_X0_prepare {x p q r n : Int} (hx : 0 ≤ x ∧ x < 3) (hp : 0 ≤ p ∧ p < 4) (hq : 0 ≤ q ∧ q < 4) (hr : 0 ≤ r ∧ r ≤ 2) (hn : 1 ≤ n ∧ n ≤ 6) (hpl : pl_ok M 22) (hgd : gd_ok M 18) : fp_Ok l G 1 kX0_prepare [rV G 121, rV G 22, iV x, iV p, iV q, iV r, iV n] M (qV fun N => dPre N 0 ∧ ∀ a, (a < 121 ∨ 132 < a) → N a = M a) := by
  have h2 := hpl.2.1 x hx.1 hx.2
  refine fp_Ok.of (r := 0) rfl (Nat.le_of_ble_eq_true rfl) rfl ?_
  refine S.aload_n (pc' := 1) dX0_prepare_0 rfl rfl rfl ?_
  refine S.getR (pc' := 4) dX0_prepare_1 rfl fX0_26 (pl_lay pl22) (pl_r3 pl22) ?_
  refine S.iload_n (pc' := 5) dX0_prepare_4 rfl rfl rfl ?_
  refine S.bipush (pc' := 7) dX0_prepare_5 rfl (by decide) ?_
  refine S.imul (pc' := 8) dX0_prepare_7 rfl ?_
  refine S.aload_n (pc' := 9) dX0_prepare_8 rfl rfl rfl ?_
  refine S.getR (pc' := 12) dX0_prepare_9 rfl fX0_20 L_121 rf_121_4 ?_
  refine S.iconst (pc' := 13) dX0_prepare_12 rfl ?_
  refine S.aald (pc' := 14) (t := 125) dX0_prepare_13 rfl L_124 (by decide) (by decide) (by omega) (by omega) (by decide +kernel) ?_
  refine S.iconst (pc' := 15) dX0_prepare_14 rfl ?_
  refine S.bipush (pc' := 17) dX0_prepare_15 rfl (by decide) ?_
  refine S.copyi (pc' := 20) dX0_prepare_17 rfl aX0_31 (pl_a3 pl22) L_125 (by decide) (by decide) (by omega) (by omega) (by omega) (by omega) (by omega) (by decide) (Nat.le_of_ble_eq_true rfl) ?_
  generalize hN1 : fp_upM M 125 _ = N1
  have n1 : ∀ a, a ≠ 125 → N1 a = M a := fun a ha => by rw [← hN1, fp_upM_ne ha]
  have r1 : dRow N1 125 := fun i i0 i1 => by
    rw [← hN1, fp_upM_at]
    simp only [va_cpy]
    rw [if_pos (by omega)]
    have := hpl.2.2 (x * 8 + i) (by omega) (by omega)
    rw [show (x * 8).toNat + (i.toNat - (0 : Int).toNat) = (x * 8 + i).toNat by omega]
    exact ⟨this.1, by have := this.2; omega⟩
  refine S.aload_n (pc' := 21) dX0_prepare_20 rfl rfl rfl ?_
  refine S.getR (pc' := 24) dX0_prepare_21 rfl fX0_23 L_121 rf_121_5 ?_
  refine S.iconst (pc' := 25) dX0_prepare_24 rfl ?_
  refine S.aload_n (pc' := 26) dX0_prepare_25 rfl rfl rfl ?_
  refine S.getR (pc' := 29) dX0_prepare_26 rfl fX0_37 (pl_lay pl22) (pl_r2 pl22) ?_
  refine S.iload_n (pc' := 30) dX0_prepare_29 rfl rfl rfl ?_
  refine S.iald (pc' := 31) dX0_prepare_30 rfl (pl_a2 pl22) (by omega) (by omega) ?_
  rw [n1 _ (by decide)]
  refine S.iast (pc' := 32) dX0_prepare_31 rfl L_132 (by omega) (by omega) ?_
  refine S.aload_n (pc' := 33) dX0_prepare_32 rfl rfl rfl ?_
  refine S.getR (pc' := 36) dX0_prepare_33 rfl fX0_9 L_121 rf_121_2 ?_
  refine S.iconst (pc' := 37) dX0_prepare_36 rfl ?_
  refine S.iload_n (pc' := 38) dX0_prepare_37 rfl rfl rfl ?_
  refine S.iast (pc' := 39) dX0_prepare_38 rfl L_122 (by omega) (by omega) ?_
  refine S.aload_n (pc' := 40) dX0_prepare_39 rfl rfl rfl ?_
  refine S.getR (pc' := 43) dX0_prepare_40 rfl fX0_9 L_121 rf_121_2 ?_
  refine S.iconst (pc' := 44) dX0_prepare_43 rfl ?_
  refine S.iload (pc' := 46) dX0_prepare_44 rfl rfl ?_
  refine S.iast (pc' := 47) dX0_prepare_46 rfl L_122 (by omega) (by omega) ?_
  refine S.aload_n (pc' := 48) dX0_prepare_47 rfl rfl rfl ?_
  refine S.getR (pc' := 51) dX0_prepare_48 rfl fX0_15 L_121 rf_121_3 ?_
  refine S.iconst (pc' := 52) dX0_prepare_51 rfl ?_
  refine S.iload (pc' := 54) dX0_prepare_52 rfl rfl ?_
  refine S.iast (pc' := 55) dX0_prepare_54 rfl L_123 (by omega) (by omega) ?_
  refine S.aload_n (pc' := 56) dX0_prepare_55 rfl rfl rfl ?_
  refine S.getR (pc' := 59) dX0_prepare_56 rfl fX0_15 L_121 rf_121_3 ?_
  refine S.iconst (pc' := 60) dX0_prepare_59 rfl ?_
  refine S.iload (pc' := 62) dX0_prepare_60 rfl rfl ?_
  refine S.iast (pc' := 63) dX0_prepare_62 rfl L_123 (by omega) (by omega) ?_
  refine S.aload_n (pc' := 64) dX0_prepare_63 rfl rfl rfl ?_
  refine S.iload (pc' := 66) dX0_prepare_64 rfl rfl ?_
  refine S.putI (pc' := 69) dX0_prepare_66 rfl fX0_40 L_121 ?_
  refine S.vret dX0_prepare_69 rfl ?_
  refine ⟨⟨?_, fun j j0 j1 => ?_, fun i i0 i1 => ?_, ?_, ?_⟩, fun a ha => ?_⟩
  · rw [fp_up_at, fp_upf_at]; omega
  · rw [fp_up_ne (show 122 ≠ 121 by decide), fp_up_ne (show 122 ≠ 123 by decide), fp_up_ne (show 122 ≠ 123 by decide), fp_up_at, fp_up_at, fp_up_ne (show 123 ≠ 121 by decide), fp_up_at, fp_up_at]
    rcases (show j = 0 ∨ j = 1 by omega) with rfl | rfl
    · exact ⟨by simp [fp_upf]; omega, by simp [fp_upf]; omega⟩
    · exact ⟨by simp [fp_upf]; omega, by simp [fp_upf]; omega⟩
  · rw [fp_up_ne (by decide), fp_up_ne (by decide), fp_up_ne (by decide), fp_up_ne (by decide), fp_up_ne (by decide), fp_up_ne (by decide)]; exact r1 i i0 i1
  · rw [fp_up_ne (by decide), fp_up_ne (by decide), fp_up_ne (by decide), fp_up_ne (by decide), fp_up_ne (by decide), fp_up_at]
    simp [fp_upf]; exact h2
  · unfold gd_ok at hgd ⊢
    simp only [fp_up, fp_upM] at hgd ⊢
    simpa [n1] using hgd
  · rw [fp_up_ne (by omega), fp_up_ne (by omega), fp_up_ne (by omega), fp_up_ne (by omega), fp_up_ne (by omega), fp_up_ne (by omega)]; exact n1 a (by omega)
theorem cw_duel {x p q r n w : Int} (hc : CS M tp fl g pg vs nt im sh tn) (ho : OK g pg vs nt im sh) (hx : fp_rng x) (hp : fp_rng p) (hq : fp_rng q) (hr : fp_rng r) (hn : fp_rng n) (hw : fp_rng w) : fp_Ok l G 11 kX11_duel [rV G 0, iV x, iV p, iV q, iV r, iV n, iV w] M (qI fun _ N => CS N tp fl g pg vs nt im sh tn ∧ frC M N) := by
  have hcs := hc
  obtain ⟨-, hd, hcl, hv, -⟩ := hc
  obtain ⟨hg, hP, hvo, -⟩ := ho
  have hg1 := hg.1
  have hg2 := hg.2.1
  have hgd := hd.2.2.2.2.2.2.2.2
  have hpl := hcl.2.2.2.2
  have hw' := hw
  unfold fp_rng at hw'
  refine fp_Ok.of (r := 1) rfl (Nat.le_of_ble_eq_true rfl) rfl ?_
  refine S.aload_n (pc' := 1) dX11_duel_0 rfl rfl rfl ?_
  refine S.getR (pc' := 4) dX11_duel_1 rfl fX11_23 L_0 rf_0_3 ?_
  refine S.iload_n (pc' := 5) dX11_duel_4 rfl rfl rfl ?_
  refine S.callVi (pc' := 8) dX11_duel_5 rfl cX11_148 (bk_X1_hasLine gd18) rfl (gd_lay gd18) (by decide) rfl (Nat.le_of_ble_eq_true rfl) (fun z5 M5 q5 => ?_)
  obtain ⟨b5, rfl⟩ := q5
  refine S.if_eq (pc' := 11) (tgt := 30) dX11_duel_8 (by decide) rfl (by unfold fp_rng; omega) (fun h8 => ?_) (fun h8 => ?_)
  · refine S.iconst (pc' := 31) dX11_duel_30 rfl ?_
    refine S.iret dX11_duel_31 rfl ?_
    exact ⟨hcs, frC.refl _⟩
  · refine S.iload_n (pc' := 12) dX11_duel_11 rfl rfl rfl ?_
    refine S.callSi (pc' := 15) dX11_duel_12 rfl cX11_181 (bk_X11_isOne) rfl (by decide) rfl (Nat.le_of_ble_eq_true rfl) (fun z12 M12 q12 => ?_)
    obtain ⟨b12, rfl⟩ := q12
    refine S.if_eq (pc' := 18) (tgt := 30) dX11_duel_15 (by decide) rfl (by unfold fp_rng; omega) (fun h15 => ?_) (fun h15 => ?_)
    · refine S.iconst (pc' := 31) dX11_duel_30 rfl ?_
      refine S.iret dX11_duel_31 rfl ?_
      exact ⟨hcs, frC.refl _⟩
    · refine S.iload_n (pc' := 19) dX11_duel_18 rfl rfl rfl ?_
      refine S.callSi (pc' := 22) dX11_duel_19 rfl cX11_181 (bk_X11_isOne) rfl (by decide) rfl (Nat.le_of_ble_eq_true rfl) (fun z19 M19 q19 => ?_)
      obtain ⟨b19, rfl⟩ := q19
      refine S.if_eq (pc' := 25) (tgt := 30) dX11_duel_22 (by decide) rfl (by unfold fp_rng; omega) (fun h22 => ?_) (fun h22 => ?_)
      · refine S.iconst (pc' := 31) dX11_duel_30 rfl ?_
        refine S.iret dX11_duel_31 rfl ?_
        exact ⟨hcs, frC.refl _⟩
      · refine S.iload_n (pc' := 26) dX11_duel_25 rfl rfl rfl ?_
        refine S.iload_n (pc' := 27) dX11_duel_26 rfl rfl rfl ?_
        refine S.icmp_ne (pc' := 30) (tgt := 32) dX11_duel_27 (by decide) rfl hp hq (fun h27 => ?_) (fun h27 => ?_)
        · refine S.iload (pc' := 34) dX11_duel_32 rfl rfl ?_
          refine S.iconst (pc' := 35) dX11_duel_34 rfl ?_
          refine S.callSi (pc' := 38) dX11_duel_35 rfl cX11_221 (bk_X11_isWithin) rfl (by decide) rfl (Nat.le_of_ble_eq_true rfl) (fun z35 M35 q35 => ?_)
          obtain ⟨b35, rfl⟩ := q35
          refine S.if_eq (pc' := 41) (tgt := 63) dX11_duel_38 (by decide) rfl (by unfold fp_rng; omega) (fun h38 => ?_) (fun h38 => ?_)
          · refine S.iconst (pc' := 64) dX11_duel_63 rfl ?_
            refine S.iret dX11_duel_64 rfl ?_
            exact ⟨hcs, frC.refl _⟩
          · refine S.iload (pc' := 43) dX11_duel_41 rfl rfl ?_
            refine S.iconst (pc' := 44) dX11_duel_43 rfl ?_
            refine S.icmp_lt (pc' := 47) (tgt := 63) dX11_duel_44 (by decide) rfl hn (by unfold fp_rng; omega) (fun h44 => ?_) (fun h44 => ?_)
            · refine S.iconst (pc' := 64) dX11_duel_63 rfl ?_
              refine S.iret dX11_duel_64 rfl ?_
              exact ⟨hcs, frC.refl _⟩
            · refine S.iload (pc' := 49) dX11_duel_47 rfl rfl ?_
              refine S.bipush (pc' := 51) dX11_duel_49 rfl (by decide) ?_
              refine S.icmp_gt (pc' := 54) (tgt := 63) dX11_duel_51 (by decide) rfl hn (by unfold fp_rng; omega) (fun h51 => ?_) (fun h51 => ?_)
              · refine S.iconst (pc' := 64) dX11_duel_63 rfl ?_
                refine S.iret dX11_duel_64 rfl ?_
                exact ⟨hcs, frC.refl _⟩
              · refine S.iload (pc' := 56) dX11_duel_54 rfl rfl ?_
                refine S.iconst (pc' := 57) dX11_duel_56 rfl ?_
                refine S.callSi (pc' := 60) dX11_duel_57 rfl cX11_221 (bk_X11_isWithin) rfl (by decide) rfl (Nat.le_of_ble_eq_true rfl) (fun z57 M57 q57 => ?_)
                obtain ⟨b57, rfl⟩ := q57
                refine S.if_ne (pc' := 63) (tgt := 65) dX11_duel_60 (by decide) rfl (by unfold fp_rng; omega) (fun h60 => ?_) (fun h60 => ?_)
                · refine S.aload_n (pc' := 66) dX11_duel_65 rfl rfl rfl ?_
                  refine S.getR (pc' := 69) dX11_duel_66 rfl fX11_58 L_0 rf_0_8 ?_
                  refine S.aload_n (pc' := 70) dX11_duel_69 rfl rfl rfl ?_
                  refine S.getR (pc' := 73) dX11_duel_70 rfl fX11_30 L_0 rf_0_4 ?_
                  refine S.iload_n (pc' := 74) dX11_duel_73 rfl rfl rfl ?_
                  refine S.iload_n (pc' := 75) dX11_duel_74 rfl rfl rfl ?_
                  refine S.iload_n (pc' := 76) dX11_duel_75 rfl rfl rfl ?_
                  refine S.iload (pc' := 78) dX11_duel_76 rfl rfl ?_
                  refine S.iload (pc' := 80) dX11_duel_78 rfl rfl ?_
                  refine S.callVv (pc' := 83) dX11_duel_80 rfl cX11_271 (wk_X0_prepare (by omega) (by omega) (by omega) (by omega) (by omega) hpl hgd) rfl L_121 (by decide) rfl (Nat.le_of_ble_eq_true rfl) (fun M80 q80 => ?_)
                  obtain ⟨d1, f1⟩ := q80
                  have hkd := d1.2.2.2.2.2.2.2.2.2 x (by omega) (by omega)
                  refine S.aload_n (pc' := 84) dX11_duel_83 rfl rfl rfl ?_
                  refine S.getR (pc' := 87) dX11_duel_84 rfl fX11_58 L_0 rf_0_8 ?_
                  refine S.aload_n (pc' := 88) dX11_duel_87 rfl rfl rfl ?_
                  refine S.getR (pc' := 91) dX11_duel_88 rfl fX11_23 L_0 rf_0_3 ?_
                  refine S.aload_n (pc' := 92) dX11_duel_91 rfl rfl rfl ?_
                  refine S.getR (pc' := 95) dX11_duel_92 rfl fX11_23 L_0 rf_0_3 ?_
                  refine S.getR (pc' := 98) dX11_duel_95 rfl fX11_156 (gd_lay gd18) (gd_r5 gd18) ?_
                  refine S.iload_n (pc' := 99) dX11_duel_98 rfl rfl rfl ?_
                  refine S.iald (pc' := 100) dX11_duel_99 rfl (gd_a5 gd18) (by omega) (by omega) ?_
                  refine S.callVi (pc' := 103) dX11_duel_100 rfl cX11_275 (wk_X0_fight hkd d1) rfl L_121 (by decide) rfl (Nat.le_of_ble_eq_true rfl) (fun z100 M100 q100 => ?_)
                  obtain ⟨z2, d2⟩ := q100
                  have fz : frZ M M100 := fun a ha => by rw [d2.2.2.2 a (by omega) (by omega) (by omega) (by omega)]; exact f1 a (by omega)
                  refine S.istore (pc' := 105) (LL' := [_, _, _, _, _, _, _, _]) dX11_duel_103 rfl (by decide) rfl rfl ?_
                  refine S.iload (pc' := 107) dX11_duel_105 rfl rfl ?_
                  refine S.if_ne (pc' := 110) (tgt := 119) dX11_duel_107 (by decide) rfl hw (fun h107 => ?_) (fun h107 => ?_)
                  · refine S.aload_n (pc' := 120) dX11_duel_119 rfl rfl rfl ?_
                    refine S.getR (pc' := 123) dX11_duel_120 rfl fX11_58 L_0 rf_0_8 ?_
                    refine S.getI (pc' := 126) dX11_duel_123 rfl fX11_278 L_121 ?_
                    refine S.iret dX11_duel_126 rfl ?_
                    exact ⟨hcs.scz fz, fz.c⟩
                  · refine S.iload (pc' := 112) dX11_duel_110 rfl rfl ?_
                    refine S.sipush (pc' := 115) dX11_duel_112 rfl (by decide) ?_
                    refine S.iadd (pc' := 116) dX11_duel_115 rfl ?_
                    refine S.goto (pc' := 126) dX11_duel_116 (by decide) ?_
                    refine S.iret dX11_duel_126 rfl ?_
                    exact ⟨hcs.scz fz, fz.c⟩
                · refine S.iconst (pc' := 64) dX11_duel_63 rfl ?_
                  refine S.iret dX11_duel_64 rfl ?_
                  exact ⟨hcs, frC.refl _⟩
        · refine S.iconst (pc' := 31) dX11_duel_30 rfl ?_
          refine S.iret dX11_duel_31 rfl ?_
          exact ⟨hcs, frC.refl _⟩
end CDV2
