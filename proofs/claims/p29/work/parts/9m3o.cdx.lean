/-! duel: the class, all turns, exactly (p29 alone) -/
def dRep (M : fp_Mem) (g : aGd) (turn p q T : Int) (s : dSt) : Prop := M 121 0 = T ∧ M 122 0 = p ∧ M 122 1 = q ∧ M 123 0 = s.2.1 ∧ M 123 1 = s.2.2 ∧ M 132 turn.toNat = s.1.length ∧ dLs M (125 + turn.toNat) s.1 ∧ dRow M (125 + turn.toNat) ∧ gdIs M 18 g
theorem dPost.gI {M N : fp_Mem} {g : aGd} {turn : Int} (h : dPost M N turn) (hgd : gdIs M 18 g) : gdIs N 18 g := hgd.same (h.2.2.2 18 (by decide) (by decide) (by decide) (by omega)) (h.2.2.2 (18 + 1) (by decide) (by decide) (by decide) (by omega)) (h.2.2.2 (18 + 2) (by decide) (by decide) (by decide) (by omega)) (h.2.2.2 (18 + 3) (by decide) (by decide) (by decide) (by omega))
theorem dRep.to {M N : fp_Mem} {g : aGd} {turn p q T : Int} {s : dSt} (h : dRep M g turn p q T s) (e : dPost M N turn) (ht : turn ≤ 6) : dRep N g turn p q T s := by
  obtain ⟨h1, h2, h3, h4, h5, h6, h7, h8, h9⟩ := h
  have e2 := e.2.2.2 122 (by decide) (by decide) (by decide) (by omega)
  have er := e.2.2.2 (125 + turn.toNat) (by omega) (by omega) (by omega) (by omega)
  refine ⟨by rw [e.1]; exact h1, by rw [e2]; exact h2, by rw [e2]; exact h3, by rw [e.2.1]; exact h4, by rw [e.2.1]; exact h5, by rw [e.2.2.1 _ (Nat.le_refl _)]; exact h6, fun i hi => by rw [er]; exact h7 i hi, fun i i0 i1 => by rw [er]; exact h8 i i0 i1, e.gI h9⟩
section CDY
variable {l : Launch} {G : fp_WG} {M N : fp_Mem} {tp : List Int} {fl : Int} {g : aGd} {pg : aPg} {vs : List aVt} {nt : List Int} {im : aIm} {sh : aSh} {tn : Int}
theorem xk_X0_noteFirst {turn deed : Int} (ht : 0 ≤ turn ∧ turn ≤ 6) : fp_Ok l G 0 kX0_noteFirst [rV G 121, iV turn, iV deed] M (qV fun N => N 121 0 = M 121 0 ∧ N 121 1 = (if turn = 0 then deed else M 121 1) ∧ ∀ a, a ≠ 121 → N a = M a) := by
  refine fp_Ok.of (r := 0) rfl (Nat.le_of_ble_eq_true rfl) rfl ?_
  refine S.iload_n (pc' := 1) dX0_noteFirst_0 rfl rfl rfl ?_
  refine S.if_ne (pc' := 4) (tgt := 9) dX0_noteFirst_1 (by decide) rfl (by unfold fp_rng; omega) (fun h1 => ?_) (fun h1 => ?_)
  · refine S.vret dX0_noteFirst_9 rfl ?_
    first
    | exact ⟨rfl, by rw [if_neg (by omega)], fun _ _ => rfl⟩
    | exact ⟨by rw [fp_up_at, fp_upf_ne (by decide)], by rw [fp_up_at, fp_upf_at, if_pos (by omega)], fun a ha => fp_up_ne ha⟩
  · refine S.aload_n (pc' := 5) dX0_noteFirst_4 rfl rfl rfl ?_
    refine S.iload_n (pc' := 6) dX0_noteFirst_5 rfl rfl rfl ?_
    refine S.putI (pc' := 9) dX0_noteFirst_6 rfl fX0_76 L_121 ?_
    refine S.vret dX0_noteFirst_9 rfl ?_
    first
    | exact ⟨rfl, by rw [if_neg (by omega)], fun _ _ => rfl⟩
    | exact ⟨by rw [fp_up_at, fp_upf_ne (by decide)], by rw [fp_up_at, fp_upf_at, if_pos (by omega)], fun a ha => fp_up_ne ha⟩
/-- the best of the deeds tried, as the class keeps it -/
def dBst (b : Option (Int × Int)) (any best turn f : Int) : Prop := (b = none ∧ any = 0 ∧ best = 0) ∨ ∃ r, b = some r ∧ any = 1 ∧ best = r.1 ∧ (turn = 0 → f = r.2)
theorem xk_X0_outcome {kind p q T : Int} (hg : gOk g) (hk : 0 ≤ kind ∧ kind ≤ 2) (hp : 0 ≤ p ∧ p < 4) (hq : 0 ≤ q ∧ q < 4) (hT : 1 ≤ T ∧ T ≤ 6) : ∀ (n : Nat) (turn : Int) (M : fp_Mem) (s : dSt), 0 ≤ turn → turn + n = 6 → dOkS g s → dRep M g turn p q T s → fp_Ok l G (n + 3) kX0_outcome [rV G 121, rV G 18, iV kind, iV turn] M (qI fun z N => z = (dVal g kind p q (T - turn).toNat turn s).1 ∧ (turn = 0 → N 121 1 = (dVal g kind p q (T - turn).toNat turn s).2) ∧ (turn ≠ 0 → N 121 1 = M 121 1) ∧ dPost M N turn) := by
  intro n
  induction n with
  | zero =>
    intro turn M s t0 t1 hs hr
    have hp1 : M 121 0 = T := hr.1
    have e0 : (T - turn).toNat = 0 := by omega
    rw [e0]
    refine fp_Ok.of (r := 6) rfl (Nat.le_of_ble_eq_true rfl) rfl ?_
    refine S.iload_n (pc' := 1) dX0_outcome_0 rfl rfl rfl ?_
    refine S.bipush (pc' := 3) dX0_outcome_1 rfl (by decide) ?_
    refine S.icmp_ge (pc' := 6) (tgt := 14) dX0_outcome_3 (by decide) rfl (by unfold fp_rng; omega) (by unfold fp_rng; omega) (fun h3 => ?_) (fun h3 => ?_)
    · refine S.iconst (pc' := 15) dX0_outcome_14 rfl ?_
      refine S.iret dX0_outcome_15 rfl ?_
      exact ⟨rfl, fun q => by omega, fun _ => rfl, dPost.refl _ _⟩
    · exfalso; omega
  | succ n ih =>
    intro turn M s t0 t1 hs hr
    have hp1 : M 121 0 = T := hr.1
    have hmv : 0 ≤ turn % 2 ∧ turn % 2 ≤ 1 := by omega
    refine fp_Ok.of (r := 6) rfl (Nat.le_of_ble_eq_true rfl) rfl ?_
    by_cases hTt : T ≤ turn
    · have e0 : (T - turn).toNat = 0 := by omega
      rw [e0]
      refine S.iload_n (pc' := 1) dX0_outcome_0 rfl rfl rfl ?_
      refine S.bipush (pc' := 3) dX0_outcome_1 rfl (by decide) ?_
      refine S.icmp_ge (pc' := 6) (tgt := 14) dX0_outcome_3 (by decide) rfl (by unfold fp_rng; omega) (by unfold fp_rng; omega) (fun h3 => ?_) (fun h3 => ?_)
      · refine S.iconst (pc' := 15) dX0_outcome_14 rfl ?_
        refine S.iret dX0_outcome_15 rfl ?_
        exact ⟨rfl, fun q => by omega, fun _ => rfl, dPost.refl _ _⟩
      · refine S.iload_n (pc' := 7) dX0_outcome_6 rfl rfl rfl ?_
        refine S.aload_n (pc' := 8) dX0_outcome_7 rfl rfl rfl ?_
        refine S.getI (pc' := 11) dX0_outcome_8 rfl fX0_40 L_121 ?_
        rw [hp1]
        refine S.icmp_lt (pc' := 14) (tgt := 16) dX0_outcome_11 (by decide) rfl (by unfold fp_rng; omega) (by unfold fp_rng; omega) (fun h11 => ?_) (fun h11 => ?_)
        · exfalso; omega
        · refine S.iconst (pc' := 15) dX0_outcome_14 rfl ?_
          refine S.iret dX0_outcome_15 rfl ?_
          exact ⟨rfl, fun q => by omega, fun _ => rfl, dPost.refl _ _⟩
    · obtain ⟨j, hj⟩ : ∃ j : Nat, (T - turn).toNat = j + 1 := ⟨(T - turn).toNat - 1, by omega⟩
      have hj2 : (T - (turn + 1)).toNat = j := by omega
      rw [hj]
      generalize hVe : (fun u : dSt => (dVal g kind p q j (turn + 1) u).1) = V
      have hval : dVal g kind p q (j + 1) turn s = (dUp g kind p q turn s V 3).getD (0, 0) := by rw [dVal, hVe]
      have hVa : ∀ u, V u = (dVal g kind p q j (turn + 1) u).1 := fun u => by rw [← hVe]
      have hVin : ∀ u, dOkS g u → -(20 * (j : Int)) ≤ V u ∧ V u ≤ 20 * j := fun u hu => by rw [hVa]; exact dVal_in hg hp hq j _ u hu
      have hj6 : (j : Int) ≤ 5 := by omega
      rw [hval]
      have hUin := dUp_in (kind := kind) (k := turn) hg hs hp hq hVin
      generalize hmE : turn % 2 = mv at *
      have hL : ∀ (r : Nat) (deed : Nat) (any best : Int) (N : fp_Mem) (o8 o9 : Option Value), 3 - deed < r → deed ≤ 3 → dBst (dUp g kind p q turn s V deed) any best turn (N 121 1) → (turn ≠ 0 → N 121 1 = M 121 1) → dPost M N turn →
          fp_S l G (n + 1 + 3) kX0_outcome 30 [some (rV G 121), some (rV G 18), some (iV kind), some (iV turn), some (iV mv), some (iV any), some (iV best), some (iV (deed : Int)), o8, o9] [] N (qI fun z N => z = ((dUp g kind p q turn s V 3).getD (0, 0)).1 ∧ (turn = 0 → N 121 1 = ((dUp g kind p q turn s V 3).getD (0, 0)).2) ∧ (turn ≠ 0 → N 121 1 = M 121 1) ∧ dPost M N turn) := by
        intro r
        induction r with
        | zero => intro deed any best N o8 o9 h; omega
        | succ r ihr =>
          intro deed any best N o8 o9 h d1 hb hfi hpo
          by_cases hlt : deed < 3
          · have hrN := hr.to hpo (by omega)
            obtain ⟨q1, q2, q3, q4, q5, q6, q7, q8, q9⟩ := hrN
            have hs1 := hs.1
            have hs3 := hs.2.2.1
            have hs4 := hs.2.2.2
            have h123 : N 123 mv.toNat = if mv = 0 then s.2.1 else s.2.2 := by
              rcases (show mv = 0 ∨ mv = 1 by omega) with e | e
              · rw [e]; exact q4
              · rw [e]; exact q5
            have h122 : N 122 mv.toNat = if mv = 0 then p else q := by
              rcases (show mv = 0 ∨ mv = 1 by omega) with e | e
              · rw [e]; exact q2
              · rw [e]; exact q3
            have h123r : 0 ≤ N 123 mv.toNat ∧ N 123 mv.toNat ≤ 2 := by rw [h123]; split <;> omega
            have h127 : ∀ (any best : Int) (O : fp_Mem) (o8 o9 : Option Value), dBst (dUp g kind p q turn s V (deed + 1)) any best turn (O 121 1) → (turn ≠ 0 → O 121 1 = M 121 1) → dPost M O turn → fp_S l G (n + 1 + 3) kX0_outcome 127 [some (rV G 121), some (rV G 18), some (iV kind), some (iV turn), some (iV mv), some (iV any), some (iV best), some (iV (deed : Int)), o8, o9] [] O (qI fun z N => z = ((dUp g kind p q turn s V 3).getD (0, 0)).1 ∧ (turn = 0 → N 121 1 = ((dUp g kind p q turn s V 3).getD (0, 0)).2) ∧ (turn ≠ 0 → N 121 1 = M 121 1) ∧ dPost M N turn) := by
              intro any best O o8 o9 a1 a2 a3
              have ih9 := ihr (deed + 1) any best O o8 o9 (by omega) (by omega) a1 a2 a3
              rw [show ((deed + 1 : Nat) : Int) = (deed : Int) + 1 by omega] at ih9
              refine S.iinc (pc' := 130) (LL' := [_, _, _, _, _, _, _, _, _, _]) dX0_outcome_127 rfl (by decide) rfl rfl rfl ?_
              refine S.goto (pc' := 30) dX0_outcome_130 (by decide) ?_
              exact ih9
            have cC := wk_X0_canDo (l := l) (G := G) (M := N) (deed := (deed : Int)) (turn := turn) (mover := mv) (by omega) (by omega) hmv (by unfold fp_rng; omega) (by unfold fp_rng; omega)
            have hcanE : ((deed : Int) = 1 → (0 < N 123 mv.toNat ∧ N 132 turn.toNat < 8)) ↔ dCan (deed : Int) mv s := by
              unfold dCan
              rw [h123, q6]
              constructor
              · intro a b; have := a b; exact ⟨this.1, by omega⟩
              · intro a b; have := a b; exact ⟨this.1, by omega⟩
            by_cases hcan : dCan (deed : Int) mv s
            · rw [if_pos (hcanE.mpr hcan)] at cC
              have hnx := dNext_ok (kind := kind) hs hcan
              have hgin := dGain_in (kind := kind) (d := (deed : Int)) (mv := mv) hg hs hp hq
              have hVn := hVin _ hnx
              have eU : dUp g kind p q turn s V (deed + 1) = dBet mv (dUp g kind p q turn s V deed) (deed : Int) (dGain g kind p q (deed : Int) mv s + V (dNext g kind (deed : Int) mv s)) := by
                rw [dUp]; unfold dStp; rw [hmE, if_pos hcan]
              have hany : any = 0 ∨ any = 1 := by rcases hb with ⟨-, a, -⟩ | ⟨r9, -, a, -⟩ <;> omega
              have hbest : -120 ≤ best ∧ best ≤ 120 := by
                rcases hb with ⟨-, -, a⟩ | ⟨r9, a1, -, a, -⟩
                · omega
                · have := hUin deed r9 a1; omega
              refine S.iload (pc' := 32) dX0_outcome_30 rfl rfl ?_
              refine S.iconst (pc' := 33) dX0_outcome_32 rfl ?_
              refine S.icmp_ge (pc' := 36) (tgt := 133) dX0_outcome_33 (by decide) rfl (by unfold fp_rng; omega) (by unfold fp_rng; omega) (fun h33 => ?_) (fun h33 => ?_)
              · exfalso; omega
              · refine S.aload_n (pc' := 37) dX0_outcome_36 rfl rfl rfl ?_
                refine S.iload (pc' := 39) dX0_outcome_37 rfl rfl ?_
                refine S.iload_n (pc' := 40) dX0_outcome_39 rfl rfl rfl ?_
                refine S.iload (pc' := 42) dX0_outcome_40 rfl rfl ?_
                refine S.callVe (pc' := 45) dX0_outcome_42 rfl cX0_48 cC rfl L_121 (by omega) rfl (Nat.le_of_ble_eq_true rfl) ?_
                refine S.if_ne (pc' := 48) (tgt := 51) dX0_outcome_45 (by decide) rfl (by unfold fp_rng; omega) (fun h45 => ?_) (fun h45 => ?_)
                · refine S.aload_n (pc' := 52) dX0_outcome_51 rfl rfl rfl ?_
                  refine S.aload_n (pc' := 53) dX0_outcome_52 rfl rfl rfl ?_
                  refine S.iload_n (pc' := 54) dX0_outcome_53 rfl rfl rfl ?_
                  refine S.iload (pc' := 56) dX0_outcome_54 rfl rfl ?_
                  refine S.iload_n (pc' := 57) dX0_outcome_56 rfl rfl rfl ?_
                  refine S.iload (pc' := 59) dX0_outcome_57 rfl rfl ?_
                  refine S.callVi (pc' := 62) dX0_outcome_59 rfl cX0_52 (xk_X0_perform (s := s) (p := p) (q := q) hg q9 hk (by omega) (by omega) hmv hp hq h122 hs hcan q8 q6 q7) rfl L_121 (by omega) rfl (Nat.le_of_ble_eq_true rfl) (fun z59 M59 q59 => ?_)
                  obtain ⟨p1, p2, p7, p3, p4, p5, p6⟩ := q59
                  have hrep1 : dRep M59 g (turn + 1) p q T (dNext g kind (deed : Int) mv s) := by
                    refine ⟨by rw [p6 121 (by decide) (by decide) (by omega)]; exact q1, by rw [p6 122 (by decide) (by decide) (by omega)]; exact q2, by rw [p6 122 (by decide) (by decide) (by omega)]; exact q3, ?_, ?_, p3, p7, p2, q9.same (p6 18 (by decide) (by decide) (by omega)) (p6 (18 + 1) (by decide) (by decide) (by omega)) (p6 (18 + 2) (by decide) (by decide) (by omega)) (p6 (18 + 3) (by decide) (by decide) (by omega))⟩
                    · rw [p5]
                      unfold dNext
                      by_cases e : (deed : Int) = 1
                      · rw [if_pos e, if_pos e]
                        rcases (show mv = 0 ∨ mv = 1 by omega) with em | em
                        · rw [em]; show fp_upf (N 123) 0 (N 123 0 - 1) 0 = s.2.1 - 1; rw [fp_upf_at, q4]
                        · rw [em]; show fp_upf (N 123) 1 (N 123 1 - 1) 0 = s.2.1; rw [fp_upf_ne (by decide)]; exact q4
                      · rw [if_neg e, if_neg e]
                        split <;> exact q4
                    · rw [p5]
                      unfold dNext
                      by_cases e : (deed : Int) = 1
                      · rw [if_pos e, if_pos e]
                        rcases (show mv = 0 ∨ mv = 1 by omega) with em | em
                        · rw [em]; show fp_upf (N 123) 0 (N 123 0 - 1) 1 = s.2.2; rw [fp_upf_ne (by decide)]; exact q5
                        · rw [em]; show fp_upf (N 123) 1 (N 123 1 - 1) 1 = s.2.2 - 1; rw [fp_upf_at, q5]
                      · rw [if_neg e, if_neg e]
                        split <;> exact q5
                  refine S.istore (pc' := 64) (LL' := [_, _, _, _, _, _, _, _, _, _]) dX0_outcome_62 rfl (by decide) rfl rfl ?_
                  refine S.iload (pc' := 66) dX0_outcome_64 rfl rfl ?_
                  refine S.aload_n (pc' := 67) dX0_outcome_66 rfl rfl rfl ?_
                  refine S.aload_n (pc' := 68) dX0_outcome_67 rfl rfl rfl ?_
                  refine S.iload_n (pc' := 69) dX0_outcome_68 rfl rfl rfl ?_
                  refine S.iload_n (pc' := 70) dX0_outcome_69 rfl rfl rfl ?_
                  refine S.iconst (pc' := 71) dX0_outcome_70 rfl ?_
                  refine S.iadd (pc' := 72) dX0_outcome_71 rfl ?_
                  refine S.callVi (pc' := 75) dX0_outcome_72 rfl cX0_44 (ih (turn + 1) M59 _ (by omega) (by omega) hnx hrep1) rfl L_121 (by omega) rfl (Nat.le_of_ble_eq_true rfl) (fun z72 M72 q72 => ?_)
                  obtain ⟨w1, -, w3, w2⟩ := q72
                  rw [hj2, ← hVa] at w1
                  refine S.iadd (pc' := 76) dX0_outcome_75 rfl ?_
                  refine S.istore (pc' := 78) (LL' := [_, _, _, _, _, _, _, _, _, _]) dX0_outcome_76 rfl (by decide) rfl rfl ?_
                  refine S.aload_n (pc' := 79) dX0_outcome_78 rfl rfl rfl ?_
                  refine S.iload (pc' := 81) dX0_outcome_79 rfl rfl ?_
                  refine S.iload (pc' := 83) dX0_outcome_81 rfl rfl ?_
                  refine S.callVv (pc' := 86) dX0_outcome_83 rfl cX0_56 (wk_X0_takeBack (by omega) hmv) rfl L_121 (by omega) rfl (Nat.le_of_ble_eq_true rfl) (fun M83 q83 => ?_)
                  obtain ⟨b1, b2⟩ := q83
                  have hf83 : M83 121 1 = N 121 1 := by rw [b2 121 (by decide), w3 (by omega), p6 121 (by decide) (by decide) (by omega)]
                  have hpo3 : dPost M M83 turn := by
                    refine ⟨?_, ?_, fun j hj => ?_, fun a a1 a2 a3 a4 => ?_⟩
                    · rw [b2 121 (by decide), w2.1, p6 121 (by decide) (by decide) (by omega)]; exact hpo.1
                    · rw [b1, w2.2.1, p5, ← hpo.2.1]
                      by_cases e : (deed : Int) = 1
                      · rw [if_pos e, if_pos e]
                        funext j
                        unfold fp_upf
                        split
                        · rename_i ej
                          rw [if_pos rfl, ej]; omega
                        · rfl
                      · rw [if_neg e, if_neg e]
                    · rw [b2 132 (by decide), w2.2.2.1 j (by omega), p4 j (by omega)]; exact hpo.2.2.1 j hj
                    · rw [b2 a a2, w2.2.2.2 a a1 a2 a3 (by omega), p6 a a2 a3 (by omega)]; exact hpo.2.2.2 a a1 a2 a3 a4
                  have hcts : z59 + z72 = dGain g kind p q (deed : Int) mv s + V (dNext g kind (deed : Int) mv s) := by rw [p1, w1]
                  have hno : (¬ (dUp g kind p q turn s V deed = none) → ∃ r, dUp g kind p q turn s V deed = some r ∧ best = r.1 ∧ (turn = 0 → N 121 1 = r.2)) := fun q => by
                    rcases hb with ⟨a, -⟩ | ⟨r9, a, -, a2, a3⟩
                    · exact absurd a q
                    · exact ⟨r9, a, a2, a3⟩
                  rw [← hcts] at eU
                  refine S.iload (pc' := 88) dX0_outcome_86 rfl rfl ?_
                  refine S.if_eq (pc' := 91) (tgt := 113) dX0_outcome_88 (by decide) rfl (by unfold fp_rng; omega) (fun h88 => ?_) (fun h88 => ?_)
                  · refine S.iconst (pc' := 114) dX0_outcome_113 rfl ?_
                    refine S.istore (pc' := 116) (LL' := [_, _, _, _, _, _, _, _, _, _]) dX0_outcome_114 rfl (by decide) rfl rfl ?_
                    refine S.iload (pc' := 118) dX0_outcome_116 rfl rfl ?_
                    refine S.istore (pc' := 120) (LL' := [_, _, _, _, _, _, _, _, _, _]) dX0_outcome_118 rfl (by decide) rfl rfl ?_
                    refine S.aload_n (pc' := 121) dX0_outcome_120 rfl rfl rfl ?_
                    refine S.iload_n (pc' := 122) dX0_outcome_121 rfl rfl rfl ?_
                    refine S.iload (pc' := 124) dX0_outcome_122 rfl rfl ?_
                    refine S.callVv (pc' := 127) dX0_outcome_124 rfl cX0_60 (xk_X0_noteFirst (by omega)) rfl L_121 (by omega) rfl (Nat.le_of_ble_eq_true rfl) (fun M124 q124 => ?_)
                    first
                    | (refine h127 _ _ _ _ _ ?_ (fun a => by rw [hf83]; exact hfi a) hpo3
                       rcases hb with ⟨a1, a2, a3⟩ | ⟨r9, a1, a2, a3, a4⟩
                       · exfalso; omega
                       · refine Or.inr ⟨r9, ?_, a2, a3, fun e => by rw [hf83]; exact a4 e⟩
                         rw [eU, a1]
                         unfold dBet
                         simp only
                         rw [if_neg (by omega)]; done)
                    | (refine h127 _ _ _ _ _ (Or.inr ⟨(z59 + z72, (deed : Int)), ?_, rfl, rfl, fun e => by rw [q124.2.1, if_pos e]⟩) (fun a => by rw [q124.2.1, if_neg a, hf83]; exact hfi a) ⟨q124.1.trans hpo3.1, by rw [q124.2.2 123 (by decide)]; exact hpo3.2.1, fun j hj => by rw [q124.2.2 132 (by decide)]; exact hpo3.2.2.1 j hj, fun a a1 a2 a3 a4 => by rw [q124.2.2 a a1]; exact hpo3.2.2.2 a a1 a2 a3 a4⟩
                       rw [eU]
                       rcases hb with ⟨a1, a2, a3⟩ | ⟨r9, a1, a2, a3, a4⟩
                       · rw [a1]; rfl
                       · rw [a1]
                         unfold dBet
                         simp only
                         rw [if_pos (by omega)])
                  · refine S.iload (pc' := 93) dX0_outcome_91 rfl rfl ?_
                    refine S.if_ne (pc' := 96) (tgt := 106) dX0_outcome_93 (by decide) rfl (by unfold fp_rng; omega) (fun h93 => ?_) (fun h93 => ?_)
                    · refine S.iload (pc' := 108) dX0_outcome_106 rfl rfl ?_
                      refine S.iload (pc' := 110) dX0_outcome_108 rfl rfl ?_
                      refine S.icmp_ge (pc' := 113) (tgt := 127) dX0_outcome_110 (by decide) rfl (by unfold fp_rng; omega) (by unfold fp_rng; omega) (fun h110 => ?_) (fun h110 => ?_)
                      · first
                        | (refine h127 _ _ _ _ _ ?_ (fun a => by rw [hf83]; exact hfi a) hpo3
                           rcases hb with ⟨a1, a2, a3⟩ | ⟨r9, a1, a2, a3, a4⟩
                           · exfalso; omega
                           · refine Or.inr ⟨r9, ?_, a2, a3, fun e => by rw [hf83]; exact a4 e⟩
                             rw [eU, a1]
                             unfold dBet
                             simp only
                             rw [if_neg (by omega)]; done)
                        | (refine h127 _ _ _ _ _ (Or.inr ⟨(z59 + z72, (deed : Int)), ?_, rfl, rfl, fun e => by rw [q124.2.1, if_pos e]⟩) (fun a => by rw [q124.2.1, if_neg a, hf83]; exact hfi a) ⟨q124.1.trans hpo3.1, by rw [q124.2.2 123 (by decide)]; exact hpo3.2.1, fun j hj => by rw [q124.2.2 132 (by decide)]; exact hpo3.2.2.1 j hj, fun a a1 a2 a3 a4 => by rw [q124.2.2 a a1]; exact hpo3.2.2.2 a a1 a2 a3 a4⟩
                           rw [eU]
                           rcases hb with ⟨a1, a2, a3⟩ | ⟨r9, a1, a2, a3, a4⟩
                           · rw [a1]; rfl
                           · rw [a1]
                             unfold dBet
                             simp only
                             rw [if_pos (by omega)])
                      · refine S.iconst (pc' := 114) dX0_outcome_113 rfl ?_
                        refine S.istore (pc' := 116) (LL' := [_, _, _, _, _, _, _, _, _, _]) dX0_outcome_114 rfl (by decide) rfl rfl ?_
                        refine S.iload (pc' := 118) dX0_outcome_116 rfl rfl ?_
                        refine S.istore (pc' := 120) (LL' := [_, _, _, _, _, _, _, _, _, _]) dX0_outcome_118 rfl (by decide) rfl rfl ?_
                        refine S.aload_n (pc' := 121) dX0_outcome_120 rfl rfl rfl ?_
                        refine S.iload_n (pc' := 122) dX0_outcome_121 rfl rfl rfl ?_
                        refine S.iload (pc' := 124) dX0_outcome_122 rfl rfl ?_
                        refine S.callVv (pc' := 127) dX0_outcome_124 rfl cX0_60 (xk_X0_noteFirst (by omega)) rfl L_121 (by omega) rfl (Nat.le_of_ble_eq_true rfl) (fun M124 q124 => ?_)
                        first
                        | (refine h127 _ _ _ _ _ ?_ (fun a => by rw [hf83]; exact hfi a) hpo3
                           rcases hb with ⟨a1, a2, a3⟩ | ⟨r9, a1, a2, a3, a4⟩
                           · exfalso; omega
                           · refine Or.inr ⟨r9, ?_, a2, a3, fun e => by rw [hf83]; exact a4 e⟩
                             rw [eU, a1]
                             unfold dBet
                             simp only
                             rw [if_neg (by omega)]; done)
                        | (refine h127 _ _ _ _ _ (Or.inr ⟨(z59 + z72, (deed : Int)), ?_, rfl, rfl, fun e => by rw [q124.2.1, if_pos e]⟩) (fun a => by rw [q124.2.1, if_neg a, hf83]; exact hfi a) ⟨q124.1.trans hpo3.1, by rw [q124.2.2 123 (by decide)]; exact hpo3.2.1, fun j hj => by rw [q124.2.2 132 (by decide)]; exact hpo3.2.2.1 j hj, fun a a1 a2 a3 a4 => by rw [q124.2.2 a a1]; exact hpo3.2.2.2 a a1 a2 a3 a4⟩
                           rw [eU]
                           rcases hb with ⟨a1, a2, a3⟩ | ⟨r9, a1, a2, a3, a4⟩
                           · rw [a1]; rfl
                           · rw [a1]
                             unfold dBet
                             simp only
                             rw [if_pos (by omega)])
                    · refine S.iload (pc' := 98) dX0_outcome_96 rfl rfl ?_
                      refine S.iload (pc' := 100) dX0_outcome_98 rfl rfl ?_
                      refine S.icmp_le (pc' := 103) (tgt := 127) dX0_outcome_100 (by decide) rfl (by unfold fp_rng; omega) (by unfold fp_rng; omega) (fun h100 => ?_) (fun h100 => ?_)
                      · first
                        | (refine h127 _ _ _ _ _ ?_ (fun a => by rw [hf83]; exact hfi a) hpo3
                           rcases hb with ⟨a1, a2, a3⟩ | ⟨r9, a1, a2, a3, a4⟩
                           · exfalso; omega
                           · refine Or.inr ⟨r9, ?_, a2, a3, fun e => by rw [hf83]; exact a4 e⟩
                             rw [eU, a1]
                             unfold dBet
                             simp only
                             rw [if_neg (by omega)]; done)
                        | (refine h127 _ _ _ _ _ (Or.inr ⟨(z59 + z72, (deed : Int)), ?_, rfl, rfl, fun e => by rw [q124.2.1, if_pos e]⟩) (fun a => by rw [q124.2.1, if_neg a, hf83]; exact hfi a) ⟨q124.1.trans hpo3.1, by rw [q124.2.2 123 (by decide)]; exact hpo3.2.1, fun j hj => by rw [q124.2.2 132 (by decide)]; exact hpo3.2.2.1 j hj, fun a a1 a2 a3 a4 => by rw [q124.2.2 a a1]; exact hpo3.2.2.2 a a1 a2 a3 a4⟩
                           rw [eU]
                           rcases hb with ⟨a1, a2, a3⟩ | ⟨r9, a1, a2, a3, a4⟩
                           · rw [a1]; rfl
                           · rw [a1]
                             unfold dBet
                             simp only
                             rw [if_pos (by omega)])
                      · refine S.goto (pc' := 113) dX0_outcome_103 (by decide) ?_
                        refine S.iconst (pc' := 114) dX0_outcome_113 rfl ?_
                        refine S.istore (pc' := 116) (LL' := [_, _, _, _, _, _, _, _, _, _]) dX0_outcome_114 rfl (by decide) rfl rfl ?_
                        refine S.iload (pc' := 118) dX0_outcome_116 rfl rfl ?_
                        refine S.istore (pc' := 120) (LL' := [_, _, _, _, _, _, _, _, _, _]) dX0_outcome_118 rfl (by decide) rfl rfl ?_
                        refine S.aload_n (pc' := 121) dX0_outcome_120 rfl rfl rfl ?_
                        refine S.iload_n (pc' := 122) dX0_outcome_121 rfl rfl rfl ?_
                        refine S.iload (pc' := 124) dX0_outcome_122 rfl rfl ?_
                        refine S.callVv (pc' := 127) dX0_outcome_124 rfl cX0_60 (xk_X0_noteFirst (by omega)) rfl L_121 (by omega) rfl (Nat.le_of_ble_eq_true rfl) (fun M124 q124 => ?_)
                        first
                        | (refine h127 _ _ _ _ _ ?_ (fun a => by rw [hf83]; exact hfi a) hpo3
                           rcases hb with ⟨a1, a2, a3⟩ | ⟨r9, a1, a2, a3, a4⟩
                           · exfalso; omega
                           · refine Or.inr ⟨r9, ?_, a2, a3, fun e => by rw [hf83]; exact a4 e⟩
                             rw [eU, a1]
                             unfold dBet
                             simp only
                             rw [if_neg (by omega)]; done)
                        | (refine h127 _ _ _ _ _ (Or.inr ⟨(z59 + z72, (deed : Int)), ?_, rfl, rfl, fun e => by rw [q124.2.1, if_pos e]⟩) (fun a => by rw [q124.2.1, if_neg a, hf83]; exact hfi a) ⟨q124.1.trans hpo3.1, by rw [q124.2.2 123 (by decide)]; exact hpo3.2.1, fun j hj => by rw [q124.2.2 132 (by decide)]; exact hpo3.2.2.1 j hj, fun a a1 a2 a3 a4 => by rw [q124.2.2 a a1]; exact hpo3.2.2.2 a a1 a2 a3 a4⟩
                           rw [eU]
                           rcases hb with ⟨a1, a2, a3⟩ | ⟨r9, a1, a2, a3, a4⟩
                           · rw [a1]; rfl
                           · rw [a1]
                             unfold dBet
                             simp only
                             rw [if_pos (by omega)])
                · exact absurd h45 (by decide)
            · rw [if_neg (fun q => hcan (hcanE.mp q))] at cC
              have eU : dUp g kind p q turn s V (deed + 1) = dUp g kind p q turn s V deed := by
                rw [dUp]; unfold dStp; rw [hmE, if_neg hcan]
              rw [← eU] at hb
              refine S.iload (pc' := 32) dX0_outcome_30 rfl rfl ?_
              refine S.iconst (pc' := 33) dX0_outcome_32 rfl ?_
              refine S.icmp_ge (pc' := 36) (tgt := 133) dX0_outcome_33 (by decide) rfl (by unfold fp_rng; omega) (by unfold fp_rng; omega) (fun h33 => ?_) (fun h33 => ?_)
              · exfalso; omega
              · refine S.aload_n (pc' := 37) dX0_outcome_36 rfl rfl rfl ?_
                refine S.iload (pc' := 39) dX0_outcome_37 rfl rfl ?_
                refine S.iload_n (pc' := 40) dX0_outcome_39 rfl rfl rfl ?_
                refine S.iload (pc' := 42) dX0_outcome_40 rfl rfl ?_
                refine S.callVe (pc' := 45) dX0_outcome_42 rfl cX0_48 cC rfl L_121 (by omega) rfl (Nat.le_of_ble_eq_true rfl) ?_
                refine S.if_ne (pc' := 48) (tgt := 51) dX0_outcome_45 (by decide) rfl (by unfold fp_rng; omega) (fun h45 => ?_) (fun h45 => ?_)
                · exact absurd rfl h45
                · refine S.goto (pc' := 127) dX0_outcome_48 (by decide) ?_
                  exact h127 _ _ _ _ _ hb hfi hpo
          · have e3 : deed = 3 := by omega
            subst e3
            refine S.iload (pc' := 32) dX0_outcome_30 rfl rfl ?_
            refine S.iconst (pc' := 33) dX0_outcome_32 rfl ?_
            refine S.icmp_ge (pc' := 36) (tgt := 133) dX0_outcome_33 (by decide) rfl (by unfold fp_rng; omega) (by unfold fp_rng; omega) (fun h33 => ?_) (fun h33 => ?_)
            · refine S.iload (pc' := 135) dX0_outcome_133 rfl rfl ?_
              refine S.iret dX0_outcome_135 rfl ?_
              rcases hb with ⟨a1, -⟩ | ⟨r9, a1, a2, a3, a4⟩
              · exact absurd a1 (dUp_some 2)
              · rw [a1]; exact ⟨a3, a4, hfi, hpo⟩
            · exfalso; omega
      refine S.iload_n (pc' := 1) dX0_outcome_0 rfl rfl rfl ?_
      refine S.bipush (pc' := 3) dX0_outcome_1 rfl (by decide) ?_
      refine S.icmp_ge (pc' := 6) (tgt := 14) dX0_outcome_3 (by decide) rfl (by unfold fp_rng; omega) (by unfold fp_rng; omega) (fun h3 => ?_) (fun h3 => ?_)
      · refine S.iconst (pc' := 15) dX0_outcome_14 rfl ?_
        refine S.iret dX0_outcome_15 rfl ?_
        exfalso; omega
      · refine S.iload_n (pc' := 7) dX0_outcome_6 rfl rfl rfl ?_
        refine S.aload_n (pc' := 8) dX0_outcome_7 rfl rfl rfl ?_
        refine S.getI (pc' := 11) dX0_outcome_8 rfl fX0_40 L_121 ?_
        rw [hp1]
        refine S.icmp_lt (pc' := 14) (tgt := 16) dX0_outcome_11 (by decide) rfl (by unfold fp_rng; omega) (by unfold fp_rng; omega) (fun h11 => ?_) (fun h11 => ?_)
        · refine S.iload_n (pc' := 17) dX0_outcome_16 rfl rfl rfl ?_
          refine S.iconst (pc' := 18) dX0_outcome_17 rfl ?_
          refine S.irem (pc' := 19) dX0_outcome_18 rfl (by decide) (fp_irem (by omega) (by omega)) ?_
          rw [hmE]
          refine S.istore (pc' := 21) (LL' := [_, _, _, _, _, _, _, _, _, _]) dX0_outcome_19 rfl (by decide) rfl rfl ?_
          refine S.iconst (pc' := 22) dX0_outcome_21 rfl ?_
          refine S.istore (pc' := 24) (LL' := [_, _, _, _, _, _, _, _, _, _]) dX0_outcome_22 rfl (by decide) rfl rfl ?_
          refine S.iconst (pc' := 25) dX0_outcome_24 rfl ?_
          refine S.istore (pc' := 27) (LL' := [_, _, _, _, _, _, _, _, _, _]) dX0_outcome_25 rfl (by decide) rfl rfl ?_
          refine S.iconst (pc' := 28) dX0_outcome_27 rfl ?_
          refine S.istore (pc' := 30) (LL' := [_, _, _, _, _, _, _, _, _, _]) dX0_outcome_28 rfl (by decide) rfl rfl ?_
          exact hL 4 0 0 0 M none none (by omega) (by omega) (Or.inl ⟨rfl, rfl, rfl⟩) (fun _ => rfl) (dPost.refl _ _)
        · refine S.iconst (pc' := 15) dX0_outcome_14 rfl ?_
          refine S.iret dX0_outcome_15 rfl ?_
          exfalso; omega
theorem xk_X0_fight {kind p q T : Int} {s : dSt} (hg : gOk g) (hk : 0 ≤ kind ∧ kind ≤ 2) (hp : 0 ≤ p ∧ p < 4) (hq : 0 ≤ q ∧ q < 4) (hT : 1 ≤ T ∧ T ≤ 6) (hs : dOkS g s) (hr : dRep M g 0 p q T s) : fp_Ok l G 10 kX0_fight [rV G 121, rV G 18, iV kind] M (qI fun z N => z = (dVal g kind p q T.toNat 0 s).1 ∧ N 121 1 = (dVal g kind p q T.toNat 0 s).2 ∧ dPost M N 0) := by
  refine fp_Ok.of (r := 0) rfl (Nat.le_of_ble_eq_true rfl) rfl ?_
  refine S.aload_n (pc' := 1) dX0_fight_0 rfl rfl rfl ?_
  refine S.aload_n (pc' := 2) dX0_fight_1 rfl rfl rfl ?_
  refine S.iload_n (pc' := 3) dX0_fight_2 rfl rfl rfl ?_
  refine S.iconst (pc' := 4) dX0_fight_3 rfl ?_
  refine S.callVi (pc' := 7) dX0_fight_4 rfl cX0_44 (xk_X0_outcome hg hk hp hq hT 6 0 M s (by omega) (by omega) hs hr) rfl L_121 (by decide) rfl (Nat.le_of_ble_eq_true rfl) (fun z4 M4 q4 => ?_)
  refine S.iret dX0_fight_7 rfl ?_
  rw [Int.sub_zero] at q4; exact ⟨q4.1, q4.2.1 rfl, q4.2.2.2⟩
theorem xk_X0_prepare {x p q r n : Int} (hx : 0 ≤ x ∧ x < g.2.1) (hp : 0 ≤ p ∧ p < 4) (hq : 0 ≤ q ∧ q < 4) (hr : 0 ≤ r ∧ r ≤ 2) (hn : 1 ≤ n ∧ n ≤ 6) (hg : gOk g) (hP : pgOk g pg) (hcl : clIs M 22 g pg) (hgI : gdIs M 18 g) : fp_Ok l G 1 kX0_prepare [rV G 121, rV G 22, iV x, iV p, iV q, iV r, iV n] M (qV fun N => dRep N g 0 p q n (pg.2.2 x, r, r) ∧ ∀ a, (a < 121 ∨ 132 < a) → N a = M a) := by
  have hg2 := hg.2.1
  have hx3 : 0 ≤ x ∧ x < 3 := by omega
  have hpl := hcl.2.2.2.2
  have h2 := hpl.2.1 x hx3.1 hx3.2
  have hsz := hcl.2.2.2.1 x hx3.1 hx3.2
  have hl8 := (hP.2.1 x hx3.1 hx3.2).1
  refine fp_Ok.of (r := 0) rfl (Nat.le_of_ble_eq_true rfl) rfl ?_
  refine S.aload_n (pc' := 1) dX0_prepare_0 rfl rfl rfl ?_
  refine S.getR (pc' := 4) dX0_prepare_1 rfl fX0_26 (pl_lay pl22) (pl_r3 pl22) ?_
  refine S.iload_n (pc' := 5) dX0_prepare_4 rfl rfl rfl ?_
  refine S.bipush (pc' := 7) dX0_prepare_5 rfl (by decide) ?_
  refine S.imul (pc' := 8) dX0_prepare_7 rfl ?_
  refine S.aload_n (pc' := 9) dX0_prepare_8 rfl rfl rfl ?_
  refine S.getR (pc' := 12) dX0_prepare_9 rfl fX0_20 L_121 rf_121_4 ?_
  refine S.iconst (pc' := 13) dX0_prepare_12 rfl ?_
  refine S.aald (pc' := 14) (t := 125) dX0_prepare_13 rfl L_124 (by decide) (by decide) (by omega) (by omega) (by decide +kernel) ?_
  refine S.iconst (pc' := 15) dX0_prepare_14 rfl ?_
  refine S.bipush (pc' := 17) dX0_prepare_15 rfl (by decide) ?_
  refine S.copyi (pc' := 20) dX0_prepare_17 rfl aX0_31 (pl_a3 pl22) L_125 (by decide) (by decide) (by omega) (by omega) (by omega) (by omega) (by omega) (by decide) (Nat.le_of_ble_eq_true rfl) ?_
  generalize hN1 : fp_upM M 125 _ = N1
  have n1 : ∀ a, a ≠ 125 → N1 a = M a := fun a ha => by rw [← hN1, fp_upM_ne ha]
  have c1 : ∀ k : Nat, k < 8 → N1 125 k = M (22 + 4) (x * 8 + k).toNat := fun k hk => by
    rw [← hN1, fp_upM_at]
    simp only [va_cpy]
    rw [if_pos (by omega)]
    rw [show (x * 8).toNat + (k - (0 : Int).toNat) = (x * 8 + (k : Int)).toNat by omega]
  have r1 : dRow N1 125 := fun i i0 i1 => by
    rw [c1 i.toNat (by omega)]
    have := hpl.2.2 (x * 8 + i) (by omega) (by omega)
    rw [show x * 8 + ((i.toNat : Nat) : Int) = x * 8 + i by omega]
    exact ⟨this.1, by have := this.2; omega⟩
  refine S.aload_n (pc' := 21) dX0_prepare_20 rfl rfl rfl ?_
  refine S.getR (pc' := 24) dX0_prepare_21 rfl fX0_23 L_121 rf_121_5 ?_
  refine S.iconst (pc' := 25) dX0_prepare_24 rfl ?_
  refine S.aload_n (pc' := 26) dX0_prepare_25 rfl rfl rfl ?_
  refine S.getR (pc' := 29) dX0_prepare_26 rfl fX0_37 (pl_lay pl22) (pl_r2 pl22) ?_
  refine S.iload_n (pc' := 30) dX0_prepare_29 rfl rfl rfl ?_
  refine S.iald (pc' := 31) dX0_prepare_30 rfl (pl_a2 pl22) (by omega) (by omega) ?_
  rw [n1 _ (by decide)]
  refine S.iast (pc' := 32) dX0_prepare_31 rfl L_132 (by omega) (by omega) ?_
  refine S.aload_n (pc' := 33) dX0_prepare_32 rfl rfl rfl ?_
  refine S.getR (pc' := 36) dX0_prepare_33 rfl fX0_9 L_121 rf_121_2 ?_
  refine S.iconst (pc' := 37) dX0_prepare_36 rfl ?_
  refine S.iload_n (pc' := 38) dX0_prepare_37 rfl rfl rfl ?_
  refine S.iast (pc' := 39) dX0_prepare_38 rfl L_122 (by omega) (by omega) ?_
  refine S.aload_n (pc' := 40) dX0_prepare_39 rfl rfl rfl ?_
  refine S.getR (pc' := 43) dX0_prepare_40 rfl fX0_9 L_121 rf_121_2 ?_
  refine S.iconst (pc' := 44) dX0_prepare_43 rfl ?_
  refine S.iload (pc' := 46) dX0_prepare_44 rfl rfl ?_
  refine S.iast (pc' := 47) dX0_prepare_46 rfl L_122 (by omega) (by omega) ?_
  refine S.aload_n (pc' := 48) dX0_prepare_47 rfl rfl rfl ?_
  refine S.getR (pc' := 51) dX0_prepare_48 rfl fX0_15 L_121 rf_121_3 ?_
  refine S.iconst (pc' := 52) dX0_prepare_51 rfl ?_
  refine S.iload (pc' := 54) dX0_prepare_52 rfl rfl ?_
  refine S.iast (pc' := 55) dX0_prepare_54 rfl L_123 (by omega) (by omega) ?_
  refine S.aload_n (pc' := 56) dX0_prepare_55 rfl rfl rfl ?_
  refine S.getR (pc' := 59) dX0_prepare_56 rfl fX0_15 L_121 rf_121_3 ?_
  refine S.iconst (pc' := 60) dX0_prepare_59 rfl ?_
  refine S.iload (pc' := 62) dX0_prepare_60 rfl rfl ?_
  refine S.iast (pc' := 63) dX0_prepare_62 rfl L_123 (by omega) (by omega) ?_
  refine S.aload_n (pc' := 64) dX0_prepare_63 rfl rfl rfl ?_
  refine S.iload (pc' := 66) dX0_prepare_64 rfl rfl ?_
  refine S.putI (pc' := 69) dX0_prepare_66 rfl fX0_40 L_121 ?_
  refine S.vret dX0_prepare_69 rfl ?_
  refine ⟨⟨?_, ?_, ?_, ?_, ?_, ?_, fun i hi => ?_, fun i i0 i1 => ?_, ?_⟩, fun a ha => ?_⟩
  · rw [fp_up_at, fp_upf_at]
  · rw [fp_up_ne (show 122 ≠ 121 by decide), fp_up_ne (show 122 ≠ 123 by decide), fp_up_ne (show 122 ≠ 123 by decide), fp_up_at, fp_up_at]; rfl
  · rw [fp_up_ne (show 122 ≠ 121 by decide), fp_up_ne (show 122 ≠ 123 by decide), fp_up_ne (show 122 ≠ 123 by decide), fp_up_at, fp_up_at]; rfl
  · rw [fp_up_ne (show 123 ≠ 121 by decide), fp_up_at, fp_up_at]; rfl
  · rw [fp_up_ne (show 123 ≠ 121 by decide), fp_up_at, fp_up_at]; rfl
  · rw [fp_up_ne (by decide), fp_up_ne (by decide), fp_up_ne (by decide), fp_up_ne (by decide), fp_up_ne (by decide), fp_up_at]
    show fp_upf _ 0 _ 0 = _
    rw [fp_upf_at]; exact hsz.1
  · rw [fp_up_ne (by decide), fp_up_ne (by decide), fp_up_ne (by decide), fp_up_ne (by decide), fp_up_ne (by decide), fp_up_ne (by decide)]
    have hi' : i < (pg.2.2 x).length := hi
    rw [show 125 + (0 : Int).toNat = 125 from rfl, c1 i (by omega)]
    exact (hsz.2 (i : Int) (by omega) (by omega)).trans (by rw [Int.toNat_natCast])
  · rw [fp_up_ne (by decide), fp_up_ne (by decide), fp_up_ne (by decide), fp_up_ne (by decide), fp_up_ne (by decide), fp_up_ne (by decide)]; exact r1 i i0 i1
  · exact hgI.same (by rw [fp_up_ne (by decide), fp_up_ne (by decide), fp_up_ne (by decide), fp_up_ne (by decide), fp_up_ne (by decide), fp_up_ne (by decide)]; exact n1 _ (by decide)) (by rw [fp_up_ne (by decide), fp_up_ne (by decide), fp_up_ne (by decide), fp_up_ne (by decide), fp_up_ne (by decide), fp_up_ne (by decide)]; exact n1 _ (by decide)) (by rw [fp_up_ne (by decide), fp_up_ne (by decide), fp_up_ne (by decide), fp_up_ne (by decide), fp_up_ne (by decide), fp_up_ne (by decide)]; exact n1 _ (by decide)) (by rw [fp_up_ne (by decide), fp_up_ne (by decide), fp_up_ne (by decide), fp_up_ne (by decide), fp_up_ne (by decide), fp_up_ne (by decide)]; exact n1 _ (by decide))
  · rw [fp_up_ne (by omega), fp_up_ne (by omega), fp_up_ne (by omega), fp_up_ne (by omega), fp_up_ne (by omega), fp_up_ne (by omega)]; exact n1 a (by omega)
theorem cc_duel {x p q r n w : Int} (hc : CS M tp fl g pg vs nt im sh tn) (ho : OK g pg vs nt im sh) (hx : fp_rng x) (hp : fp_rng p) (hq : fp_rng q) (hr : fp_rng r) (hn : fp_rng n) (hw : fp_rng w) : fp_Ok l G 11 kX11_duel [rV G 0, iV x, iV p, iV q, iV r, iV n, iV w] M (qI fun z N => z = A_duel g pg x p q r n w ∧ CS N tp fl g pg vs nt im sh tn ∧ frC M N) := by
  have hcs := hc
  obtain ⟨-, hd, hcl, hv, -⟩ := hc
  obtain ⟨hg, hP, hvo, -⟩ := ho
  have hg1 := hg.1
  have hg2 := hg.2.1
  have e1 : M 18 1 = g.2.1 := hd.2.1
  have hw' := hw
  unfold fp_rng at hw'
  unfold A_duel
  refine fp_Ok.of (r := 1) rfl (Nat.le_of_ble_eq_true rfl) rfl ?_
  refine S.aload_n (pc' := 1) dX11_duel_0 rfl rfl rfl ?_
  refine S.getR (pc' := 4) dX11_duel_1 rfl fX11_23 L_0 rf_0_3 ?_
  refine S.iload_n (pc' := 5) dX11_duel_4 rfl rfl rfl ?_
  refine S.callVi (pc' := 8) dX11_duel_5 rfl cX11_148 (bk_X1_hasLine gd18) rfl (gd_lay gd18) (by decide) rfl (Nat.le_of_ble_eq_true rfl) (fun z5 M5 q5 => ?_)
  obtain ⟨b5, rfl⟩ := q5
  refine S.if_eq (pc' := 11) (tgt := 30) dX11_duel_8 (by decide) rfl (by unfold fp_rng; omega) (fun h8 => ?_) (fun h8 => ?_)
  · refine S.iconst (pc' := 31) dX11_duel_30 rfl ?_
    refine S.iret dX11_duel_31 rfl ?_
    exact ⟨by rw [if_neg (by omega)], hcs, frC.refl _⟩
  · refine S.iload_n (pc' := 12) dX11_duel_11 rfl rfl rfl ?_
    refine S.callSi (pc' := 15) dX11_duel_12 rfl cX11_181 (bk_X11_isOne) rfl (by decide) rfl (Nat.le_of_ble_eq_true rfl) (fun z12 M12 q12 => ?_)
    obtain ⟨b12, rfl⟩ := q12
    refine S.if_eq (pc' := 18) (tgt := 30) dX11_duel_15 (by decide) rfl (by unfold fp_rng; omega) (fun h15 => ?_) (fun h15 => ?_)
    · refine S.iconst (pc' := 31) dX11_duel_30 rfl ?_
      refine S.iret dX11_duel_31 rfl ?_
      exact ⟨by rw [if_neg (by omega)], hcs, frC.refl _⟩
    · refine S.iload_n (pc' := 19) dX11_duel_18 rfl rfl rfl ?_
      refine S.callSi (pc' := 22) dX11_duel_19 rfl cX11_181 (bk_X11_isOne) rfl (by decide) rfl (Nat.le_of_ble_eq_true rfl) (fun z19 M19 q19 => ?_)
      obtain ⟨b19, rfl⟩ := q19
      refine S.if_eq (pc' := 25) (tgt := 30) dX11_duel_22 (by decide) rfl (by unfold fp_rng; omega) (fun h22 => ?_) (fun h22 => ?_)
      · refine S.iconst (pc' := 31) dX11_duel_30 rfl ?_
        refine S.iret dX11_duel_31 rfl ?_
        exact ⟨by rw [if_neg (by omega)], hcs, frC.refl _⟩
      · refine S.iload_n (pc' := 26) dX11_duel_25 rfl rfl rfl ?_
        refine S.iload_n (pc' := 27) dX11_duel_26 rfl rfl rfl ?_
        refine S.icmp_ne (pc' := 30) (tgt := 32) dX11_duel_27 (by decide) rfl hp hq (fun h27 => ?_) (fun h27 => ?_)
        · refine S.iload (pc' := 34) dX11_duel_32 rfl rfl ?_
          refine S.iconst (pc' := 35) dX11_duel_34 rfl ?_
          refine S.callSi (pc' := 38) dX11_duel_35 rfl cX11_221 (bk_X11_isWithin) rfl (by decide) rfl (Nat.le_of_ble_eq_true rfl) (fun z35 M35 q35 => ?_)
          obtain ⟨b35, rfl⟩ := q35
          refine S.if_eq (pc' := 41) (tgt := 63) dX11_duel_38 (by decide) rfl (by unfold fp_rng; omega) (fun h38 => ?_) (fun h38 => ?_)
          · refine S.iconst (pc' := 64) dX11_duel_63 rfl ?_
            refine S.iret dX11_duel_64 rfl ?_
            exact ⟨by rw [if_neg (by omega)], hcs, frC.refl _⟩
          · refine S.iload (pc' := 43) dX11_duel_41 rfl rfl ?_
            refine S.iconst (pc' := 44) dX11_duel_43 rfl ?_
            refine S.icmp_lt (pc' := 47) (tgt := 63) dX11_duel_44 (by decide) rfl hn (by unfold fp_rng; omega) (fun h44 => ?_) (fun h44 => ?_)
            · refine S.iconst (pc' := 64) dX11_duel_63 rfl ?_
              refine S.iret dX11_duel_64 rfl ?_
              exact ⟨by rw [if_neg (by omega)], hcs, frC.refl _⟩
            · refine S.iload (pc' := 49) dX11_duel_47 rfl rfl ?_
              refine S.bipush (pc' := 51) dX11_duel_49 rfl (by decide) ?_
              refine S.icmp_gt (pc' := 54) (tgt := 63) dX11_duel_51 (by decide) rfl hn (by unfold fp_rng; omega) (fun h51 => ?_) (fun h51 => ?_)
              · refine S.iconst (pc' := 64) dX11_duel_63 rfl ?_
                refine S.iret dX11_duel_64 rfl ?_
                exact ⟨by rw [if_neg (by omega)], hcs, frC.refl _⟩
              · refine S.iload (pc' := 56) dX11_duel_54 rfl rfl ?_
                refine S.iconst (pc' := 57) dX11_duel_56 rfl ?_
                refine S.callSi (pc' := 60) dX11_duel_57 rfl cX11_221 (bk_X11_isWithin) rfl (by decide) rfl (Nat.le_of_ble_eq_true rfl) (fun z57 M57 q57 => ?_)
                obtain ⟨b57, rfl⟩ := q57
                refine S.if_ne (pc' := 63) (tgt := 65) dX11_duel_60 (by decide) rfl (by unfold fp_rng; omega) (fun h60 => ?_) (fun h60 => ?_)
                · refine S.aload_n (pc' := 66) dX11_duel_65 rfl rfl rfl ?_
                  refine S.getR (pc' := 69) dX11_duel_66 rfl fX11_58 L_0 rf_0_8 ?_
                  refine S.aload_n (pc' := 70) dX11_duel_69 rfl rfl rfl ?_
                  refine S.getR (pc' := 73) dX11_duel_70 rfl fX11_30 L_0 rf_0_4 ?_
                  refine S.iload_n (pc' := 74) dX11_duel_73 rfl rfl rfl ?_
                  refine S.iload_n (pc' := 75) dX11_duel_74 rfl rfl rfl ?_
                  refine S.iload_n (pc' := 76) dX11_duel_75 rfl rfl rfl ?_
                  refine S.iload (pc' := 78) dX11_duel_76 rfl rfl ?_
                  refine S.iload (pc' := 80) dX11_duel_78 rfl rfl ?_
                  refine S.callVv (pc' := 83) dX11_duel_80 rfl cX11_271 (xk_X0_prepare (g := g) (pg := pg) (by omega) (by omega) (by omega) (by omega) (by omega) hg hP hcl hd) rfl L_121 (by decide) rfl (Nat.le_of_ble_eq_true rfl) (fun M80 q80 => ?_)
                  obtain ⟨d1, f1⟩ := q80
                  have hg80 : gdIs M80 18 g := d1.2.2.2.2.2.2.2.2
                  have hkd : 0 ≤ M80 (18 + 3) x.toNat ∧ M80 (18 + 3) x.toNat ≤ 2 := hg80.2.2.2.2.2.2.2.2.2.2.2.2.2 x (by omega) (by omega)
                  have ekd : M80 (18 + 3) x.toNat = g.2.2.2.2.2 x := hg80.2.2.2.2.2.2.2.1 x (by omega) (by omega)
                  have hl := hP.2.1 x (by omega) (by omega)
                  have hs : dOkS g (pg.2.2 x, r, r) := ⟨hl.1, fun t ht => Or.inl ⟨(hl.2.2.2 t ht).1, (hl.2.2.2 t ht).2.1⟩, (show 0 ≤ r ∧ r ≤ 2 by omega), (show 0 ≤ r ∧ r ≤ 2 by omega)⟩
                  rw [ekd] at hkd
                  refine S.aload_n (pc' := 84) dX11_duel_83 rfl rfl rfl ?_
                  refine S.getR (pc' := 87) dX11_duel_84 rfl fX11_58 L_0 rf_0_8 ?_
                  refine S.aload_n (pc' := 88) dX11_duel_87 rfl rfl rfl ?_
                  refine S.getR (pc' := 91) dX11_duel_88 rfl fX11_23 L_0 rf_0_3 ?_
                  refine S.aload_n (pc' := 92) dX11_duel_91 rfl rfl rfl ?_
                  refine S.getR (pc' := 95) dX11_duel_92 rfl fX11_23 L_0 rf_0_3 ?_
                  refine S.getR (pc' := 98) dX11_duel_95 rfl fX11_156 (gd_lay gd18) (gd_r5 gd18) ?_
                  refine S.iload_n (pc' := 99) dX11_duel_98 rfl rfl rfl ?_
                  refine S.iald (pc' := 100) dX11_duel_99 rfl (gd_a5 gd18) (by omega) (by omega) ?_
                  rw [ekd]
                  refine S.callVi (pc' := 103) dX11_duel_100 rfl cX11_275 (xk_X0_fight hg hkd (by omega) (by omega) (by omega) hs d1) rfl L_121 (by decide) rfl (Nat.le_of_ble_eq_true rfl) (fun z100 M100 q100 => ?_)
                  obtain ⟨z2, d3, d2⟩ := q100
                  have fz : frZ M M100 := fun a ha => by rw [d2.2.2.2 a (by omega) (by omega) (by omega) (by omega)]; exact f1 a (by omega)
                  have hvi := dVal_in (kind := g.2.2.2.2.2 x) hg (show 0 ≤ p ∧ p < 4 by omega) (show 0 ≤ q ∧ q < 4 by omega) n.toNat 0 _ hs
                  rw [← z2] at hvi
                  refine S.istore (pc' := 105) (LL' := [_, _, _, _, _, _, _, _]) dX11_duel_103 rfl (by decide) rfl rfl ?_
                  refine S.iload (pc' := 107) dX11_duel_105 rfl rfl ?_
                  refine S.if_ne (pc' := 110) (tgt := 119) dX11_duel_107 (by decide) rfl hw (fun h107 => ?_) (fun h107 => ?_)
                  · refine S.aload_n (pc' := 120) dX11_duel_119 rfl rfl rfl ?_
                    refine S.getR (pc' := 123) dX11_duel_120 rfl fX11_58 L_0 rf_0_8 ?_
                    refine S.getI (pc' := 126) dX11_duel_123 rfl fX11_278 L_121 ?_
                    refine S.iret dX11_duel_126 rfl ?_
                    first
                    | exact ⟨by rw [if_pos (by omega), if_pos (by omega), ← z2]; omega, hcs.scz fz, fz.c⟩
                    | exact ⟨by rw [if_pos (by omega), if_neg (by omega)]; exact d3, hcs.scz fz, fz.c⟩
                  · refine S.iload (pc' := 112) dX11_duel_110 rfl rfl ?_
                    refine S.sipush (pc' := 115) dX11_duel_112 rfl (by decide) ?_
                    refine S.iadd (pc' := 116) dX11_duel_115 rfl ?_
                    refine S.goto (pc' := 126) dX11_duel_116 (by decide) ?_
                    refine S.iret dX11_duel_126 rfl ?_
                    first
                    | exact ⟨by rw [if_pos (by omega), if_pos (by omega), ← z2]; omega, hcs.scz fz, fz.c⟩
                    | exact ⟨by rw [if_pos (by omega), if_neg (by omega)]; exact d3, hcs.scz fz, fz.c⟩
                · refine S.iconst (pc' := 64) dX11_duel_63 rfl ?_
                  refine S.iret dX11_duel_64 rfl ?_
                  exact ⟨by rw [if_neg (by omega)], hcs, frC.refl _⟩
        · refine S.iconst (pc' := 31) dX11_duel_30 rfl ?_
          refine S.iret dX11_duel_31 rfl ?_
          exact ⟨by rw [if_neg (by omega)], hcs, frC.refl _⟩
end CDY
