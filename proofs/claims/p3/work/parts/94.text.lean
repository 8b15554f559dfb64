/-! A TEXT: line by line, the class -/
def pText (tp : List Int) : Nat → Int → Int → pD → Int ⊕ (Int × pD)
  | 0, _, told, D => .inr (told, D)
  | k + 1, s, told, D => if ¬ tkOk tp (tkS tp s) then .inl (tkS tp s) else if tkK tp (tkS tp s) = 0 then .inr (told, D) else
    match pRow tp (tkS tp s) D with
    | .inl h => .inl h
    | .inr q => pText tp k q.1 (told + 1) q.2
def pD0 : pD := ((0, 0, 10, fun _ => 0, fun _ _ => 0, fun _ => 0), fun _ => 0, fun _ => [], 0, 0, [])
theorem pD0_ok : dOk pD0 := by
  refine ⟨⟨by decide, by decide, by decide, fun t t0 t1 => absurd t1 (by show ¬ t < 0; omega), fun t p t0 t1 => absurd t1 (by show ¬ t < 0; omega), fun x x0 x1 => absurd x1 (by show ¬ x < 0; omega)⟩, fun t t0 t1 => absurd t1 (by show ¬ t < 0; omega), fun x x0 x1 => ⟨by show (0 : Nat) ≤ 8; omega, List.nodup_nil, fun _ => rfl, fun t ht => (List.not_mem_nil ht).elim⟩, fun x y t _ _ _ _ _ ht => (List.not_mem_nil ht).elim, by decide, Or.inl rfl, by show (0 : Nat) ≤ 12; omega, fun v hv => (List.not_mem_nil hv).elim⟩
/-- how the reading of the lines ends -/
def txP (tp : List Int) (M N : fp_Mem) (r : Int ⊕ (Int × pD)) (z : Int) : Prop := fR M N ∧ rdT N tp ∧ rdI N ∧ ((∃ h, r = .inl h ∧ flt N h) ∨ ∃ q, r = .inr q ∧ z = q.1 ∧ N 2 3 = 0 ∧ rdD N q.2 ∧ dOk q.2)
section TXT
variable {l : Launch} {G : fp_WG} {M N : fp_Mem} {tp : List Int} {D : pD} {s : Int}
theorem tx_loop {R : Int ⊕ (Int × pD)} {Q : fp_Q} (ht : tpOk tp) (K : ∀ (N : fp_Mem) (z : Int) (o : Option Value), txP tp M N R z → fp_S l G 8 kX6_readText 99 [some (rV G 2), some (rV G 1), some (iV (tp.length : Int)), some (iV z), o] [] N Q) : ∀ (k : Nat) (s i : Int) (D : pD) (N : fp_Mem), ((tp.length : Int) - s).toNat < k → 0 ≤ i → i ≤ s → s ≤ (tp.length : Int) → fR M N → rdT N tp → N 2 7 = s → N 2 3 = 0 → rdD N D → dOk D → rdI N → pText tp k s i D = R →
    fp_S l G 8 kX6_readText 57 [some (rV G 2), some (rV G 1), some (iV (tp.length : Int)), some (iV i), some (iV i)] [] N Q := by
  intro k
  have hn := ht.1
  induction k with
  | zero => intro s i D N hk; omega
  | succ k ih =>
    intro s i D N hk i0 i1 s1 hf hm h7 h3 hd hD hi hR
    have hS := tkS_le s1
    have hE := tkE_le hS.2
    have hK := tkK_in tp (tkS tp s)
    unfold pText at hR
    refine S.iload (pc' := 59) dX6_readText_57 rfl rfl ?_
    refine S.aload_n (pc' := 60) dX6_readText_59 rfl rfl rfl ?_
    refine S.getI (pc' := 63) dX6_readText_60 rfl fX6_36 L_2 ?_
    rw [hm.2.1]
    refine S.icmp_gt (pc' := 66) (tgt := 99) dX6_readText_63 (by decide) rfl (by unfold fp_rng; omega) (by unfold fp_rng; omega) (fun h63 => ?_) (fun h63 => ?_)
    · first
      | (exfalso; omega)
      | (rcases a5 with b | b; (exfalso; omega); rw [if_pos b.1] at hR; exact K _ _ _ ⟨hf.trans hfr.R, hfr.T hm, hfr.I hi, Or.inl ⟨_, hR.symm, ⟨by omega, by omega⟩, b.2.2.2⟩⟩)
      | (rcases a5 with b | b; rotate_left; (exfalso; omega); rw [if_neg (fun q => q b.1), if_pos h77] at hR; exact K _ _ _ ⟨hf.trans hfr.R, hfr.T hm, hfr.I hi, Or.inr ⟨_, hR.symm, rfl, b.2.2.2.1.trans h3, hfr.D hd, hD⟩⟩)
      | (obtain ⟨f1, f2, f3, f4⟩ := q81; rcases f4 with ⟨h, e1, e2, e3⟩ | ⟨q, e1, e2, e3, e4, e5⟩; rotate_left; (exfalso; omega); rw [e1] at hR; exact K _ _ _ ⟨(hf.trans hfr.R).trans f1, f2, f3, Or.inl ⟨_, hR.symm, e3⟩⟩)
    · refine S.aload_n (pc' := 67) dX6_readText_66 rfl rfl rfl ?_
      refine S.callVi (pc' := 70) dX6_readText_67 rfl cX6_60 (rk_X6_step ht hm h7 (by omega) s1) rfl L_2 (by decide) rfl (Nat.le_of_ble_eq_true rfl) (fun z67 M67 q67 => ?_)
      obtain ⟨a1, a2, a3, a4, a5⟩ := q67
      have hfr : fr2 N M67 := ⟨a1, a2⟩
      refine S.if_eq (pc' := 73) (tgt := 99) dX6_readText_70 (by decide) rfl (by rcases a5 with b | b <;> (unfold fp_rng; omega)) (fun h70 => ?_) (fun h70 => ?_)
      · first
        | (exfalso; omega)
        | (rcases a5 with b | b; (exfalso; omega); rw [if_pos b.1] at hR; exact K _ _ _ ⟨hf.trans hfr.R, hfr.T hm, hfr.I hi, Or.inl ⟨_, hR.symm, ⟨by omega, by omega⟩, b.2.2.2⟩⟩)
        | (rcases a5 with b | b; rotate_left; (exfalso; omega); rw [if_neg (fun q => q b.1), if_pos h77] at hR; exact K _ _ _ ⟨hf.trans hfr.R, hfr.T hm, hfr.I hi, Or.inr ⟨_, hR.symm, rfl, b.2.2.2.1.trans h3, hfr.D hd, hD⟩⟩)
        | (obtain ⟨f1, f2, f3, f4⟩ := q81; rcases f4 with ⟨h, e1, e2, e3⟩ | ⟨q, e1, e2, e3, e4, e5⟩; rotate_left; (exfalso; omega); rw [e1] at hR; exact K _ _ _ ⟨(hf.trans hfr.R).trans f1, f2, f3, Or.inl ⟨_, hR.symm, e3⟩⟩)
      · refine S.aload_n (pc' := 74) dX6_readText_73 rfl rfl rfl ?_
        refine S.getI (pc' := 77) dX6_readText_74 rfl fX6_64 L_2 ?_
        rw [a3]
        refine S.if_eq (pc' := 80) (tgt := 99) dX6_readText_77 (by decide) rfl (by unfold fp_rng; omega) (fun h77 => ?_) (fun h77 => ?_)
        · first
          | (exfalso; omega)
          | (rcases a5 with b | b; (exfalso; omega); rw [if_pos b.1] at hR; exact K _ _ _ ⟨hf.trans hfr.R, hfr.T hm, hfr.I hi, Or.inl ⟨_, hR.symm, ⟨by omega, by omega⟩, b.2.2.2⟩⟩)
          | (rcases a5 with b | b; rotate_left; (exfalso; omega); rw [if_neg (fun q => q b.1), if_pos h77] at hR; exact K _ _ _ ⟨hf.trans hfr.R, hfr.T hm, hfr.I hi, Or.inr ⟨_, hR.symm, rfl, b.2.2.2.1.trans h3, hfr.D hd, hD⟩⟩)
          | (obtain ⟨f1, f2, f3, f4⟩ := q81; rcases f4 with ⟨h, e1, e2, e3⟩ | ⟨q, e1, e2, e3, e4, e5⟩; rotate_left; (exfalso; omega); rw [e1] at hR; exact K _ _ _ ⟨(hf.trans hfr.R).trans f1, f2, f3, Or.inl ⟨_, hR.symm, e3⟩⟩)
        · rcases a5 with ⟨c1, c2, c3, c4, c5⟩ | b
          rotate_left
          · exfalso; omega
          rw [if_neg (fun q => q c1), if_neg h77] at hR
          refine S.aload_n (pc' := 81) dX6_readText_80 rfl rfl rfl ?_
          refine S.callVi (pc' := 84) dX6_readText_81 rfl cX6_67 (rk_X6_readLine (h := tkS tp s) ht (hfr.T hm) ⟨a3, a4, c3, by omega, hS.2⟩ (c4.trans h3) (hfr.D hd) hD (hfr.I hi)) rfl L_2 (by decide) rfl (Nat.le_of_ble_eq_true rfl) (fun z81 M81 q81 => ?_)
          refine S.if_ne (pc' := 87) (tgt := 90) dX6_readText_84 (by decide) rfl (by rcases lnP_z q81 with b | b <;> (unfold fp_rng; omega)) (fun h84 => ?_) (fun h84 => ?_)
          · refine S.iinc (pc' := 93) (LL' := [_, _, _, _, _]) dX6_readText_90 rfl (by decide) rfl rfl rfl ?_
            refine S.iinc (pc' := 96) (LL' := [_, _, _, _, _]) dX6_readText_93 rfl (by decide) rfl rfl rfl ?_
            refine S.goto (pc' := 57) dX6_readText_96 (by decide) ?_
            obtain ⟨f1, f2, f3, f4⟩ := q81
            rcases f4 with ⟨h, e1, e2, e3⟩ | ⟨q, e1, e2, e3, e4, e5⟩
            · exfalso; omega
            · rw [e1] at hR
              obtain ⟨r1, r2, r3⟩ := pRow_ok hS.2 hD e1
              exact ih q.1 (i + 1) q.2 _ (by omega) (by omega) (by omega) r3 ((hf.trans hfr.R).trans f1) f2 e3 e4 e5 r1 f3 hR
          · refine S.goto (pc' := 99) dX6_readText_87 (by decide) ?_
            first
            | (exfalso; omega)
            | (rcases a5 with b | b; (exfalso; omega); rw [if_pos b.1] at hR; exact K _ _ _ ⟨hf.trans hfr.R, hfr.T hm, hfr.I hi, Or.inl ⟨_, hR.symm, ⟨by omega, by omega⟩, b.2.2.2⟩⟩)
            | (rcases a5 with b | b; rotate_left; (exfalso; omega); rw [if_neg (fun q => q b.1), if_pos h77] at hR; exact K _ _ _ ⟨hf.trans hfr.R, hfr.T hm, hfr.I hi, Or.inr ⟨_, hR.symm, rfl, b.2.2.2.1.trans h3, hfr.D hd, hD⟩⟩)
            | (obtain ⟨f1, f2, f3, f4⟩ := q81; rcases f4 with ⟨h, e1, e2, e3⟩ | ⟨q, e1, e2, e3, e4, e5⟩; rotate_left; (exfalso; omega); rw [e1] at hR; exact K _ _ _ ⟨(hf.trans hfr.R).trans f1, f2, f3, Or.inl ⟨_, hR.symm, e3⟩⟩)
end TXT
