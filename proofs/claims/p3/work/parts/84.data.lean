/-! WHAT A TEXT TELLS: as far as it is read; the class's rows for it -/
/-- THINGS, LINES, CHANCE and what they are; who has what; what lies where; the bits of what lies; whether CHANCE is told; visits -/
abbrev pD : Type := aGd × (Int → Int) × (Int → List Int) × Int × Int × List aVt
def rdG (M : fp_Mem) (g : aGd) : Prop := M 3 0 = g.1 ∧ M 3 1 = g.2.1 ∧ M 3 2 = g.2.2.1 ∧ (∀ t, 0 ≤ t → t < g.1 → M 4 t.toNat = g.2.2.2.1 t) ∧ (∀ t p, 0 ≤ t → t < g.1 → 0 ≤ p → p < 4 → M 5 (t * 4 + p).toNat = g.2.2.2.2.1 t p) ∧ ∀ x, 0 ≤ x → x < g.2.1 → M 6 x.toNat = g.2.2.2.2.2 x
def rdP (M : fp_Mem) (g : aGd) (wh : Int → Int) (ln : Int → List Int) : Prop := (∀ t, 0 ≤ t → t < g.1 → M 8 t.toNat = wh t) ∧ (∀ t, g.1 ≤ t → t < 10 → M 8 t.toNat = -4) ∧ (∀ t : Int, 0 ≤ t → t < 10 → M 9 t.toNat = -4) ∧ ∀ x : Int, 0 ≤ x → x < 3 → M 10 x.toNat = (ln x).length ∧ ∀ i : Int, 0 ≤ i → i < (ln x).length → M 11 (x * 8 + i).toNat = (ln x).getD i.toNat 0
def rdD (M : fp_Mem) (D : pD) : Prop := rdG M D.1 ∧ rdP M D.1 D.2.1 D.2.2.1 ∧ vsIs M 12 D.2.2.2.2.2 ∧ M 2 11 = D.2.2.2.1 ∧ M 2 12 = D.2.2.2.2.1
/-- what stays in the rows between two texts is within bounds -/
def rdI (M : fp_Mem) : Prop := (∀ i : Int, 0 ≤ i → i < 11 → 0 ≤ M 4 i.toNat ∧ M 4 i.toNat ≤ 9) ∧ M 4 10 = 0 ∧ (∀ i : Int, 0 ≤ i → i < 44 → 0 ≤ M 5 i.toNat ∧ M 5 i.toNat ≤ 20) ∧ (∀ p : Int, 0 ≤ p → p < 4 → M 5 (40 + p).toNat = 0) ∧ (∀ x : Int, 0 ≤ x → x < 3 → 0 ≤ M 6 x.toNat ∧ M 6 x.toNat ≤ 2) ∧ ∀ i : Int, 0 ≤ i → i < 24 → 0 ≤ M 11 i.toNat ∧ M 11 i.toNat ≤ 9
def vtOk (v : aVt) : Prop := (0 ≤ v.1 ∧ v.1 ≤ 99) ∧ (0 ≤ v.2.1 ∧ v.2.1 < 4) ∧ (0 ≤ v.2.2.1 ∧ v.2.2.1 < 3) ∧ (v.2.2.2 = -4 ∨ (0 ≤ v.2.2.2 ∧ v.2.2.2 < 10))
def dOk (D : pD) : Prop := gOk D.1 ∧ (∀ t, 0 ≤ t → t < D.1.1 → 0 ≤ D.2.1 t ∧ D.2.1 t ≤ 3) ∧ (∀ x, 0 ≤ x → x < 3 → (D.2.2.1 x).length ≤ 8 ∧ (D.2.2.1 x).Nodup ∧ (D.1.2.1 ≤ x → D.2.2.1 x = []) ∧ ∀ t ∈ D.2.2.1 x, (0 ≤ t ∧ t < 10) ∧ D.2.2.2.1.toNat.testBit t.toNat = true) ∧ (∀ x y t, 0 ≤ x → x < 3 → 0 ≤ y → y < 3 → x ≠ y → t ∈ D.2.2.1 x → t ∉ D.2.2.1 y) ∧ (0 ≤ D.2.2.2.1 ∧ D.2.2.2.1 < 1024) ∧ (D.2.2.2.2.1 = 0 ∨ D.2.2.2.2.1 = 1) ∧ D.2.2.2.2.2.length ≤ 12 ∧ ∀ v ∈ D.2.2.2.2.2, vtOk v
def fR (M N : fp_Mem) : Prop := ∀ a, (a < 2 ∨ 16 < a) → N a = M a
theorem fR.refl (M : fp_Mem) : fR M M := fun _ _ => rfl
theorem fR.trans {M N O : fp_Mem} (h : fR M N) (h2 : fR N O) : fR M O := fun a ha => (h2 a ha).trans (h a ha)
theorem fr2.R {M N : fp_Mem} (h : fr2 M N) : fR M N := fun a ha => h.1 a (by omega)
theorem fR.rd {tp : List Int} {M N : fp_Mem} (h : fR M N) (hm : rdT M tp) (h5 : N 2 5 = M 2 5) (h6 : N 2 6 = M 2 6) : rdT N tp := ⟨by rw [h5]; exact hm.1, by rw [h6]; exact hm.2.1, fun i i0 i1 => by rw [h 1 (by omega)]; exact hm.2.2 i i0 i1⟩
theorem fr2.D {M N : fp_Mem} {D : pD} (h : fr2 M N) (hd : rdD M D) : rdD N D := by
  obtain ⟨h1, h2⟩ := h
  unfold rdD rdG rdP vsIs at *
  rw [h1 3 (by decide), h1 4 (by decide), h1 5 (by decide), h1 6 (by decide), h1 8 (by decide), h1 9 (by decide), h1 10 (by decide), h1 11 (by decide), h1 12 (by decide), h1 (12 + 1) (by decide), h1 (12 + 2) (by decide), h1 (12 + 3) (by decide), h1 (12 + 4) (by decide), h2 11 (by decide) (by decide) (by decide) (by decide) (by decide) (by decide), h2 12 (by decide) (by decide) (by decide) (by decide) (by decide) (by decide)]
  exact hd
theorem rdI.kept {M N : fp_Mem} (h : rdI M) (e4 : N 4 = M 4) (e5 : N 5 = M 5) (e6 : N 6 = M 6) (e11 : N 11 = M 11) : rdI N := by
  unfold rdI at *
  rw [e4, e5, e6, e11]
  exact h
theorem fr2.I {M N : fp_Mem} (h : fr2 M N) (hi : rdI M) : rdI N := hi.kept (h.1 4 (by decide)) (h.1 5 (by decide)) (h.1 6 (by decide)) (h.1 11 (by decide))
theorem fr2.T {tp : List Int} {M N : fp_Mem} (h : fr2 M N) (hm : rdT M tp) : rdT N tp := h.rd hm
def lnP (tp : List Int) (M N : fp_Mem) (r : Int ⊕ (Int × pD)) (z : Int) : Prop := fR M N ∧ rdT N tp ∧ rdI N ∧ ((∃ h, r = .inl h ∧ z = 0 ∧ flt N h) ∨ ∃ q, r = .inr q ∧ z = 1 ∧ N 2 7 = q.1 ∧ N 2 3 = 0 ∧ rdD N q.2)
/-- CHANCE -/
def pChance (tp : List Int) (st s : Int) (D : pD) : Int ⊕ (Int × pD) := if D.2.2.2.2.1 ≠ 0 then .inl st else if ¬ nmOk tp s 0 10 then .inl (tkS tp s) else if ¬ spOk tp (nxt tp s) then .inl (tkS tp (nxt tp s)) else .inr (nxt tp (nxt tp s), ((D.1.1, D.1.2.1, num tp s, D.1.2.2.2), D.2.1, D.2.2.1, D.2.2.2.1, 1, D.2.2.2.2.2))
section DAT
variable {l : Launch} {G : fp_WG} {M : fp_Mem} {tp : List Int} {D : pD} {s st : Int}
theorem rk_X6_readChance (ht : tpOk tp) (hm : rdT M tp) (hs : M 2 7 = s) (h0 : 0 ≤ s) (h1 : s ≤ (tp.length : Int)) (h9 : M 2 9 = st) (h3 : M 2 3 = 0) (hd : rdD M D) (hD : dOk D) (hi : rdI M) : fp_Ok l G 3 kX6_readChance [rV G 2] M (qI fun z N => lnP tp M N (pChance tp st s D) z) := by
  refine fp_Ok.of (r := 0) rfl (Nat.le_of_ble_eq_true rfl) rfl ?_
  have hct := hD.2.2.2.2.2.1
  have h12 : M 2 12 = D.2.2.2.2.1 := hd.2.2.2.2
  have hx := nxt_le h1
  unfold pChance
  by_cases hc : D.2.2.2.2.1 = 0
  · rw [if_neg (fun q => q hc)]
    have hm' : rdT (fp_up M 2 12 1) tp := hm.up (by decide) (by decide)
    refine S.aload_n (pc' := 1) dX6_readChance_0 rfl rfl rfl ?_
    refine S.getI (pc' := 4) dX6_readChance_1 rfl fX6_49 L_2 ?_
    rw [h12, hc]
    refine S.if_eq (pc' := 7) (tgt := 17) dX6_readChance_4 (by decide) rfl (by unfold fp_rng; omega) (fun h4 => ?_) (fun h4 => ?_)
    · refine S.aload_n (pc' := 18) dX6_readChance_17 rfl rfl rfl ?_
      refine S.iconst (pc' := 19) dX6_readChance_18 rfl ?_
      refine S.putZ (pc' := 22) dX6_readChance_19 rfl fX6_49 L_2 (by first | exact Or.inl rfl | exact Or.inr rfl | omega) ?_
      refine S.aload_n (pc' := 23) dX6_readChance_22 rfl rfl rfl ?_
      refine S.iconst (pc' := 24) dX6_readChance_23 rfl ?_
      refine S.bipush (pc' := 26) dX6_readChance_24 rfl (by decide) ?_
      refine S.callVi (pc' := 29) dX6_readChance_26 rfl cX6_132 (rk_X6_readNumber ht hm' hs h0 h1 (by unfold fp_rng; omega) (by unfold fp_rng; omega)) rfl L_2 (by decide) rfl (Nat.le_of_ble_eq_true rfl) (fun z26 M26 q26 => ?_)
      obtain ⟨f26, b26⟩ := q26
      refine S.if_ne (pc' := 32) (tgt := 34) dX6_readChance_29 (by decide) rfl (by unfold fp_rng; omega) (fun h29 => ?_) (fun h29 => ?_)
      · refine S.aload_n (pc' := 35) dX6_readChance_34 rfl rfl rfl ?_
        refine S.getR (pc' := 38) dX6_readChance_35 rfl fX6_12 L_2 rf_2_0 ?_
        refine S.aload_n (pc' := 39) dX6_readChance_38 rfl rfl rfl ?_
        refine S.getI (pc' := 42) dX6_readChance_39 rfl fX6_86 L_2 ?_
        refine S.putI (pc' := 45) dX6_readChance_42 rfl fX6_177 (gd_lay gd3) ?_
        rcases b26 with b | b
        rotate_left
        · exfalso; omega
        obtain ⟨b1, b2, b3, b4, b5⟩ := b
        rw [if_neg (fun q => q b1)]
        have hm2 : rdT (fp_up M26 3 2 (M26 2 10)) tp := ⟨(f26.T hm').1, (f26.T hm').2.1, (f26.T hm').2.2⟩
        refine S.aload_n (pc' := 46) dX6_readChance_45 rfl rfl rfl ?_
        refine S.callVi (pc' := 49) dX6_readChance_46 rfl cX6_145 (rk_X6_readStop (M := fp_up M26 3 2 (M26 2 10)) (s := nxt tp s) ht hm2 b4 (by omega) (by omega)) rfl L_2 (by decide) rfl (Nat.le_of_ble_eq_true rfl) (fun z46 M46 q46 => ?_)
        obtain ⟨f46, b46⟩ := q46
        refine S.zret dX6_readChance_49 rfl (by rcases b46 with b | b <;> omega) ?_
        have hfr : fR M M46 := fR.trans (fR.trans (fR.trans (fun a ha => fp_up_ne (by omega)) f26.R) (fun a ha => fp_up_ne (by omega))) f46.R
        have hI : rdI M46 := f46.I ((f26.I (hi.kept rfl rfl rfl rfl)).kept rfl rfl rfl rfl)
        rcases b46 with b | b
        · rw [if_neg (fun q => q b.1)]
          refine ⟨hfr, f46.T hm2, hI, Or.inr ⟨_, rfl, b.2.1, b.2.2.1, ?_, ?_⟩⟩
          · rw [b.2.2.2]; exact b5.trans h3
          · refine f46.D ?_
            have hd2 : rdD (fp_up M 2 12 1) (D.1, D.2.1, D.2.2.1, D.2.2.2.1, 1, D.2.2.2.2.2) := ⟨hd.1, hd.2.1, hd.2.2.1, hd.2.2.2.1, rfl⟩
            obtain ⟨k1, k2, k3, k4, k5⟩ := f26.D hd2
            obtain ⟨g1, g2, g3, g4⟩ := k1
            exact ⟨⟨g1, g2, b3, g4⟩, k2, k3, k4, k5⟩
        · rw [if_pos b.1]
          exact ⟨hfr, f46.T hm2, hI, Or.inl ⟨_, rfl, b.2.1, b.2.2⟩⟩
      · refine S.iconst (pc' := 33) dX6_readChance_32 rfl ?_
        refine S.zret dX6_readChance_33 rfl (by first | exact Or.inl rfl | exact Or.inr rfl | omega) ?_
        rcases b26 with b | b
        · exfalso; omega
        · rw [if_pos b.1]
          refine ⟨fR.trans (fun a ha => fp_up_ne (by omega)) f26.R, f26.T hm', f26.I (hi.kept rfl rfl rfl rfl), Or.inl ⟨_, rfl, rfl, b.2.2⟩⟩
    · exact absurd rfl h4
  · rw [if_pos hc]
    refine S.aload_n (pc' := 1) dX6_readChance_0 rfl rfl rfl ?_
    refine S.getI (pc' := 4) dX6_readChance_1 rfl fX6_49 L_2 ?_
    rw [h12]
    refine S.if_eq (pc' := 7) (tgt := 17) dX6_readChance_4 (by decide) rfl (by unfold fp_rng; omega) (fun h4 => ?_) (fun h4 => ?_)
    · exfalso; omega
    · refine S.aload_n (pc' := 8) dX6_readChance_7 rfl rfl rfl ?_
      refine S.iconst (pc' := 9) dX6_readChance_8 rfl ?_
      refine S.aload_n (pc' := 10) dX6_readChance_9 rfl rfl rfl ?_
      refine S.getI (pc' := 13) dX6_readChance_10 rfl fX6_76 L_2 ?_
      rw [h9]
      refine S.callVe (pc' := 16) dX6_readChance_13 rfl cX6_89 ok_X6_refuse rfl L_2 (by decide) rfl (Nat.le_of_ble_eq_true rfl) ?_
      refine S.zret dX6_readChance_16 rfl (Or.inl rfl) ?_
      exact ⟨fun a ha => by rw [fp_up_ne (by omega), fp_up_ne (by omega)], (hm.up (by decide) (by decide)).up (by decide) (by decide), hi.kept rfl rfl rfl rfl, Or.inl ⟨_, rfl, rfl, flt_refuse (by omega)⟩⟩
end DAT
