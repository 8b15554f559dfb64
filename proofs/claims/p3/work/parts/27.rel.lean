/-! PLACES in the bank's own words; VISITS -/
theorem fp_Okg.weaken {l : Launch} {G : fp_WG} {d n mc ms : Nat} {Y : fp_MR} {a : List Value} {M : fp_Mem} {Q Q' : fp_Q} (h : fp_Okg l G d n mc ms Y a M Q) (hq : ∀ r M', Q r M' → Q' r M') : fp_Okg l G d n mc ms Y a M Q' := by
  intro p e h1 h2 h3 s m args below h4 h5 h6 h7
  obtain ⟨k, o, a1, a2, a3, ⟨r, M', e1, e2, e3⟩, L⟩ := h p e h1 h2 h3 s m args below h4 h5 h6 h7
  exact ⟨k, o, a1, a2, a3, ⟨r, M', e1, hq r M' e2, e3⟩, L⟩
theorem fp_Ok.weaken {l : Launch} {G : fp_WG} {d : Nat} {Y : fp_MR} {a : List Value} {M : fp_Mem} {Q Q' : fp_Q} (h : fp_Ok l G d Y a M Q) (hq : ∀ r M', Q r M' → Q' r M') : fp_Ok l G d Y a M Q' := fp_Okg.weaken h (fun r X ⟨M', e, q⟩ => ⟨M', e, hq r M' q⟩)
theorem fp_Ok.toI {l : Launch} {G : fp_WG} {d : Nat} {Y : fp_MR} {a : List Value} {M N : fp_Mem} {f : Int} {P : Int → fp_Mem → Prop} (h : fp_Ok l G d Y a M (qE f N)) (hq : P f N) : fp_Ok l G d Y a M (qI P) := h.weaken (fun r M' ⟨z, e, e1, e2⟩ => ⟨z, e, by subst e1; subst e2; exact hq⟩)
theorem fp_Ok.toV {l : Launch} {G : fp_WG} {d : Nat} {Y : fp_MR} {a : List Value} {M N : fp_Mem} {P : fp_Mem → Prop} (h : fp_Ok l G d Y a M (qW N)) (hq : P N) : fp_Ok l G d Y a M (qV P) := h.weaken (fun r M' ⟨e, e2⟩ => ⟨e, by rw [show M' = N from e2]; exact hq⟩)
def aApp (pg : aPg) (p t x : Int) : Int × aPg := if pg.1 t = p ∧ (pg.2.2 x).length < 8 then (1, aIns pg t x (pg.2.2 x).length) else (0, pg)
abbrev aVt : Type := Int × Int × Int × Int
def aHap (g : aGd) (pg : aPg) (v : aVt) : Int × aPg := if v.2.2.2 = -4 then (if pg.2.2 v.2.2.1 = [] then 0 else 1, aDraw g pg v.2.1 v.2.2.1) else aApp pg v.2.1 v.2.2.2 v.2.2.1
def aV0 : aVt := (0, 0, 0, -4)
def aHapI (g : aGd) (pg : aPg) (vs : List aVt) (i : Int) : Int × aPg := if 0 ≤ i ∧ i < vs.length then aHap g pg (vs.getD i.toNat aV0) else (0, pg)
def vOk (g : aGd) (v : aVt) : Prop := (0 ≤ v.1 ∧ v.1 ≤ 99) ∧ (0 ≤ v.2.1 ∧ v.2.1 < 4) ∧ (0 ≤ v.2.2.1 ∧ v.2.2.1 < g.2.1) ∧ (v.2.2.2 = -4 ∨ (0 ≤ v.2.2.2 ∧ v.2.2.2 < g.1))
def vsOk (g : aGd) (vs : List aVt) : Prop := ∀ v ∈ vs, vOk g v
def vsIs (M : fp_Mem) (k : Nat) (vs : List aVt) : Prop := M k 0 = vs.length ∧ vs.length ≤ 12 ∧ ∀ i : Int, 0 ≤ i → i < vs.length → M (k + 1) i.toNat = (vs.getD i.toNat aV0).1 ∧ M (k + 2) i.toNat = (vs.getD i.toNat aV0).2.1 ∧ M (k + 3) i.toNat = (vs.getD i.toNat aV0).2.2.1 ∧ M (k + 4) i.toNat = (vs.getD i.toNat aV0).2.2.2
theorem vsIs.kept {M N : fp_Mem} {k : Nat} {vs : List aVt} (h : vsIs M k vs) (e : ∀ a, k ≤ a → a ≤ k + 4 → N a = M a) : vsIs N k vs := by
  unfold vsIs at *
  rw [e k (by omega) (by omega), e (k + 1) (by omega) (by omega), e (k + 2) (by omega) (by omega), e (k + 3) (by omega) (by omega), e (k + 4) (by omega) (by omega)]
  exact h
theorem vsOk.at {g : aGd} {vs : List aVt} (h : vsOk g vs) {i : Int} (h0 : 0 ≤ i) (h1 : i < vs.length) : vOk g (vs.getD i.toNat aV0) := by
  apply h
  rw [List.getD_eq_getElem?_getD, List.getElem?_eq_getElem (by omega)]
  exact List.getElem_mem _
theorem aApp_ok {g : aGd} {pg : aPg} {p t x : Int} (hg : gOk g) (h : pgOk g pg) (hp : 0 ≤ p ∧ p < 4) (ht : 0 ≤ t ∧ t < g.1) (hx : 0 ≤ x ∧ x < g.2.1) : pgOk g (aApp pg p t x).2 := by
  unfold aApp
  split
  · rename_i hc
    exact aIns_ok hg h ht ⟨by omega, by omega⟩ hx hc.2 (Nat.le_refl _)
  · exact h
theorem aHap_ok {g : aGd} {pg : aPg} {v : aVt} (hg : gOk g) (h : pgOk g pg) (hv : vOk g v) : pgOk g (aHap g pg v).2 := by
  unfold aHap
  split
  · exact aDraw_ok hg h hv.2.1 hv.2.2.1
  · rename_i hne
    exact aApp_ok hg h hv.2.1 (by have := hv.2.2.2; omega) hv.2.2.1
theorem aHapI_ok {g : aGd} {pg : aPg} {vs : List aVt} {i : Int} (hg : gOk g) (h : pgOk g pg) (hv : vsOk g vs) : pgOk g (aHapI g pg vs i).2 := by
  unfold aHapI
  split
  · rename_i hi
    exact aHap_ok hg h (hv.at hi.1 hi.2)
  · exact h
theorem aHap_01 (g : aGd) (pg : aPg) (v : aVt) : (aHap g pg v).1 = 0 ∨ (aHap g pg v).1 = 1 := by
  unfold aHap aApp
  split
  · show (if _ then (0 : Int) else 1) = 0 ∨ (if _ then (0 : Int) else 1) = 1
    split <;> simp
  · split <;> simp
theorem aHapI_01 (g : aGd) (pg : aPg) (vs : List aVt) (i : Int) : (aHapI g pg vs i).1 = 0 ∨ (aHapI g pg vs i).1 = 1 := by
  unfold aHapI
  split
  · exact aHap_01 _ _ _
  · simp
theorem frP.refl (M : fp_Mem) (k : Nat) : frP M M k := fun _ _ => rfl
theorem frP.trans {M N O : fp_Mem} {k : Nat} (h1 : frP M N k) (h2 : frP N O k) : frP M O k := fun a h => (h2 a h).trans (h1 a h)
theorem frP.gd {M N : fp_Mem} {k kg : Nat} {g : aGd} (h : frP M N k) (hk : fp_ispl k) (hkg : fp_isgd kg) (hd : gdIs M kg g) : gdIs N kg g := hd.kept (fun a h0 h1 => h a (by have := pl_gd hk hkg; omega))
theorem frP.vs {M N : fp_Mem} {k kv : Nat} {vs : List aVt} (h : frP M N k) (hk : fp_ispl k) (hkv : fp_isvs kv) (hd : vsIs M kv vs) : vsIs N kv vs := hd.kept (fun a h0 h1 => h a (by have := pl_vs hk hkv; omega))
theorem frP.cl {M N : fp_Mem} {k k2 : Nat} {g : aGd} {pg : aPg} (h : frP M N k) (hk : fp_ispl k) (hk2 : fp_ispl k2) (hne : k ≠ k2) (hd : clIs M k2 g pg) : clIs N k2 g pg := hd.kept (fun a h0 h1 => h a (by have := pl_pl hk hk2 hne; omega))
section RLP
variable {l : Launch} {G : fp_WG} {M : fp_Mem} {k kg kv : Nat} {g : aGd} {pg : aPg} {vs : List aVt}
theorem rk_X5_gives {x : Int} (hk : fp_ispl k) (hkg : fp_isgd kg) (hc : clIs M k g pg := by assumption) (hd : gdIs M kg g := by assumption) (hP : pgOk g pg := by assumption) (hg : gOk g := by assumption) (hx : 0 ≤ x ∧ x < g.2.1 := by first | assumption | omega) : fp_Ok l G 1 kX5_gives [rV G k, rV G kg, iV x] M (qE (aGv g pg x) M) := by
  rw [← cl_gives hc hd hP hg hx]
  exact ok_X5_gives hk hkg hc.2.2.2.2 hd.2.2.2.2.2.2.2.2 ⟨hx.1, by have := hg.2.1.2; omega⟩
theorem rk_X5_giveTo {p x : Int} (hk : fp_ispl k) (hkg : fp_isgd kg) (hc : clIs M k g pg := by assumption) (hd : gdIs M kg g := by assumption) (hP : pgOk g pg := by assumption) (hg : gOk g := by assumption) (hp : 0 ≤ p ∧ p < 4 := by first | assumption | omega) (hx : 0 ≤ x ∧ x < g.2.1 := by first | assumption | omega) : fp_Ok l G 1 kX5_giveTo [rV G k, rV G kg, iV p, iV x] M (qI fun z N => z = aGv g pg x ∧ clIs N k g (aDraw g pg p x) ∧ frP M N k) := by
  refine (ok_X5_giveTo hk hkg hc.2.2.2.2 hd.2.2.2.2.2.2.2.2 (by unfold fp_rng; omega) ⟨hx.1, by have := hg.2.1.2; omega⟩).toI ⟨cl_gives hc hd hP hg hx, cl_draw hc hd hP hg hp hx, fun a ha => ?_⟩
  split
  · rfl
  · unfold pl_give; exact fp_splo ha
theorem rk_X5_append {p t x : Int} (hk : fp_ispl k) (hc : clIs M k g pg := by assumption) (hP : pgOk g pg := by assumption) (hg : gOk g := by assumption) (hp : 0 ≤ p ∧ p < 4 := by first | assumption | omega) (ht : 0 ≤ t ∧ t < g.1 := by first | assumption | omega) (hx : 0 ≤ x ∧ x < g.2.1 := by first | assumption | omega) : fp_Ok l G 1 kX5_append [rV G k, iV p, iV t, iV x] M (qI fun z N => z = (aApp pg p t x).1 ∧ clIs N k g (aApp pg p t x).2 ∧ frP M N k) := by
  have hg1 := hg.1.2
  have hg2 := hg.2.1.2
  refine (ok_X5_append hk hc.2.2.2.2 (by unfold fp_rng; omega) ⟨ht.1, by omega⟩ ⟨hx.1, by omega⟩).toI ?_
  obtain ⟨h1, h2, h3⟩ := hc.line hP hx hg
  rw [hc.1 t ht.1 ht.2, h1]
  unfold aApp
  by_cases hcn : pg.1 t = p ∧ (pg.2.2 x).length < 8
  · have hcz : pg.1 t = p ∧ ((pg.2.2 x).length : Int) < 8 := ⟨hcn.1, by omega⟩
    simp only [if_pos hcz, if_pos hcn]
    exact ⟨trivial, cl_ins hc hP hg ht ⟨by omega, by omega⟩ hx hcn.2 (Nat.le_refl _), fun a ha => by unfold pl_ins; exact fp_splo ha⟩
  · have hcz : ¬ (pg.1 t = p ∧ ((pg.2.2 x).length : Int) < 8) := by omega
    simp only [if_neg hcz, if_neg hcn]
    exact ⟨trivial, hc, frP.refl _ _⟩
theorem rk_X5_insert {t x s : Int} (hk : fp_ispl k) (hc : clIs M k g pg := by assumption) (hP : pgOk g pg := by assumption) (hg : gOk g := by assumption) (ht : 0 ≤ t ∧ t < g.1 := by first | assumption | omega) (hh : 0 ≤ pg.1 t ∧ pg.1 t ≤ 3 := by first | assumption | omega) (hx : 0 ≤ x ∧ x < g.2.1 := by first | assumption | omega) (hs : 0 ≤ s ∧ s ≤ (pg.2.2 x).length := by first | assumption | omega) : fp_Ok l G 0 kX5_insert [rV G k, iV t, iV x, iV s] M (qI fun z N => z = (if 8 ≤ (pg.2.2 x).length then 0 else 1) ∧ clIs N k g (if 8 ≤ (pg.2.2 x).length then pg else aIns pg t x s.toNat) ∧ frP M N k) := by
  have hg1 := hg.1.2
  have hg2 := hg.2.1.2
  obtain ⟨h1, h2, h3⟩ := hc.line hP hx hg
  refine (ok_X5_insert hk hc.2.2.2.2 ⟨ht.1, by omega⟩ ⟨hx.1, by omega⟩ hs.1 (by rw [h1]; exact hs.2)).toI ?_
  rw [h1]
  by_cases hcn : 8 ≤ (pg.2.2 x).length
  · have hcz : 8 ≤ ((pg.2.2 x).length : Int) := by omega
    simp only [if_pos hcz, if_pos hcn]
    exact ⟨trivial, hc, frP.refl _ _⟩
  · have hcz : ¬ 8 ≤ ((pg.2.2 x).length : Int) := by omega
    simp only [if_neg hcz, if_neg hcn]
    have := cl_ins (s := s.toNat) hc hP hg ht hh hx (by omega) (by omega)
    rw [Int.toNat_of_nonneg hs.1] at this
    exact ⟨trivial, this, fun a ha => by unfold pl_ins; exact fp_splo ha⟩
theorem ok_X10_has {i : Int} (hv : fp_isvs kv) (hi : fp_rng i := by first | assumption | (unfold fp_rng; omega)) (hm : fp_rng (M kv 0) := by first | assumption | (unfold fp_rng; omega)) : fp_Ok l G 0 kX10_has [rV G kv, iV i] M (qE (if 0 ≤ i ∧ i < M kv 0 then 1 else 0) M) := by
  refine fp_Ok.of (r := 0) rfl (Nat.le_of_ble_eq_true rfl) rfl ?_
  refine S.iload_n dX10_has_0 rfl rfl rfl ?_
  refine S.if_lt (tgt := 16) dX10_has_1 (by decide) rfl hi (fun h1 => ?_) (fun h1 => ?_)
  · refine S.iconst dX10_has_16 rfl ?_
    refine S.zret dX10_has_17 rfl (by first | exact Or.inl rfl | exact Or.inr rfl | omega) ?_
    refine ⟨?_, rfl⟩
    first | rw [if_pos ⟨by omega, by omega⟩] | rw [if_neg (by omega)]
  · refine S.iload_n dX10_has_4 rfl rfl rfl ?_
    refine S.aload_n dX10_has_5 rfl rfl rfl ?_
    refine S.getI dX10_has_6 rfl fX10_24 (vs_lay hv) ?_
    refine S.icmp_ge (tgt := 16) dX10_has_9 (by decide) rfl hi hm (fun h9 => ?_) (fun h9 => ?_)
    · refine S.iconst dX10_has_16 rfl ?_
      refine S.zret dX10_has_17 rfl (by first | exact Or.inl rfl | exact Or.inr rfl | omega) ?_
      refine ⟨?_, rfl⟩
      first | rw [if_pos ⟨by omega, by omega⟩] | rw [if_neg (by omega)]
    · refine S.iconst dX10_has_12 rfl ?_
      refine S.goto (pc' := 17) dX10_has_13 (by decide) ?_
      refine S.zret dX10_has_17 rfl (by first | exact Or.inl rfl | exact Or.inr rfl | omega) ?_
      refine ⟨?_, rfl⟩
      first | rw [if_pos ⟨by omega, by omega⟩] | rw [if_neg (by omega)]
theorem ok_X10_isDraw {i : Int} (hv : fp_isvs kv) (hi : 0 ≤ i ∧ i < 12 := by first | assumption | omega) (hm : fp_rng (M (kv + 4) i.toNat) := by first | assumption | (unfold fp_rng; omega)) : fp_Ok l G 0 kX10_isDraw [rV G kv, iV i] M (qE (if M (kv + 4) i.toNat = -4 then 1 else 0) M) := by
  refine fp_Ok.of (r := 0) rfl (Nat.le_of_ble_eq_true rfl) rfl ?_
  refine S.aload_n dX10_isDraw_0 rfl rfl rfl ?_
  refine S.getR dX10_isDraw_1 rfl fX10_21 (vs_lay hv) (vs_r4 hv) ?_
  refine S.iload_n dX10_isDraw_4 rfl rfl rfl ?_
  refine S.iald dX10_isDraw_5 rfl (vs_a4 hv) (by omega) (by omega) ?_
  refine S.bipush dX10_isDraw_6 rfl (by decide) ?_
  refine S.icmp_ne (tgt := 15) dX10_isDraw_8 (by decide) rfl hm (by unfold fp_rng; omega) (fun h8 => ?_) (fun h8 => ?_)
  · refine S.iconst dX10_isDraw_15 rfl ?_
    refine S.zret dX10_isDraw_16 rfl (by first | exact Or.inl rfl | exact Or.inr rfl | omega) ?_
    refine ⟨?_, rfl⟩
    first | rw [if_pos (by omega)] | rw [if_neg (by omega)]
  · refine S.iconst dX10_isDraw_11 rfl ?_
    refine S.goto (pc' := 16) dX10_isDraw_12 (by decide) ?_
    refine S.zret dX10_isDraw_16 rfl (by first | exact Or.inl rfl | exact Or.inr rfl | omega) ?_
    refine ⟨?_, rfl⟩
    first | rw [if_pos (by omega)] | rw [if_neg (by omega)]
theorem vsIs.at (h : vsIs M kv vs) (ho : vsOk g vs) (hg : gOk g) {i : Int} (h0 : 0 ≤ i) (h1 : i < vs.length) : (0 ≤ M (kv + 1) i.toNat ∧ M (kv + 1) i.toNat ≤ 99) ∧ (0 ≤ M (kv + 2) i.toNat ∧ M (kv + 2) i.toNat < 4) ∧ (0 ≤ M (kv + 3) i.toNat ∧ M (kv + 3) i.toNat < g.2.1) ∧ (M (kv + 4) i.toNat = -4 ∨ (0 ≤ M (kv + 4) i.toNat ∧ M (kv + 4) i.toNat < g.1)) := by
  obtain ⟨e1, e2, e3, e4⟩ := h.2.2 i h0 h1
  have := ho.at h0 h1
  rw [e1, e2, e3, e4]
  exact this
theorem rk_X10_happens {i : Int} (hkv : fp_isvs kv) (hkg : fp_isgd kg) (hk : fp_ispl k) (hv : vsIs M kv vs := by assumption) (hd : gdIs M kg g := by assumption) (hc : clIs M k g pg := by assumption) (hP : pgOk g pg := by assumption) (hg : gOk g := by assumption) (hvo : vsOk g vs := by assumption) (hi : 0 ≤ i ∧ i ≤ 12 := by first | assumption | omega) : fp_Ok l G 2 kX10_happens [rV G kv, rV G kg, rV G k, iV i] M (qI fun z N => z = (aHapI g pg vs i).1 ∧ clIs N k g (aHapI g pg vs i).2 ∧ frP M N k) := by
  have hg1 := hg.1.2
  have hg2 := hg.2.1.2
  have hl := hv.1
  have hl2 := hv.2.1
  refine fp_Ok.of (r := 0) rfl (Nat.le_of_ble_eq_true rfl) rfl ?_
  unfold aHapI
  by_cases hin : 0 ≤ i ∧ i < vs.length
  · rw [if_pos hin]
    have hb := hv.at hvo hg hin.1 hin.2
    obtain ⟨e1, e2, e3, e4⟩ := hv.2.2 i hin.1 hin.2
    unfold aHap
    by_cases hdr : M (kv + 4) i.toNat = -4
    · rw [if_pos (by rw [← e4]; exact hdr), ← e2, ← e3]
      refine S.aload_n dX10_happens_0 rfl rfl rfl ?_
      refine S.iload_n dX10_happens_1 rfl rfl rfl ?_
      refine S.callVe dX10_happens_2 rfl cX10_42 (ok_X10_has hkv) rfl (vs_lay hkv) (by decide) rfl (Nat.le_of_ble_eq_true rfl) ?_
      rw [if_pos ⟨by omega, by omega⟩]
      refine S.if_ne (tgt := 10) dX10_happens_5 (by decide) rfl (by unfold fp_rng; omega) (fun h5 => ?_) (fun h5 => ?_)
      · refine S.aload_n dX10_happens_10 rfl rfl rfl ?_
        refine S.iload_n dX10_happens_11 rfl rfl rfl ?_
        refine S.callVe dX10_happens_12 rfl cX10_34 (ok_X10_isDraw hkv) rfl (vs_lay hkv) (by decide) rfl (Nat.le_of_ble_eq_true rfl) ?_
        rw [if_pos hdr]
        refine S.if_eq (tgt := 46) dX10_happens_15 (by decide) rfl (by unfold fp_rng; omega) (fun h15 => ?_) (fun h15 => ?_)
        · exfalso; omega
        · refine S.aload_n dX10_happens_18 rfl rfl rfl ?_
          refine S.aload_n dX10_happens_19 rfl rfl rfl ?_
          refine S.aload_n dX10_happens_20 rfl rfl rfl ?_
          refine S.getR dX10_happens_21 rfl fX10_15 (vs_lay hkv) (vs_r2 hkv) ?_
          refine S.iload_n dX10_happens_24 rfl rfl rfl ?_
          refine S.iald dX10_happens_25 rfl (vs_a2 hkv) (by omega) (by omega) ?_
          refine S.aload_n dX10_happens_26 rfl rfl rfl ?_
          refine S.getR dX10_happens_27 rfl fX10_18 (vs_lay hkv) (vs_r3 hkv) ?_
          refine S.iload_n dX10_happens_30 rfl rfl rfl ?_
          refine S.iald dX10_happens_31 rfl (vs_a3 hkv) (by omega) (by omega) ?_
          refine S.callVi dX10_happens_32 rfl cX10_45 (rk_X5_giveTo hk hkg) rfl (pl_lay hk) (by decide) rfl (Nat.le_of_ble_eq_true rfl) (fun z32 M32 q32 => ?_)
          obtain ⟨rfl, c32, f32⟩ := q32
          have hgv : pg.2.2 (M (kv + 3) i.toNat) = [] ∨ (0 ≤ aGv g pg (M (kv + 3) i.toNat) ∧ aGv g pg (M (kv + 3) i.toNat) < g.1) := by
            by_cases q : pg.2.2 (M (kv + 3) i.toNat) = []
            · exact Or.inl q
            · have := (hP.2.1 _ hb.2.2.1.1 (by omega)).2.2.2 _ (aGv_mem (g := g) q)
              exact Or.inr ⟨this.1, this.2.1⟩
          have hgv2 : pg.2.2 (M (kv + 3) i.toNat) = [] → aGv g pg (M (kv + 3) i.toNat) = -4 := fun q => by unfold aGv; rw [if_pos q]
          refine S.bipush dX10_happens_35 rfl (by decide) ?_
          refine S.icmp_eq (tgt := 44) dX10_happens_37 (by decide) rfl (by unfold fp_rng; rcases hgv with q | q; (have := hgv2 q; omega); omega) (by unfold fp_rng; omega) (fun h37 => ?_) (fun h37 => ?_)
          · refine S.iconst dX10_happens_44 rfl ?_
            refine S.zret dX10_happens_45 rfl (by first | exact Or.inl rfl | exact Or.inr rfl | omega) ?_
            first | (exfalso; omega) | (refine ⟨?_, c32, f32⟩; show _ = if _ then (0 : Int) else 1; first | (rw [if_neg (fun q => by have := hgv2 q; omega)]; done) | (rw [if_pos (by rcases hgv with q | q; exact q; exfalso; omega)]; done))
          · refine S.iconst dX10_happens_40 rfl ?_
            refine S.goto (pc' := 45) dX10_happens_41 (by decide) ?_
            refine S.zret dX10_happens_45 rfl (by first | exact Or.inl rfl | exact Or.inr rfl | omega) ?_
            first | (exfalso; omega) | (refine ⟨?_, c32, f32⟩; show _ = if _ then (0 : Int) else 1; first | (rw [if_neg (fun q => by have := hgv2 q; omega)]; done) | (rw [if_pos (by rcases hgv with q | q; exact q; exfalso; omega)]; done))
      · refine S.iconst dX10_happens_8 rfl ?_
        refine S.zret dX10_happens_9 rfl (by first | exact Or.inl rfl | exact Or.inr rfl | omega) ?_
        first | (exfalso; omega) | (refine ⟨?_, c32, f32⟩; show _ = if _ then (0 : Int) else 1; first | (rw [if_neg (fun q => by have := hgv2 q; omega)]; done) | (rw [if_pos (by rcases hgv with q | q; exact q; exfalso; omega)]; done))
    · rw [if_neg (by rw [← e4]; exact hdr), ← e2, ← e3, ← e4]
      refine S.aload_n dX10_happens_0 rfl rfl rfl ?_
      refine S.iload_n dX10_happens_1 rfl rfl rfl ?_
      refine S.callVe dX10_happens_2 rfl cX10_42 (ok_X10_has hkv) rfl (vs_lay hkv) (by decide) rfl (Nat.le_of_ble_eq_true rfl) ?_
      rw [if_pos ⟨by omega, by omega⟩]
      refine S.if_ne (tgt := 10) dX10_happens_5 (by decide) rfl (by unfold fp_rng; omega) (fun h5 => ?_) (fun h5 => ?_)
      · refine S.aload_n dX10_happens_10 rfl rfl rfl ?_
        refine S.iload_n dX10_happens_11 rfl rfl rfl ?_
        refine S.callVe dX10_happens_12 rfl cX10_34 (ok_X10_isDraw hkv) rfl (vs_lay hkv) (by decide) rfl (Nat.le_of_ble_eq_true rfl) ?_
        rw [if_neg hdr]
        refine S.if_eq (tgt := 46) dX10_happens_15 (by decide) rfl (by unfold fp_rng; omega) (fun h15 => ?_) (fun h15 => ?_)
        · refine S.aload_n dX10_happens_46 rfl rfl rfl ?_
          refine S.aload_n dX10_happens_47 rfl rfl rfl ?_
          refine S.getR dX10_happens_48 rfl fX10_15 (vs_lay hkv) (vs_r2 hkv) ?_
          refine S.iload_n dX10_happens_51 rfl rfl rfl ?_
          refine S.iald dX10_happens_52 rfl (vs_a2 hkv) (by omega) (by omega) ?_
          refine S.aload_n dX10_happens_53 rfl rfl rfl ?_
          refine S.getR dX10_happens_54 rfl fX10_21 (vs_lay hkv) (vs_r4 hkv) ?_
          refine S.iload_n dX10_happens_57 rfl rfl rfl ?_
          refine S.iald dX10_happens_58 rfl (vs_a4 hkv) (by omega) (by omega) ?_
          refine S.aload_n dX10_happens_59 rfl rfl rfl ?_
          refine S.getR dX10_happens_60 rfl fX10_18 (vs_lay hkv) (vs_r3 hkv) ?_
          refine S.iload_n dX10_happens_63 rfl rfl rfl ?_
          refine S.iald dX10_happens_64 rfl (vs_a3 hkv) (by omega) (by omega) ?_
          refine S.callVi dX10_happens_65 rfl cX10_51 (rk_X5_append hk) rfl (pl_lay hk) (by decide) rfl (Nat.le_of_ble_eq_true rfl) (fun z65 M65 q65 => ?_)
          refine S.zret dX10_happens_68 rfl (by rw [q65.1]; unfold aApp; split <;> simp) ?_
          first | (exfalso; omega) | exact q65
        · exfalso; omega
      · refine S.iconst dX10_happens_8 rfl ?_
        refine S.zret dX10_happens_9 rfl (by first | exact Or.inl rfl | exact Or.inr rfl | omega) ?_
        first | (exfalso; omega) | exact q65
  · rw [if_neg hin]
    refine S.aload_n dX10_happens_0 rfl rfl rfl ?_
    refine S.iload_n dX10_happens_1 rfl rfl rfl ?_
    refine S.callVe dX10_happens_2 rfl cX10_42 (ok_X10_has hkv) rfl (vs_lay hkv) (by decide) rfl (Nat.le_of_ble_eq_true rfl) ?_
    rw [if_neg (by omega)]
    refine S.if_ne (tgt := 10) dX10_happens_5 (by decide) rfl (by unfold fp_rng; omega) (fun h5 => ?_) (fun h5 => ?_)
    · exfalso; omega
    · refine S.iconst dX10_happens_8 rfl ?_
      refine S.zret dX10_happens_9 rfl (by first | exact Or.inl rfl | exact Or.inr rfl | omega) ?_
      exact ⟨rfl, hc, frP.refl _ _⟩
end RLP
