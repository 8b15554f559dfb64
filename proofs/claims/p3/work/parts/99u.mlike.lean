/-! likeliest: the reference -/
def lkI (F : Int → Int) : Nat → Int
  | 0 => -4
  | k + 1 => if (if lkI F k = -4 then 0 else F (lkI F k)) < F k then (k : Int) else lkI F k
theorem lc_le {a b : Int} : ((if b < a then (1 : Int) else if a = b then 0 else -1) ≤ 0) ↔ ¬ b < a := by
  split
  · omega
  · split <;> omega
theorem lkI_in (F : Int → Int) : ∀ k, lkI F k = -4 ∨ (0 ≤ lkI F k ∧ lkI F k < k)
  | 0 => Or.inl rfl
  | k + 1 => by
    have := lkI_in F k
    unfold lkI
    split <;> omega
def A_likeliest (g : aGd) (pg : aPg) (vs : List aVt) (x : Int) : Int := if 0 ≤ x ∧ x < g.2.1 then (if 10 < vs.length then -2 else lkI (chF g pg vs x (2 ^ vs.length)) g.1.toNat) else -1
section MLK
variable {l : Launch} {G : fp_WG} {M N : fp_Mem} {tp : List Int} {fl : Int} {g : aGd} {pg : aPg} {vs : List aVt} {nt : List Int} {im : aIm} {sh : aSh} {tn : Int}
theorem lk_loop {x : Int} {F : Int → Int} (hF : ∀ t : Int, 0 ≤ t → t < 10 → M 192 t.toNat = F t ∧ 0 ≤ F t ∧ F t ≤ 10240000000000) (h4 : M 177 4 = g.1) (hg : 0 ≤ g.1 ∧ g.1 ≤ 10) : ∀ (r k : Nat), g.1.toNat - k < r → (k : Int) ≤ g.1 →
    fp_S l G 6 kX12_likeliest 32 [some (rV G 177), some (iV x), some (iV (lkI F k)), some (iV (k : Int))] [] M (qI fun z N => z = lkI F g.1.toNat ∧ N = M) := by
  intro r
  induction r with
  | zero => intro k hr; omega
  | succ r ih =>
    intro k hr hk
    have hin := lkI_in F k
    by_cases he : (k : Int) < g.1
    · obtain ⟨f1, f2, f3⟩ := hF k (by omega) (by omega)
      rw [Int.toNat_natCast] at f1
      have hst : ∀ z, z = lkI F (k + 1) → fp_S l G 6 kX12_likeliest 71 [some (rV G 177), some (iV x), some (iV (lkI F k)), some (iV (k : Int))] [iV z] M (qI fun z N => z = lkI F g.1.toNat ∧ N = M) := by
        intro z hz
        refine S.istore_n (pc' := 72) (LL' := [_, _, _, _]) dX12_likeliest_71 rfl (by decide) rfl rfl rfl ?_
        refine S.iinc (pc' := 75) (LL' := [_, _, _, _]) dX12_likeliest_72 rfl (by decide) rfl rfl rfl ?_
        refine S.goto (pc' := 32) dX12_likeliest_75 (by decide) ?_
        rw [hz, show ((k : Int) + 1) = ((k + 1 : Nat) : Int) by omega]
        exact ih (k + 1) (by omega) (by omega)
      by_cases hb : lkI F k = -4
      · have hs1 : lkI F (k + 1) = if 0 < F k then (k : Int) else lkI F k := by rw [lkI, if_pos hb]
        refine S.iload_n (pc' := 33) dX12_likeliest_32 rfl rfl rfl ?_
        refine S.aload_n (pc' := 34) dX12_likeliest_33 rfl rfl rfl ?_
        refine S.getI (pc' := 37) dX12_likeliest_34 rfl fX12_181 L_177 ?_
        rw [h4]
        refine S.icmp_ge (pc' := 40) (tgt := 78) dX12_likeliest_37 (by decide) rfl (by unfold fp_rng; omega) (by unfold fp_rng; omega) (fun h37 => ?_) (fun h37 => ?_)
        · exfalso; omega
        · refine S.aload_n (pc' := 41) dX12_likeliest_40 rfl rfl rfl ?_
          refine S.getR (pc' := 44) dX12_likeliest_41 rfl fX12_56 L_177 rf_177_32 ?_
          refine S.iload_n (pc' := 45) dX12_likeliest_44 rfl rfl rfl ?_
          refine S.lald (pc' := 46) dX12_likeliest_45 rfl L_192 (by omega) (by omega) ?_
          rw [Int.toNat_natCast, f1]
          refine S.iload_n (pc' := 47) dX12_likeliest_46 rfl rfl rfl ?_
          refine S.bipush (pc' := 49) dX12_likeliest_47 rfl (by decide) ?_
          refine S.icmp_ne (pc' := 52) (tgt := 56) dX12_likeliest_49 (by decide) rfl (by unfold fp_rng; omega) (by unfold fp_rng; omega) (fun h49 => ?_) (fun h49 => ?_)
          · exact absurd hb h49
          · refine S.lconst (pc' := 53) (w := 0) dX12_likeliest_52 rfl rfl ?_
            refine S.goto (pc' := 62) dX12_likeliest_53 (by decide) ?_
            refine S.lcmp (pc' := 63) dX12_likeliest_62 rfl (by unfold fp_lng; omega) (by unfold fp_lng; omega) ?_
            refine S.if_le (pc' := 66) (tgt := 70) dX12_likeliest_63 (by decide) rfl (by unfold fp_rng; split <;> (try split) <;> omega) (fun h63 => ?_) (fun h63 => ?_)
            · refine S.iload_n (pc' := 71) dX12_likeliest_70 rfl rfl rfl ?_
              refine hst _ ?_
              rw [hs1]
              rw [lc_le] at h63
              first
              | rw [if_neg h63]
              | rw [if_pos (Decidable.not_not.mp h63)]
            · refine S.iload_n (pc' := 67) dX12_likeliest_66 rfl rfl rfl ?_
              refine S.goto (pc' := 71) dX12_likeliest_67 (by decide) ?_
              refine hst _ ?_
              rw [hs1]
              rw [lc_le] at h63
              first
              | rw [if_neg h63]
              | rw [if_pos (Decidable.not_not.mp h63)]
      · obtain ⟨b1, b2, b3⟩ := hF (lkI F k) (by omega) (by omega)
        have hs1 : lkI F (k + 1) = if F (lkI F k) < F k then (k : Int) else lkI F k := by rw [lkI, if_neg hb]
        refine S.iload_n (pc' := 33) dX12_likeliest_32 rfl rfl rfl ?_
        refine S.aload_n (pc' := 34) dX12_likeliest_33 rfl rfl rfl ?_
        refine S.getI (pc' := 37) dX12_likeliest_34 rfl fX12_181 L_177 ?_
        rw [h4]
        refine S.icmp_ge (pc' := 40) (tgt := 78) dX12_likeliest_37 (by decide) rfl (by unfold fp_rng; omega) (by unfold fp_rng; omega) (fun h37 => ?_) (fun h37 => ?_)
        · exfalso; omega
        · refine S.aload_n (pc' := 41) dX12_likeliest_40 rfl rfl rfl ?_
          refine S.getR (pc' := 44) dX12_likeliest_41 rfl fX12_56 L_177 rf_177_32 ?_
          refine S.iload_n (pc' := 45) dX12_likeliest_44 rfl rfl rfl ?_
          refine S.lald (pc' := 46) dX12_likeliest_45 rfl L_192 (by omega) (by omega) ?_
          rw [Int.toNat_natCast, f1]
          refine S.iload_n (pc' := 47) dX12_likeliest_46 rfl rfl rfl ?_
          refine S.bipush (pc' := 49) dX12_likeliest_47 rfl (by decide) ?_
          refine S.icmp_ne (pc' := 52) (tgt := 56) dX12_likeliest_49 (by decide) rfl (by unfold fp_rng; omega) (by unfold fp_rng; omega) (fun h49 => ?_) (fun h49 => ?_)
          · refine S.aload_n (pc' := 57) dX12_likeliest_56 rfl rfl rfl ?_
            refine S.getR (pc' := 60) dX12_likeliest_57 rfl fX12_56 L_177 rf_177_32 ?_
            refine S.iload_n (pc' := 61) dX12_likeliest_60 rfl rfl rfl ?_
            refine S.lald (pc' := 62) dX12_likeliest_61 rfl L_192 (by omega) (by omega) ?_
            rw [b1]
            refine S.lcmp (pc' := 63) dX12_likeliest_62 rfl (by unfold fp_lng; omega) (by unfold fp_lng; omega) ?_
            refine S.if_le (pc' := 66) (tgt := 70) dX12_likeliest_63 (by decide) rfl (by unfold fp_rng; split <;> (try split) <;> omega) (fun h63 => ?_) (fun h63 => ?_)
            · refine S.iload_n (pc' := 71) dX12_likeliest_70 rfl rfl rfl ?_
              refine hst _ ?_
              rw [hs1]
              rw [lc_le] at h63
              first
              | rw [if_neg h63]
              | rw [if_pos (Decidable.not_not.mp h63)]
            · refine S.iload_n (pc' := 67) dX12_likeliest_66 rfl rfl rfl ?_
              refine S.goto (pc' := 71) dX12_likeliest_67 (by decide) ?_
              refine hst _ ?_
              rw [hs1]
              rw [lc_le] at h63
              first
              | rw [if_neg h63]
              | rw [if_pos (Decidable.not_not.mp h63)]
          · exact absurd h49 hb
    · have e : g.1.toNat = k := by omega
      rw [e]
      refine S.iload_n (pc' := 33) dX12_likeliest_32 rfl rfl rfl ?_
      refine S.aload_n (pc' := 34) dX12_likeliest_33 rfl rfl rfl ?_
      refine S.getI (pc' := 37) dX12_likeliest_34 rfl fX12_181 L_177 ?_
      rw [h4]
      refine S.icmp_ge (pc' := 40) (tgt := 78) dX12_likeliest_37 (by decide) rfl (by unfold fp_rng; omega) (by unfold fp_rng; omega) (fun h37 => ?_) (fun h37 => ?_)
      · refine S.iload_n (pc' := 79) dX12_likeliest_78 rfl rfl rfl ?_
        refine S.iret dX12_likeliest_79 rfl ?_
        exact ⟨rfl, rfl⟩
      · exfalso; omega
theorem mm_likeliest {x : Int} (hc : MS M tp fl g pg vs nt im sh tn) (ho : OK g pg vs nt im sh) (hxr : fp_rng x) : fp_Ok l G 6 kX12_likeliest [rV G 177, iV x] M (qI fun z N => z = A_likeliest g pg vs x ∧ MS N tp fl g pg vs nt im sh tn ∧ frD M N) := by
  have hcs := hc
  obtain ⟨-, hd, hcl, hv, -⟩ := hc
  have hg := ho.1
  have hP := ho.2.1
  have hvo := ho.2.2.1
  have hv' : mvIs M vs := hv
  have h95 : M 178 95 = (vs.length : Int) := hv.1
  have hl12 := hv.2.1
  have e4 : M 177 4 = g.1 := hd.1
  have e5 : M 177 5 = g.2.1 := hd.2.1
  have g1 := hg.1
  have g2 := hg.2.1
  refine fp_Ok.of (r := 2) rfl (Nat.le_of_ble_eq_true rfl) rfl ?_
  have cL := ok_X12_isLine (l := l) (G := G) (M := M) (t := x) hxr (by rw [e5]; exact g2)
  rw [e5] at cL
  unfold A_likeliest
  by_cases hx : 0 ≤ x ∧ x < g.2.1
  · rw [if_pos hx] at cL ⊢
    by_cases h10 : 10 < vs.length
    · rw [if_pos h10]
      refine S.aload_n (pc' := 1) dX12_likeliest_0 rfl rfl rfl ?_
      refine S.iload_n (pc' := 2) dX12_likeliest_1 rfl rfl rfl ?_
      refine S.callVe (pc' := 5) dX12_likeliest_2 rfl cX12_219 cL rfl L_177 (by decide) rfl (Nat.le_of_ble_eq_true rfl) ?_
      refine S.if_ne (pc' := 8) (tgt := 10) dX12_likeliest_5 (by decide) rfl (by unfold fp_rng; omega) (fun h5 => ?_) (fun h5 => ?_)
      · refine S.aload_n (pc' := 11) dX12_likeliest_10 rfl rfl rfl ?_
        refine S.callVe (pc' := 14) dX12_likeliest_11 rfl cX12_225 ok_X12_visits rfl L_177 (by decide) rfl (Nat.le_of_ble_eq_true rfl) ?_
        rw [h95]
        refine S.bipush (pc' := 16) dX12_likeliest_14 rfl (by decide) ?_
        refine S.icmp_le (pc' := 19) (tgt := 22) dX12_likeliest_16 (by decide) rfl (by unfold fp_rng; omega) (by unfold fp_rng; omega) (fun h16 => ?_) (fun h16 => ?_)
        · exfalso; omega
        · refine S.bipush (pc' := 21) dX12_likeliest_19 rfl (by decide) ?_
          refine S.iret dX12_likeliest_21 rfl ?_
          exact ⟨rfl, hcs, fun _ _ => rfl⟩
      · exact absurd h5 (by decide)
    · rw [if_neg h10]
      have h1024 : ((2 ^ vs.length : Nat) : Int) ≤ 1024 := by
        have q : ∀ n : Nat, n < 11 → ((2 ^ n : Nat) : Int) ≤ 1024 := by decide +kernel
        exact q _ (by omega)
      have hF := fun t => chF_in (x := x) hg hP hvo (by omega) t (2 ^ vs.length)
      generalize hTT : 2 ^ vs.length = TT at *
      refine S.aload_n (pc' := 1) dX12_likeliest_0 rfl rfl rfl ?_
      refine S.iload_n (pc' := 2) dX12_likeliest_1 rfl rfl rfl ?_
      refine S.callVe (pc' := 5) dX12_likeliest_2 rfl cX12_219 cL rfl L_177 (by decide) rfl (Nat.le_of_ble_eq_true rfl) ?_
      refine S.if_ne (pc' := 8) (tgt := 10) dX12_likeliest_5 (by decide) rfl (by unfold fp_rng; omega) (fun h5 => ?_) (fun h5 => ?_)
      · refine S.aload_n (pc' := 11) dX12_likeliest_10 rfl rfl rfl ?_
        refine S.callVe (pc' := 14) dX12_likeliest_11 rfl cX12_225 ok_X12_visits rfl L_177 (by decide) rfl (Nat.le_of_ble_eq_true rfl) ?_
        rw [h95]
        refine S.bipush (pc' := 16) dX12_likeliest_14 rfl (by decide) ?_
        refine S.icmp_le (pc' := 19) (tgt := 22) dX12_likeliest_16 (by decide) rfl (by unfold fp_rng; omega) (by unfold fp_rng; omega) (fun h16 => ?_) (fun h16 => ?_)
        · refine S.aload_n (pc' := 23) dX12_likeliest_22 rfl rfl rfl ?_
          refine S.iload_n (pc' := 24) dX12_likeliest_23 rfl rfl rfl ?_
          refine S.callVv (pc' := 27) dX12_likeliest_24 rfl cX12_297 (rk_X12_layChances hg hP hvo (by omega) hx hd hv' hcl) rfl L_177 (by decide) rfl (Nat.le_of_ble_eq_true rfl) (fun M24 q24 => ?_)
          refine S.bipush (pc' := 29) dX12_likeliest_27 rfl (by decide) ?_
          refine S.istore_n (pc' := 30) (LL' := [_, _, _, _]) dX12_likeliest_29 rfl (by decide) rfl rfl rfl ?_
          refine S.iconst (pc' := 31) dX12_likeliest_30 rfl ?_
          refine S.istore_n (pc' := 32) (LL' := [_, _, _, _]) dX12_likeliest_31 rfl (by decide) rfl rfl rfl ?_
          refine fp_S.wI (lk_loop (F := chF g pg vs x TT) (fun t t0 t1 => ⟨by rw [q24.2.2 t t0 t1, hTT], (hF t).1, by have := (hF t).2; omega⟩) (by rw [q24.1.2.1 4 (by decide)]; exact e4) g1 11 0 (by omega) (by omega)) (fun z N q => ?_)
          obtain ⟨rfl, rfl⟩ := q
          exact ⟨rfl, hcs.lay ho q24.1, q24.1.d⟩
        · exfalso; omega
      · exact absurd h5 (by decide)
  · rw [if_neg hx] at cL ⊢
    refine S.aload_n (pc' := 1) dX12_likeliest_0 rfl rfl rfl ?_
    refine S.iload_n (pc' := 2) dX12_likeliest_1 rfl rfl rfl ?_
    refine S.callVe (pc' := 5) dX12_likeliest_2 rfl cX12_219 cL rfl L_177 (by decide) rfl (Nat.le_of_ble_eq_true rfl) ?_
    refine S.if_ne (pc' := 8) (tgt := 10) dX12_likeliest_5 (by decide) rfl (by unfold fp_rng; omega) (fun h5 => ?_) (fun h5 => ?_)
    · exact absurd rfl h5
    · refine S.iconst (pc' := 9) dX12_likeliest_8 rfl ?_
      refine S.iret dX12_likeliest_9 rfl ?_
      exact ⟨rfl, hcs, fun _ _ => rfl⟩
end MLK
