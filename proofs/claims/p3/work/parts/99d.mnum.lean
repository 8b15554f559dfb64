/-! THE REFERENCE READS A NUMBER -/
/-- where the reading stands: refused at h, or at s -/
def mq (tp : List Int) (N : fp_Mem) : Int ⊕ Int → Prop
  | .inl h => mtB N h
  | .inr s => (0 ≤ s ∧ s ≤ (tp.length : Int)) ∧ mtG tp N s ∧ (mtO tp N s ∨ (¬ tkOk tp (tkS tp s) ∧ mtB N (tkS tp s)))
def nuR (tp : List Int) (lo hi : Int) : Int ⊕ Int → Int ⊕ Int
  | .inl h => .inl h
  | .inr s => if nmOk tp s lo hi then .inr (nxt tp s) else .inl (tkS tp s)
def nuV (tp : List Int) (lo hi : Int) : Int ⊕ Int → Int
  | .inl _ => lo
  | .inr s => if nmOk tp s lo hi then num tp s else lo
theorem nuV_in {tp : List Int} {lo hi : Int} (r : Int ⊕ Int) (h : lo ≤ hi) : lo ≤ nuV tp lo hi r ∧ nuV tp lo hi r ≤ hi := by
  unfold nuV
  split
  · omega
  · split
    · rename_i s q
      exact q.2.2
    · omega
theorem mq.fr {tp : List Int} {M N : fp_Mem} {r : Int ⊕ Int} (h : mq tp M r) (e : ∀ j, 21 ≤ j → j ≤ 26 → N 177 j = M 177 j) : mq tp N r := by
  cases r with
  | inl x =>
    unfold mq mtB at *
    rw [e 21 (by omega) (by omega), e 22 (by omega) (by omega)]
    exact h
  | inr s =>
    unfold mq mtB mtG mtO at *
    simp only at h ⊢
    rw [e 21 (by omega) (by omega), e 22 (by omega) (by omega), e 23 (by omega) (by omega), e 24 (by omega) (by omega), e 25 (by omega) (by omega), e 26 (by omega) (by omega)]
    exact h
section MNU
variable {l : Launch} {G : fp_WG} {M N : fp_Mem} {tp : List Int}
theorem mt_looks1 {lo hi : Int} (h21 : 1 ≤ M 177 21 ∧ M 177 21 ≤ 6) : fp_Ok l G 1 kX12_looks [rV G 177, iV lo, iV hi] M (qW M) := by
  refine fp_Ok.of (r := 0) rfl (Nat.le_of_ble_eq_true rfl) rfl ?_
  refine S.aload_n (pc' := 1) dX12_looks_0 rfl rfl rfl ?_
  refine S.getI (pc' := 4) dX12_looks_1 rfl fX12_98 L_177 ?_
  refine S.if_ne (pc' := 7) (tgt := 20) dX12_looks_4 (by decide) rfl (by unfold fp_rng; omega) (fun h4 => ?_) (fun h4 => ?_)
  · refine S.aload_n (pc' := 21) dX12_looks_20 rfl rfl rfl ?_
    refine S.getI (pc' := 24) dX12_looks_21 rfl fX12_98 L_177 ?_
    refine S.if_ne (pc' := 27) (tgt := 47) dX12_looks_24 (by decide) rfl (by unfold fp_rng; omega) (fun h24 => ?_) (fun h24 => ?_)
    · refine S.vret dX12_looks_47 rfl ?_
      rfl
    · exfalso; omega
  · exfalso; omega
def lkN (tp : List Int) (M : fp_Mem) (s lo hi : Int) (N : fp_Mem) : Prop := (nmOk tp s lo hi ∧ N = M) ∨ (¬ nmOk tp s lo hi ∧ ∃ w, (1 ≤ w ∧ w ≤ 6) ∧ N = fp_up (fp_up M 177 21 w) 177 22 (tkS tp s))
theorem mt_lk20 {P : fp_Mem → Prop} {lo hi : Int} (h21 : 1 ≤ M 177 21 ∧ M 177 21 ≤ 6) (K : P M) : fp_S l G 1 kX12_looks 20 [some (rV G 177), some (iV lo), some (iV hi)] [] M (qV P) := by
  refine S.aload_n (pc' := 21) dX12_looks_20 rfl rfl rfl ?_
  refine S.getI (pc' := 24) dX12_looks_21 rfl fX12_98 L_177 ?_
  refine S.if_ne (pc' := 27) (tgt := 47) dX12_looks_24 (by decide) rfl (by unfold fp_rng; omega) (fun h24 => ?_) (fun h24 => ?_)
  · refine S.vret dX12_looks_47 rfl ?_
    exact K
  · exfalso; omega
theorem mt_looks {s lo hi : Int} (hs : s ≤ (tp.length : Int)) (hg : mtG tp M s) (ho : mtO tp M s) (hlo : fp_rng lo) (hhi : fp_rng hi) : fp_Ok l G 1 kX12_looks [rV G 177, iV lo, iV hi] M (qV fun N => lkN tp M s lo hi N) := by
  refine fp_Ok.of (r := 0) rfl (Nat.le_of_ble_eq_true rfl) rfl ?_
  obtain ⟨g1, g2, g3⟩ := hg
  obtain ⟨o1, o2, o3⟩ := ho
  have hkk := tkK_in tp (tkS tp s)
  unfold fp_rng at hlo hhi
  by_cases hk : tkK tp (tkS tp s) = 2
  · have hv := tkV_in (tkS_le hs).2 hk o2
    have e26 := o3 hk
    have en : num tp s = tkV tp (tkS tp s) := rfl
    refine S.aload_n (pc' := 1) dX12_looks_0 rfl rfl rfl ?_
    refine S.getI (pc' := 4) dX12_looks_1 rfl fX12_98 L_177 ?_
    rw [o1]
    refine S.if_ne (pc' := 7) (tgt := 20) dX12_looks_4 (by decide) rfl (by unfold fp_rng; omega) (fun h4 => ?_) (fun h4 => ?_)
    · refine S.aload_n (pc' := 21) dX12_looks_20 rfl rfl rfl ?_
      refine S.getI (pc' := 24) dX12_looks_21 rfl fX12_98 L_177 ?_
      rw [o1]
      refine S.if_ne (pc' := 27) (tgt := 47) dX12_looks_24 (by decide) rfl (by unfold fp_rng; omega) (fun h24 => ?_) (fun h24 => ?_)
      · first
        | exact absurd rfl h4
        | exact absurd rfl h24
        | (refine S.vret dX12_looks_47 rfl (Or.inl ⟨⟨o2, hk, ?_⟩, rfl⟩); rw [← en]; split at h39 <;> omega)
        | (refine S.vret dX12_looks_47 rfl (Or.inr ⟨fun q => ?_, 3, by omega, by rw [g1]⟩); have := q.2.2; rw [← en] at this; rw [if_pos this] at h39; omega)
      · refine S.aload_n (pc' := 28) dX12_looks_27 rfl rfl rfl ?_
        refine S.getI (pc' := 31) dX12_looks_28 rfl fX12_117 L_177 ?_
        rw [e26]
        refine S.i2l (pc' := 32) dX12_looks_31 rfl (by unfold fp_rng; omega) ?_
        refine S.iload_n (pc' := 33) dX12_looks_32 rfl rfl rfl ?_
        refine S.i2l (pc' := 34) dX12_looks_33 rfl (by unfold fp_rng; omega) ?_
        refine S.iload_n (pc' := 35) dX12_looks_34 rfl rfl rfl ?_
        refine S.i2l (pc' := 36) dX12_looks_35 rfl (by unfold fp_rng; omega) ?_
        refine S.callSe (pc' := 39) dX12_looks_36 rfl cX12_94 ok_X12_in rfl (by decide) rfl (Nat.le_of_ble_eq_true rfl) ?_
        refine S.if_ne (pc' := 42) (tgt := 47) dX12_looks_39 (by decide) rfl (by unfold fp_rng; split <;> omega) (fun h39 => ?_) (fun h39 => ?_)
        · first
          | exact absurd rfl h4
          | exact absurd rfl h24
          | (refine S.vret dX12_looks_47 rfl (Or.inl ⟨⟨o2, hk, ?_⟩, rfl⟩); rw [← en]; split at h39 <;> omega)
          | (refine S.vret dX12_looks_47 rfl (Or.inr ⟨fun q => ?_, 3, by omega, by rw [g1]⟩); have := q.2.2; rw [← en] at this; rw [if_pos this] at h39; omega)
        · refine S.aload_n (pc' := 43) dX12_looks_42 rfl rfl rfl ?_
          refine S.iconst (pc' := 44) dX12_looks_43 rfl ?_
          refine S.callVw (pc' := 47) dX12_looks_44 rfl cX12_128 (mt_fails0 o1) rfl L_177 (by decide) rfl (Nat.le_of_ble_eq_true rfl) ?_
          first
          | exact absurd rfl h4
          | exact absurd rfl h24
          | (refine S.vret dX12_looks_47 rfl (Or.inl ⟨⟨o2, hk, ?_⟩, rfl⟩); rw [← en]; split at h39 <;> omega)
          | (refine S.vret dX12_looks_47 rfl (Or.inr ⟨fun q => ?_, 3, by omega, by rw [g1]⟩); have := q.2.2; rw [← en] at this; rw [if_pos this] at h39; omega)
    · refine S.aload_n (pc' := 8) dX12_looks_7 rfl rfl rfl ?_
      refine S.getI (pc' := 11) dX12_looks_8 rfl fX12_107 L_177 ?_
      refine S.iconst (pc' := 12) dX12_looks_11 rfl ?_
      rw [g3, hk]
      refine S.icmp_eq (pc' := 15) (tgt := 20) dX12_looks_12 (by decide) rfl (by unfold fp_rng; omega) (by unfold fp_rng; omega) (fun h12 => ?_) (fun h12 => ?_)
      · refine S.aload_n (pc' := 21) dX12_looks_20 rfl rfl rfl ?_
        refine S.getI (pc' := 24) dX12_looks_21 rfl fX12_98 L_177 ?_
        rw [o1]
        refine S.if_ne (pc' := 27) (tgt := 47) dX12_looks_24 (by decide) rfl (by unfold fp_rng; omega) (fun h24 => ?_) (fun h24 => ?_)
        · first
          | exact absurd rfl h4
          | exact absurd rfl h24
          | (refine S.vret dX12_looks_47 rfl (Or.inl ⟨⟨o2, hk, ?_⟩, rfl⟩); rw [← en]; split at h39 <;> omega)
          | (refine S.vret dX12_looks_47 rfl (Or.inr ⟨fun q => ?_, 3, by omega, by rw [g1]⟩); have := q.2.2; rw [← en] at this; rw [if_pos this] at h39; omega)
        · refine S.aload_n (pc' := 28) dX12_looks_27 rfl rfl rfl ?_
          refine S.getI (pc' := 31) dX12_looks_28 rfl fX12_117 L_177 ?_
          rw [e26]
          refine S.i2l (pc' := 32) dX12_looks_31 rfl (by unfold fp_rng; omega) ?_
          refine S.iload_n (pc' := 33) dX12_looks_32 rfl rfl rfl ?_
          refine S.i2l (pc' := 34) dX12_looks_33 rfl (by unfold fp_rng; omega) ?_
          refine S.iload_n (pc' := 35) dX12_looks_34 rfl rfl rfl ?_
          refine S.i2l (pc' := 36) dX12_looks_35 rfl (by unfold fp_rng; omega) ?_
          refine S.callSe (pc' := 39) dX12_looks_36 rfl cX12_94 ok_X12_in rfl (by decide) rfl (Nat.le_of_ble_eq_true rfl) ?_
          refine S.if_ne (pc' := 42) (tgt := 47) dX12_looks_39 (by decide) rfl (by unfold fp_rng; split <;> omega) (fun h39 => ?_) (fun h39 => ?_)
          · first
            | exact absurd rfl h4
            | exact absurd rfl h24
            | (refine S.vret dX12_looks_47 rfl (Or.inl ⟨⟨o2, hk, ?_⟩, rfl⟩); rw [← en]; split at h39 <;> omega)
            | (refine S.vret dX12_looks_47 rfl (Or.inr ⟨fun q => ?_, 3, by omega, by rw [g1]⟩); have := q.2.2; rw [← en] at this; rw [if_pos this] at h39; omega)
          · refine S.aload_n (pc' := 43) dX12_looks_42 rfl rfl rfl ?_
            refine S.iconst (pc' := 44) dX12_looks_43 rfl ?_
            refine S.callVw (pc' := 47) dX12_looks_44 rfl cX12_128 (mt_fails0 o1) rfl L_177 (by decide) rfl (Nat.le_of_ble_eq_true rfl) ?_
            first
            | exact absurd rfl h4
            | exact absurd rfl h24
            | (refine S.vret dX12_looks_47 rfl (Or.inl ⟨⟨o2, hk, ?_⟩, rfl⟩); rw [← en]; split at h39 <;> omega)
            | (refine S.vret dX12_looks_47 rfl (Or.inr ⟨fun q => ?_, 3, by omega, by rw [g1]⟩); have := q.2.2; rw [← en] at this; rw [if_pos this] at h39; omega)
      · exact absurd rfl h12
  · refine S.aload_n (pc' := 1) dX12_looks_0 rfl rfl rfl ?_
    refine S.getI (pc' := 4) dX12_looks_1 rfl fX12_98 L_177 ?_
    rw [o1]
    refine S.if_ne (pc' := 7) (tgt := 20) dX12_looks_4 (by decide) rfl (by unfold fp_rng; omega) (fun h4 => ?_) (fun h4 => ?_)
    · first
      | exact absurd rfl h4
      | exact absurd h12 hk
      | exact mt_lk20 (show (1 : Int) ≤ 2 ∧ (2 : Int) ≤ 6 by decide) (Or.inr ⟨fun q => hk q.2.1, 2, by omega, by rw [g1]⟩)
    · refine S.aload_n (pc' := 8) dX12_looks_7 rfl rfl rfl ?_
      refine S.getI (pc' := 11) dX12_looks_8 rfl fX12_107 L_177 ?_
      refine S.iconst (pc' := 12) dX12_looks_11 rfl ?_
      rw [g3]
      refine S.icmp_eq (pc' := 15) (tgt := 20) dX12_looks_12 (by decide) rfl (by unfold fp_rng; omega) (by unfold fp_rng; omega) (fun h12 => ?_) (fun h12 => ?_)
      · first
        | exact absurd rfl h4
        | exact absurd h12 hk
        | exact mt_lk20 (show (1 : Int) ≤ 2 ∧ (2 : Int) ≤ 6 by decide) (Or.inr ⟨fun q => hk q.2.1, 2, by omega, by rw [g1]⟩)
      · refine S.aload_n (pc' := 16) dX12_looks_15 rfl rfl rfl ?_
        refine S.iconst (pc' := 17) dX12_looks_16 rfl ?_
        refine S.callVw (pc' := 20) dX12_looks_17 rfl cX12_128 (mt_fails0 o1) rfl L_177 (by decide) rfl (Nat.le_of_ble_eq_true rfl) ?_
        first
        | exact absurd rfl h4
        | exact absurd h12 hk
        | exact mt_lk20 (show (1 : Int) ≤ 2 ∧ (2 : Int) ≤ 6 by decide) (Or.inr ⟨fun q => hk q.2.1, 2, by omega, by rw [g1]⟩)
theorem mt_numA {s lo hi : Int} (ht : tpOk tp) (hm : mtT M tp) (hs : 0 ≤ s ∧ s ≤ (tp.length : Int)) (hg : mtG tp M s) (ho : mtO tp M s) (hk : nmOk tp s lo hi) : fp_S l G 2 kX12_number 6 [some (rV G 177), some (iV lo), some (iV hi), none] [] M (qI fun z N => frW M N ∧ mq tp N (.inr (nxt tp s)) ∧ z = num tp s) := by
  have hx := nxt_le hs.2
  have e26 := ho.2.2 hk.2.1
  have o1 := ho.1
  refine S.aload_n (pc' := 7) dX12_number_6 rfl rfl rfl ?_
  refine S.getI (pc' := 10) dX12_number_7 rfl fX12_98 L_177 ?_
  rw [o1]
  refine S.if_ne (pc' := 13) (tgt := 20) dX12_number_10 (by decide) rfl (by unfold fp_rng; omega) (fun h10 => ?_) (fun h10 => ?_)
  · exact absurd rfl h10
  · refine S.aload_n (pc' := 14) dX12_number_13 rfl rfl rfl ?_
    refine S.getI (pc' := 17) dX12_number_14 rfl fX12_117 L_177 ?_
    refine S.goto (pc' := 21) dX12_number_17 (by decide) ?_
    rw [e26]
    refine S.istore_n (pc' := 22) (LL' := [_, _, _, _]) dX12_number_21 rfl (by decide) rfl rfl rfl ?_
    refine S.aload_n (pc' := 23) dX12_number_22 rfl rfl rfl ?_
    refine S.callVv (pc' := 26) dX12_number_23 rfl cX12_136 (mt_step ht hm o1 hg.2.1 (by omega) hx.2) rfl L_177 (by decide) rfl (Nat.le_of_ble_eq_true rfl) (fun M23 q23 => ?_)
    refine S.iload_n (pc' := 27) dX12_number_26 rfl rfl rfl ?_
    refine S.iret dX12_number_27 rfl ?_
    exact ⟨q23.1, ⟨⟨by omega, hx.2⟩, q23.2.1, q23.2.2⟩, rfl⟩
theorem mt_numB {s w lo hi : Int} (hw : 1 ≤ w ∧ w ≤ 6) : fp_S l G 2 kX12_number 6 [some (rV G 177), some (iV lo), some (iV hi), none] [] (fp_up (fp_up M 177 21 w) 177 22 s) (qI fun z N => frW M N ∧ mq tp N (.inl s) ∧ z = lo) := by
  have e21 : fp_up (fp_up M 177 21 w) 177 22 s 177 21 = w := rfl
  refine S.aload_n (pc' := 7) dX12_number_6 rfl rfl rfl ?_
  refine S.getI (pc' := 10) dX12_number_7 rfl fX12_98 L_177 ?_
  rw [e21]
  refine S.if_ne (pc' := 13) (tgt := 20) dX12_number_10 (by decide) rfl (by unfold fp_rng; omega) (fun h10 => ?_) (fun h10 => ?_)
  · refine S.iload_n (pc' := 21) dX12_number_20 rfl rfl rfl ?_
    refine S.istore_n (pc' := 22) (LL' := [_, _, _, _]) dX12_number_21 rfl (by decide) rfl rfl rfl ?_
    refine S.aload_n (pc' := 23) dX12_number_22 rfl rfl rfl ?_
    refine S.callVw (pc' := 26) dX12_number_23 rfl cX12_136 (mt_step1 (by rw [e21]; exact hw)) rfl L_177 (by decide) rfl (Nat.le_of_ble_eq_true rfl) ?_
    refine S.iload_n (pc' := 27) dX12_number_26 rfl rfl rfl ?_
    refine S.iret dX12_number_27 rfl ?_
    exact ⟨sm_out (frW.refl M), ⟨hw, rfl⟩, rfl⟩
  · exfalso; omega
theorem mt_number {r : Int ⊕ Int} {lo hi : Int} (ht : tpOk tp) (hm : mtT M tp) (hq : mq tp M r) (hlo : fp_rng lo) (hhi : fp_rng hi) : fp_Ok l G 2 kX12_number [rV G 177, iV lo, iV hi] M (qI fun z N => frW M N ∧ mq tp N (nuR tp lo hi r) ∧ z = nuV tp lo hi r) := by
  refine fp_Ok.of (r := 1) rfl (Nat.le_of_ble_eq_true rfl) rfl ?_
  have hbr : ∀ h, mtB M h → fp_S l G 2 kX12_number 0 [some (rV G 177), some (iV lo), some (iV hi), none] [] M (qI fun z N => N = M ∧ z = lo) := by
    intro h hb
    have h21 := hb.1
    refine S.aload_n (pc' := 1) dX12_number_0 rfl rfl rfl ?_
    refine S.iload_n (pc' := 2) dX12_number_1 rfl rfl rfl ?_
    refine S.iload_n (pc' := 3) dX12_number_2 rfl rfl rfl ?_
    refine S.callVw (pc' := 6) dX12_number_3 rfl cX12_132 (mt_looks1 h21) rfl L_177 (by decide) rfl (Nat.le_of_ble_eq_true rfl) ?_
    refine S.aload_n (pc' := 7) dX12_number_6 rfl rfl rfl ?_
    refine S.getI (pc' := 10) dX12_number_7 rfl fX12_98 L_177 ?_
    refine S.if_ne (pc' := 13) (tgt := 20) dX12_number_10 (by decide) rfl (by unfold fp_rng; omega) (fun h10 => ?_) (fun h10 => ?_)
    · refine S.iload_n (pc' := 21) dX12_number_20 rfl rfl rfl ?_
      refine S.istore_n (pc' := 22) (LL' := [_, _, _, _]) dX12_number_21 rfl (by decide) rfl rfl rfl ?_
      refine S.aload_n (pc' := 23) dX12_number_22 rfl rfl rfl ?_
      refine S.callVw (pc' := 26) dX12_number_23 rfl cX12_136 (mt_step1 h21) rfl L_177 (by decide) rfl (Nat.le_of_ble_eq_true rfl) ?_
      refine S.iload_n (pc' := 27) dX12_number_26 rfl rfl rfl ?_
      refine S.iret dX12_number_27 rfl ?_
      exact ⟨rfl, rfl⟩
    · exfalso; omega
  cases r with
  | inl h =>
    refine fp_S.wI (hbr h hq) (fun z N q => ?_)
    obtain ⟨rfl, rfl⟩ := q
    exact ⟨frW.refl _, hq, rfl⟩
  | inr s =>
    obtain ⟨hs, hg, ho⟩ := hq
    have hx := nxt_le hs.2
    rcases ho with ho | ⟨hno, hb⟩
    · unfold nuR nuV
      simp only
      refine S.aload_n (pc' := 1) dX12_number_0 rfl rfl rfl ?_
      refine S.iload_n (pc' := 2) dX12_number_1 rfl rfl rfl ?_
      refine S.iload_n (pc' := 3) dX12_number_2 rfl rfl rfl ?_
      refine S.callVv (pc' := 6) dX12_number_3 rfl cX12_132 (mt_looks hs.2 hg ho hlo hhi) rfl L_177 (by decide) rfl (Nat.le_of_ble_eq_true rfl) (fun M3 q3 => ?_)
      rcases q3 with ⟨a1, rfl⟩ | ⟨a1, w, hw, rfl⟩
      · rw [if_pos a1, if_pos a1]
        exact mt_numA ht hm hs hg ho a1
      · rw [if_neg a1, if_neg a1]
        exact mt_numB hw
    · refine fp_S.wI (hbr _ hb) (fun z N q => ?_)
      obtain ⟨rfl, rfl⟩ := q
      unfold nuR nuV
      simp only
      rw [if_neg (fun q => hno q.1), if_neg (fun q => hno q.1)]
      exact ⟨frW.refl _, hb, rfl⟩
end MNU
