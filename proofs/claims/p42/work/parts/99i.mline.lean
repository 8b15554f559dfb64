-- joined by tools/merge.py: 99i.mline, 99j.mline, 99k.mrow, 99l.mtext, 99m.mtake, 99n.mtake, 99o.mbank, 99p.mchance, 99q.mchance, 99r.mchance
section
/-! WHAT LIES IN A LINE, told in a text: the reference -/
def itA (A : fp_Mem) (x n mk v hi : Int) : fp_Mem := fp_up (fp_up (fp_up (fp_up A 177 17 mk) 182 (10 + 9 * x).toNat (n + 1)) 182 (10 + 9 * x + (n + 1)).toNat v) 177 15 hi
def laI (M : fp_Mem) (x kd : Int) (L : List Int) (mk : Int) (A : fp_Mem) : Prop := ((∀ a, a ≠ 177 → a ≠ 182 → a ≠ 185 → A a = M a) ∧ ∀ j, j ≠ 15 → j ≠ 17 → A 177 j = M 177 j) ∧ A 185 = fp_upf (M 185) x.toNat kd ∧ A 177 17 = mk ∧ (A 182 (10 + 9 * x).toNat = (L.length : Int) ∧ (∀ i : Int, 0 ≤ i → i < (L.length : Int) → A 182 (10 + 9 * x + 1 + i).toNat = L.getD i.toNat 0) ∧ ∀ j : Nat, ((j : Int) < 10 + 9 * x ∨ 10 + 9 * x + 8 < (j : Int)) → A 182 j = M 182 j) ∧ (-1 ≤ A 177 15 ∧ A 177 15 ≤ 9) ∧ ∀ n, 0 ≤ n → (A 177 15 < n ↔ (M 177 15 < n ∧ ∀ t ∈ L, t < n))
theorem laI.T {M A : fp_Mem} {x kd mk : Int} {L tp : List Int} (h : laI M x kd L mk A) (hm : mtT M tp) : mtT A tp := ⟨by rw [h.1.2 19 (by decide) (by decide)]; exact hm.1, fun i i0 i1 => by rw [h.1.1 186 (by decide) (by decide) (by decide)]; exact hm.2 i i0 i1⟩
theorem la_step {M A : fp_Mem} {x kd mk mk' v : Int} {L : List Int} (h : laI M x kd L mk A) (hx : 0 ≤ x ∧ x < 3) (hv : 0 ≤ v ∧ v < 10) (hL : L.length < 8) : laI M x kd (L ++ [v]) mk' (itA A x (L.length : Int) mk' v (mx v (A 177 15))) := by
  obtain ⟨⟨h1, h2⟩, h3, h4, ⟨h5, h6, h7⟩, h8, h9⟩ := h
  have e2 : itA A x (L.length : Int) mk' v (mx v (A 177 15)) 182 = fp_upf (fp_upf (A 182) (10 + 9 * x).toNat ((L.length : Int) + 1)) (10 + 9 * x + ((L.length : Int) + 1)).toNat v := rfl
  refine ⟨⟨fun a a1 a2 a3 => ?_, fun j j1 j2 => ?_⟩, h3, rfl, ⟨?_, fun i i0 i1 => ?_, fun j hj => ?_⟩, ?_, fun n n0 => ?_⟩
  · unfold itA
    rw [fp_up_ne a1, fp_up_ne a2, fp_up_ne a2, fp_up_ne a1]; exact h1 a a1 a2 a3
  · unfold itA
    rw [fp_up_at, fp_upf_ne j1, fp_up_ne (by decide), fp_up_ne (by decide), fp_up_at, fp_upf_ne j2]; exact h2 j j1 j2
  · rw [e2, fp_upf_ne (by omega), List.length_append, List.length_singleton]
    simp [fp_upf]
  · rw [List.length_append, List.length_singleton] at i1
    rw [e2, fp_appD]
    by_cases e : i < (L.length : Int)
    · rw [if_pos (by omega), fp_upf_ne (by omega), fp_upf_ne (by omega)]; exact h6 i i0 e
    · rw [if_neg (by omega), if_pos (by omega), show (10 + 9 * x + 1 + i).toNat = (10 + 9 * x + ((L.length : Int) + 1)).toNat by omega]
      simp [fp_upf]
  · rw [e2, fp_upf_ne (by omega), fp_upf_ne (by omega)]; exact h7 j hj
  · show -1 ≤ mx v (A 177 15) ∧ mx v (A 177 15) ≤ 9
    unfold mx; split <;> omega
  · show mx v (A 177 15) < n ↔ _
    rw [mx_lt, h9 n n0]
    constructor
    · rintro ⟨a, b, c⟩
      refine ⟨b, fun t ht => ?_⟩
      rcases List.mem_append.mp ht with q | q
      · exact c t q
      · rw [List.mem_singleton] at q; subst q; exact a
    · rintro ⟨b, c⟩
      exact ⟨c v (List.mem_append.mpr (Or.inr (List.mem_singleton.mpr rfl))), b, fun t ht => c t (List.mem_append.mpr (Or.inl ht))⟩
def toL : Int ⊕ (Int × List Int × Int) → Int ⊕ Int
  | .inl h => .inl h
  | .inr q => .inr q.1
section MLI
variable {l : Launch} {G : fp_WG} {M N A : fp_Mem} {tp : List Int} {r r' : Int ⊕ Int} {D : pD} {o1 o2 : Option Value}
theorem ln_207 {P : fp_Mem → Prop} {x : Int} (a : aT tp A N r) (h12 : A 177 12 = x) (K : ∀ N', aT tp (fp_up A 177 12 (x + 1)) N' r → P N') : fp_S l G 3 kX12_readALine 207 [some (rV G 177), o1, o2] [] N (qV P) := by
  have e12 : N 177 12 = x := by rw [a.rd (by omega)]; exact h12
  refine S.aload_n (pc' := 208) dX12_readALine_207 rfl rfl rfl ?_
  refine S.dup (pc' := 209) dX12_readALine_208 rfl rfl ?_
  refine S.getI (pc' := 212) dX12_readALine_209 rfl fX12_146 L_177 ?_
  refine S.iconst (pc' := 213) dX12_readALine_212 rfl ?_
  refine S.iadd (pc' := 214) dX12_readALine_213 rfl ?_
  rw [e12]
  refine S.putI (pc' := 217) dX12_readALine_214 rfl fX12_146 L_177 ?_
  refine S.vret dX12_readALine_217 rfl ?_
  exact K _ (a.up (by omega))
theorem ln_60B {Q : fp_Q} {h : Int} (b : mtB N h) (K : fp_S l G 3 kX12_readALine 207 [some (rV G 177), o1, o2] [] N Q) : fp_S l G 3 kX12_readALine 60 [some (rV G 177), o1, o2] [] N Q := by
  have b1 := b.1
  refine S.aload_n (pc' := 61) dX12_readALine_60 rfl rfl rfl ?_
  refine S.getI (pc' := 64) dX12_readALine_61 rfl fX12_98 L_177 ?_
  refine S.if_ne (pc' := 67) (tgt := 207) dX12_readALine_64 (by decide) rfl (by unfold fp_rng; omega) (fun h64 => ?_) (fun h64 => ?_)
  · exact K
  · exfalso; omega
theorem ln_125B {Q : fp_Q} {h : Int} (b : mtB N h) (K : fp_S l G 3 kX12_readALine 207 [some (rV G 177), o1, o2] [] N Q) : fp_S l G 3 kX12_readALine 125 [some (rV G 177), o1, o2] [] N Q := by
  have b1 := b.1
  refine S.aload_n (pc' := 126) dX12_readALine_125 rfl rfl rfl ?_
  refine S.getI (pc' := 129) dX12_readALine_126 rfl fX12_98 L_177 ?_
  refine S.if_ne (pc' := 132) (tgt := 200) dX12_readALine_129 (by decide) rfl (by unfold fp_rng; omega) (fun h129 => ?_) (fun h129 => ?_)
  · refine S.aload_n (pc' := 201) dX12_readALine_200 rfl rfl rfl ?_
    refine S.callVw (pc' := 204) dX12_readALine_201 rfl cX12_136 (mt_step1 b1) rfl L_177 (by decide) rfl (Nat.le_of_ble_eq_true rfl) ?_
    refine S.goto (pc' := 60) dX12_readALine_204 (by decide) ?_
    exact ln_60B b K
  · exfalso; omega
theorem ln_98B {Q : fp_Q} {h : Int} (b : mtB N h) (K : fp_S l G 3 kX12_readALine 207 [some (rV G 177), o1, o2] [] N Q) : fp_S l G 3 kX12_readALine 98 [some (rV G 177), o1, o2] [] N Q := by
  have b1 := b.1
  refine S.aload_n (pc' := 99) dX12_readALine_98 rfl rfl rfl ?_
  refine S.getI (pc' := 102) dX12_readALine_99 rfl fX12_98 L_177 ?_
  refine S.if_ne (pc' := 105) (tgt := 125) dX12_readALine_102 (by decide) rfl (by unfold fp_rng; omega) (fun h102 => ?_) (fun h102 => ?_)
  · exact ln_125B b K
  · exfalso; omega
theorem ln_91B {Q : fp_Q} {h : Int} (b : mtB N h) (K : fp_S l G 3 kX12_readALine 207 [some (rV G 177), o1, o2] [] N Q) : fp_S l G 3 kX12_readALine 91 [some (rV G 177), o1, o2] [] N Q := by
  refine S.aload_n (pc' := 92) dX12_readALine_91 rfl rfl rfl ?_
  refine S.iconst (pc' := 93) dX12_readALine_92 rfl ?_
  refine S.bipush (pc' := 95) dX12_readALine_93 rfl (by decide) ?_
  refine S.callVw (pc' := 98) dX12_readALine_95 rfl cX12_132 (mt_looks1 b.1) rfl L_177 (by decide) rfl (Nat.le_of_ble_eq_true rfl) ?_
  exact ln_98B b K
theorem aT.no {s w : Int} (a : aT tp A N (.inr s)) (hw : 1 ≤ w ∧ w ≤ 6) : aT tp A (fp_up (fp_up N 177 21 w) 177 22 (tkS tp s)) (.inl (tkS tp s)) := ⟨sm_out a.1, ⟨hw, rfl⟩⟩
theorem ln_loop {x kd : Int} (ht : tpOk tp) (hm : mtT M tp) (hx : 0 ≤ x ∧ x < 3) (h12 : M 177 12 = x) : ∀ (k : Nat) (s : Int) (L : List Int) (mk : Int) (A N : fp_Mem), L.length + k = 9 → L.length ≤ 8 → aT tp A N (.inr s) → laI M x kd L mk A → (0 ≤ mk ∧ mk < 1024) →
    fp_S l G 3 kX12_readALine 60 [some (rV G 177), o1, some (iV (10 + 9 * x))] [] N (qV fun N' => ∃ A' r L' mk', aT tp (fp_up A' 177 12 (x + 1)) N' r ∧ laI M x kd L' mk' A' ∧ toL (pIt tp k s L mk) = stR tp r ∧ ∀ q, pIt tp k s L mk = .inr q → q.2 = (L', mk')) := by
  intro k
  induction k with
  | zero =>
    intro s L mk A N hk hk8 ha hI hmk
    exfalso
    omega
  | succ k ih =>
    intro s L mk A N hk hk8 ha hI hmk
    have e12 : A 177 12 = x := by rw [hI.1.2 12 (by decide) (by decide)]; exact h12
    obtain ⟨hs, hg, ho⟩ := ha.2
    have hkk := tkK_in tp (tkS tp s)
    rcases ho with ho | ⟨hno, hb⟩
    · obtain ⟨o21, ok, ov⟩ := ho
      by_cases h2 : tkK tp (tkS tp s) = 2
      · have hv := tkV_in (tkS_le hs.2).2 h2 ok
        have hv' : 0 ≤ num tp s ∧ num tp s ≤ 99 := hv
        have e26 := ov h2
        have e182 : N 182 = A 182 := ha.1.1 182 (by decide)
        have hlen : N 182 (10 + 9 * x).toNat = (L.length : Int) := by rw [e182]; exact hI.2.2.2.1.1
        have e17 : N 177 17 = mk := by rw [ha.rd (by omega)]; exact hI.2.2.1
        have e15 : N 177 15 = A 177 15 := ha.rd (by omega)
        have h15 := hI.2.2.2.2.1
        have hbad : ¬ itOk tp (tkS tp s) L mk → pIt tp (k + 1) s L mk = .inl (tkS tp s) := by
          intro q
          unfold pIt
          rw [if_neg (fun z => z ok), if_neg (by omega), if_neg q]
        have K207 : ∀ (O : fp_Mem), ¬ itOk tp (tkS tp s) L mk → aT tp A O (.inl (tkS tp s)) → fp_S l G 3 kX12_readALine 207 [some (rV G 177), o1, some (iV (10 + 9 * x))] [] O (qV fun N' => ∃ A' r L' mk', aT tp (fp_up A' 177 12 (x + 1)) N' r ∧ laI M x kd L' mk' A' ∧ toL (pIt tp (k + 1) s L mk) = stR tp r ∧ ∀ q, pIt tp (k + 1) s L mk = .inr q → q.2 = (L', mk')) := by
          intro O q a
          refine ln_207 a e12 (fun N' a' => ⟨A, _, L, mk, a', hI, by rw [hbad q]; rfl, fun z e => by rw [hbad q] at e; cases e⟩)
        by_cases h8 : L.length < 8
        · have hok : nmOk tp s 0 9 → ∀ O, O = N → fp_S l G 3 kX12_readALine 98 [some (rV G 177), o1, some (iV (10 + 9 * x))] [] O (qV fun N' => ∃ A' r L' mk', aT tp (fp_up A' 177 12 (x + 1)) N' r ∧ laI M x kd L' mk' A' ∧ toL (pIt tp (k + 1) s L mk) = stR tp r ∧ ∀ q, pIt tp (k + 1) s L mk = .inr q → q.2 = (L', mk')) := by
            intro hnm O eO
            subst eO
            have hv10 : num tp s ≤ 9 := hnm.2.2.2
            have hp2 : (0 : Int) ≤ 2 ^ (num tp s).toNat := Int.le_of_lt (Int.pow_pos (by decide))
            have hp3 : (2 : Int) ^ (num tp s).toNat < 2 ^ 10 := by
              have q : ∀ n : Nat, n < 10 → (2 : Int) ^ n < 2 ^ 10 := by decide +kernel
              exact q _ (by omega)
            have hdn : 0 ≤ mk / 2 ^ (num tp s).toNat := Int.ediv_nonneg hmk.1 hp2
            have hbit := fp_bitv (v := mk) (i := num tp s) hmk.1
            by_cases hbt : mk.toNat.testBit (num tp s).toNat = true
            · rw [if_pos hbt] at hbit
              have a := ha.no (w := 4) (by omega)
              refine S.aload_n (pc' := 99) dX12_readALine_98 rfl rfl rfl ?_
              refine S.getI (pc' := 102) dX12_readALine_99 rfl fX12_98 L_177 ?_
              rw [o21]
              refine S.if_ne (pc' := 105) (tgt := 125) dX12_readALine_102 (by decide) rfl (by unfold fp_rng; omega) (fun h102 => ?_) (fun h102 => ?_)
              · first
                | exact absurd rfl h102
                | exact absurd rfl h117
                | (rw [hg.1]; exact ln_125B a.2 (K207 _ (fun z => z.2.2.1 hbt) a))
              · refine S.aload_n (pc' := 106) dX12_readALine_105 rfl rfl rfl ?_
                refine S.getI (pc' := 109) dX12_readALine_106 rfl fX12_153 L_177 ?_
                refine S.aload_n (pc' := 110) dX12_readALine_109 rfl rfl rfl ?_
                refine S.getI (pc' := 113) dX12_readALine_110 rfl fX12_117 L_177 ?_
                rw [e17, e26]
                refine S.ishr (pc' := 114) dX12_readALine_113 rfl (fp_shrv (by omega) (by omega)) ?_
                refine S.iconst (pc' := 115) dX12_readALine_114 rfl ?_
                refine S.iand (pc' := 116) dX12_readALine_115 rfl (fp_iand hdn (by decide)) ?_
                rw [hbit]
                refine S.iconst (pc' := 117) dX12_readALine_116 rfl ?_
                refine S.icmp_ne (pc' := 120) (tgt := 125) dX12_readALine_117 (by decide) rfl (by unfold fp_rng; omega) (by unfold fp_rng; omega) (fun h117 => ?_) (fun h117 => ?_)
                · first
                  | exact absurd rfl h102
                  | exact absurd rfl h117
                  | (rw [hg.1]; exact ln_125B a.2 (K207 _ (fun z => z.2.2.1 hbt) a))
                · refine S.aload_n (pc' := 121) dX12_readALine_120 rfl rfl rfl ?_
                  refine S.iconst (pc' := 122) dX12_readALine_121 rfl ?_
                  refine S.callVw (pc' := 125) dX12_readALine_122 rfl cX12_128 (mt_fails0 o21) rfl L_177 (by decide) rfl (Nat.le_of_ble_eq_true rfl) ?_
                  first
                  | exact absurd rfl h102
                  | exact absurd rfl h117
                  | (rw [hg.1]; exact ln_125B a.2 (K207 _ (fun z => z.2.2.1 hbt) a))
            · rw [if_neg hbt] at hbit
              have hpit : pIt tp (k + 1) s L mk = pIt tp k (nxt tp s) (L ++ [num tp s]) (fp_or mk (2 ^ (num tp s).toNat)) := by
                rw [pIt, if_neg (fun z => z ok), if_neg (by omega), if_pos ⟨h2, by show num tp s < 10; omega, hbt, h8⟩]
              rw [hpit]
              have hI2 := la_step (mk' := fp_or mk (2 ^ (num tp s).toNat)) hI hx (show 0 ≤ num tp s ∧ num tp s < 10 by omega) h8
              have h200 : ∀ O2, aT tp (itA A x (L.length : Int) (fp_or mk (2 ^ (num tp s).toNat)) (num tp s) (mx (num tp s) (A 177 15))) O2 (.inr s) → mtO tp O2 s → fp_S l G 3 kX12_readALine 200 [some (rV G 177), o1, some (iV (10 + 9 * x))] [] O2 (qV fun N' => ∃ A' r L' mk', aT tp (fp_up A' 177 12 (x + 1)) N' r ∧ laI M x kd L' mk' A' ∧ toL (pIt tp k (nxt tp s) (L ++ [num tp s]) (fp_or mk (2 ^ (num tp s).toNat))) = stR tp r ∧ ∀ q, pIt tp k (nxt tp s) (L ++ [num tp s]) (fp_or mk (2 ^ (num tp s).toNat)) = .inr q → q.2 = (L', mk')) := by
                intro O2 a2 o2
                refine S.aload_n (pc' := 201) dX12_readALine_200 rfl rfl rfl ?_
                refine S.callVv (pc' := 204) dX12_readALine_201 rfl cX12_136 (mt_st ht a2 o2 (hI2.T hm)) rfl L_177 (by decide) rfl (Nat.le_of_ble_eq_true rfl) (fun M201 q201 => ?_)
                refine S.goto (pc' := 60) dX12_readALine_204 (by decide) ?_
                exact ih _ _ _ _ _ (by rw [List.length_append, List.length_singleton]; omega) (by rw [List.length_append, List.length_singleton]; omega) q201 hI2 ⟨fp_or_nn _ _, fp_or_lt (n := 10) hmk.2 hp3⟩
              have x1 : ∀ z, fp_up O 177 17 z 182 (10 + 9 * x).toNat = (L.length : Int) := fun z => hlen
              have x2 : ∀ z, fp_up (fp_up O 177 17 z) 182 (10 + 9 * x).toNat ((L.length : Int) + 1) 182 (10 + 9 * x).toNat = (L.length : Int) + 1 := fun z => by rw [fp_up_at]; simp [fp_upf]
              have x3 : ∀ z, fp_up (fp_up O 177 17 z) 182 (10 + 9 * x).toNat ((L.length : Int) + 1) 177 26 = num tp s := fun z => e26
              have x4 : ∀ z y, fp_up (fp_up (fp_up O 177 17 z) 182 (10 + 9 * x).toNat ((L.length : Int) + 1)) 182 (10 + 9 * x + ((L.length : Int) + 1)).toNat y 177 26 = num tp s := fun z y => e26
              have x5 : ∀ z y, fp_up (fp_up (fp_up O 177 17 z) 182 (10 + 9 * x).toNat ((L.length : Int) + 1)) 182 (10 + 9 * x + ((L.length : Int) + 1)).toNat y 177 15 = A 177 15 := fun z y => e15
              have a4 : ∀ z, aT tp (itA A x (L.length : Int) (fp_or mk (2 ^ (num tp s).toNat)) (num tp s) z) (fp_up (fp_up (fp_up (fp_up O 177 17 (fp_or mk (2 ^ (num tp s).toNat))) 182 (10 + 9 * x).toNat ((L.length : Int) + 1)) 182 (10 + 9 * x + ((L.length : Int) + 1)).toNat (num tp s)) 177 15 z) (.inr s) := fun z => (((ha.up (by omega)).up (by omega)).up (by omega)).up (by omega)
              have h125 : fp_S l G 3 kX12_readALine 125 [some (rV G 177), o1, some (iV (10 + 9 * x))] [] O (qV fun N' => ∃ A' r L' mk', aT tp (fp_up A' 177 12 (x + 1)) N' r ∧ laI M x kd L' mk' A' ∧ toL (pIt tp k (nxt tp s) (L ++ [num tp s]) (fp_or mk (2 ^ (num tp s).toNat))) = stR tp r ∧ ∀ q, pIt tp k (nxt tp s) (L ++ [num tp s]) (fp_or mk (2 ^ (num tp s).toNat)) = .inr q → q.2 = (L', mk')) := by
                refine S.aload_n (pc' := 126) dX12_readALine_125 rfl rfl rfl ?_
                refine S.getI (pc' := 129) dX12_readALine_126 rfl fX12_98 L_177 ?_
                rw [o21]
                refine S.if_ne (pc' := 132) (tgt := 200) dX12_readALine_129 (by decide) rfl (by unfold fp_rng; omega) (fun h129 => ?_) (fun h129 => ?_)
                · first
                  | exact absurd rfl h129
                  | exact h200 _ (by rw [show mx (num tp s) (A 177 15) = num tp s from if_pos (by omega)]; exact a4 _) ⟨o21, ok, ov⟩
                  | exact h200 _ (by rw [show mx (num tp s) (A 177 15) = A 177 15 from if_neg (by omega)]; exact a4 _) ⟨o21, ok, ov⟩
                · refine S.aload_n (pc' := 133) dX12_readALine_132 rfl rfl rfl ?_
                  refine S.dup (pc' := 134) dX12_readALine_133 rfl rfl ?_
                  refine S.getI (pc' := 137) dX12_readALine_134 rfl fX12_153 L_177 ?_
                  refine S.iconst (pc' := 138) dX12_readALine_137 rfl ?_
                  refine S.aload_n (pc' := 139) dX12_readALine_138 rfl rfl rfl ?_
                  refine S.getI (pc' := 142) dX12_readALine_139 rfl fX12_117 L_177 ?_
                  rw [e17, e26]
                  refine S.ishl (pc' := 143) dX12_readALine_142 rfl (fp_shl1 (by omega) (by omega)) ?_
                  refine S.ior (pc' := 144) dX12_readALine_143 rfl (fp_ior hmk.1 hp2) ?_
                  refine S.putI (pc' := 147) dX12_readALine_144 rfl fX12_153 L_177 ?_
                  refine S.aload_n (pc' := 148) dX12_readALine_147 rfl rfl rfl ?_
                  refine S.getR (pc' := 151) dX12_readALine_148 rfl fX12_26 L_177 rf_177_7 ?_
                  refine S.iload_n (pc' := 152) dX12_readALine_151 rfl rfl rfl ?_
                  refine S.dup2 (pc' := 153) dX12_readALine_152 rfl rfl rfl ?_
                  refine S.iald (pc' := 154) dX12_readALine_153 rfl L_182 (by omega) (by omega) ?_
                  rw [x1]
                  refine S.iconst (pc' := 155) dX12_readALine_154 rfl ?_
                  refine S.iadd (pc' := 156) dX12_readALine_155 rfl ?_
                  refine S.iast (pc' := 157) dX12_readALine_156 rfl L_182 (by omega) (by omega) ?_
                  refine S.aload_n (pc' := 158) dX12_readALine_157 rfl rfl rfl ?_
                  refine S.getR (pc' := 161) dX12_readALine_158 rfl fX12_26 L_177 rf_177_7 ?_
                  refine S.iload_n (pc' := 162) dX12_readALine_161 rfl rfl rfl ?_
                  refine S.aload_n (pc' := 163) dX12_readALine_162 rfl rfl rfl ?_
                  refine S.getR (pc' := 166) dX12_readALine_163 rfl fX12_26 L_177 rf_177_7 ?_
                  refine S.iload_n (pc' := 167) dX12_readALine_166 rfl rfl rfl ?_
                  refine S.iald (pc' := 168) dX12_readALine_167 rfl L_182 (by omega) (by omega) ?_
                  rw [x2]
                  refine S.iadd (pc' := 169) dX12_readALine_168 rfl ?_
                  refine S.aload_n (pc' := 170) dX12_readALine_169 rfl rfl rfl ?_
                  refine S.getI (pc' := 173) dX12_readALine_170 rfl fX12_117 L_177 ?_
                  rw [x3]
                  refine S.iast (pc' := 174) dX12_readALine_173 rfl L_182 (by omega) (by omega) ?_
                  refine S.aload_n (pc' := 175) dX12_readALine_174 rfl rfl rfl ?_
                  refine S.aload_n (pc' := 176) dX12_readALine_175 rfl rfl rfl ?_
                  refine S.getI (pc' := 179) dX12_readALine_176 rfl fX12_117 L_177 ?_
                  refine S.aload_n (pc' := 180) dX12_readALine_179 rfl rfl rfl ?_
                  refine S.getI (pc' := 183) dX12_readALine_180 rfl fX12_156 L_177 ?_
                  rw [x4, x5]
                  refine S.icmp_le (pc' := 186) (tgt := 193) dX12_readALine_183 (by decide) rfl (by unfold fp_rng; omega) (by unfold fp_rng; omega) (fun h183 => ?_) (fun h183 => ?_)
                  · refine S.aload_n (pc' := 194) dX12_readALine_193 rfl rfl rfl ?_
                    refine S.getI (pc' := 197) dX12_readALine_194 rfl fX12_156 L_177 ?_
                    first | rw [x4] | rw [x5]
                    refine S.putI (pc' := 200) dX12_readALine_197 rfl fX12_156 L_177 ?_
                    first
                    | exact absurd rfl h129
                    | exact h200 _ (by rw [show mx (num tp s) (A 177 15) = num tp s from if_pos (by omega)]; exact a4 _) ⟨o21, ok, ov⟩
                    | exact h200 _ (by rw [show mx (num tp s) (A 177 15) = A 177 15 from if_neg (by omega)]; exact a4 _) ⟨o21, ok, ov⟩
                  · refine S.aload_n (pc' := 187) dX12_readALine_186 rfl rfl rfl ?_
                    refine S.getI (pc' := 190) dX12_readALine_187 rfl fX12_117 L_177 ?_
                    refine S.goto (pc' := 197) dX12_readALine_190 (by decide) ?_
                    first | rw [x4] | rw [x5]
                    refine S.putI (pc' := 200) dX12_readALine_197 rfl fX12_156 L_177 ?_
                    first
                    | exact absurd rfl h129
                    | exact h200 _ (by rw [show mx (num tp s) (A 177 15) = num tp s from if_pos (by omega)]; exact a4 _) ⟨o21, ok, ov⟩
                    | exact h200 _ (by rw [show mx (num tp s) (A 177 15) = A 177 15 from if_neg (by omega)]; exact a4 _) ⟨o21, ok, ov⟩
              refine S.aload_n (pc' := 99) dX12_readALine_98 rfl rfl rfl ?_
              refine S.getI (pc' := 102) dX12_readALine_99 rfl fX12_98 L_177 ?_
              rw [o21]
              refine S.if_ne (pc' := 105) (tgt := 125) dX12_readALine_102 (by decide) rfl (by unfold fp_rng; omega) (fun h102 => ?_) (fun h102 => ?_)
              · first
                | exact absurd rfl h102
                | exact h125
              · refine S.aload_n (pc' := 106) dX12_readALine_105 rfl rfl rfl ?_
                refine S.getI (pc' := 109) dX12_readALine_106 rfl fX12_153 L_177 ?_
                refine S.aload_n (pc' := 110) dX12_readALine_109 rfl rfl rfl ?_
                refine S.getI (pc' := 113) dX12_readALine_110 rfl fX12_117 L_177 ?_
                rw [e17, e26]
                refine S.ishr (pc' := 114) dX12_readALine_113 rfl (fp_shrv (by omega) (by omega)) ?_
                refine S.iconst (pc' := 115) dX12_readALine_114 rfl ?_
                refine S.iand (pc' := 116) dX12_readALine_115 rfl (fp_iand hdn (by decide)) ?_
                rw [hbit]
                refine S.iconst (pc' := 117) dX12_readALine_116 rfl ?_
                refine S.icmp_ne (pc' := 120) (tgt := 125) dX12_readALine_117 (by decide) rfl (by unfold fp_rng; omega) (by unfold fp_rng; omega) (fun h117 => ?_) (fun h117 => ?_)
                · first
                  | exact absurd rfl h102
                  | exact h125
                · exact absurd h117 (by decide)
          have hno98 : ¬ nmOk tp s 0 9 → ∀ w, (1 ≤ w ∧ w ≤ 6) → fp_S l G 3 kX12_readALine 98 [some (rV G 177), o1, some (iV (10 + 9 * x))] [] (fp_up (fp_up N 177 21 w) 177 22 (tkS tp s)) (qV fun N' => ∃ A' r L' mk', aT tp (fp_up A' 177 12 (x + 1)) N' r ∧ laI M x kd L' mk' A' ∧ toL (pIt tp (k + 1) s L mk) = stR tp r ∧ ∀ q, pIt tp (k + 1) s L mk = .inr q → q.2 = (L', mk')) := by
            intro q w hw
            have a := ha.no hw
            exact ln_98B a.2 (K207 _ (fun z => q ⟨ok, h2, hv.1, by have := z.2.1; omega⟩) a)
          refine S.aload_n (pc' := 61) dX12_readALine_60 rfl rfl rfl ?_
          refine S.getI (pc' := 64) dX12_readALine_61 rfl fX12_98 L_177 ?_
          rw [o21]
          refine S.if_ne (pc' := 67) (tgt := 207) dX12_readALine_64 (by decide) rfl (by unfold fp_rng; omega) (fun h64 => ?_) (fun h64 => ?_)
          · first | exact absurd rfl h64 | exact absurd rfl h72
          · refine S.aload_n (pc' := 68) dX12_readALine_67 rfl rfl rfl ?_
            refine S.getI (pc' := 71) dX12_readALine_68 rfl fX12_107 L_177 ?_
            refine S.iconst (pc' := 72) dX12_readALine_71 rfl ?_
            rw [hg.2.2, h2]
            refine S.icmp_ne (pc' := 75) (tgt := 207) dX12_readALine_72 (by decide) rfl (by unfold fp_rng; omega) (by unfold fp_rng; omega) (fun h72 => ?_) (fun h72 => ?_)
            · first | exact absurd rfl h64 | exact absurd rfl h72
            · refine S.aload_n (pc' := 76) dX12_readALine_75 rfl rfl rfl ?_
              refine S.getR (pc' := 79) dX12_readALine_76 rfl fX12_26 L_177 rf_177_7 ?_
              refine S.iload_n (pc' := 80) dX12_readALine_79 rfl rfl rfl ?_
              refine S.iald (pc' := 81) dX12_readALine_80 rfl L_182 (by omega) (by omega) ?_
              refine S.bipush (pc' := 83) dX12_readALine_81 rfl (by decide) ?_
              rw [hlen]
              refine S.icmp_ne (pc' := 86) (tgt := 91) dX12_readALine_83 (by decide) rfl (by unfold fp_rng; omega) (by unfold fp_rng; omega) (fun h83 => ?_) (fun h83 => ?_)
              · refine S.aload_n (pc' := 92) dX12_readALine_91 rfl rfl rfl ?_
                refine S.iconst (pc' := 93) dX12_readALine_92 rfl ?_
                refine S.bipush (pc' := 95) dX12_readALine_93 rfl (by decide) ?_
                refine S.callVv (pc' := 98) dX12_readALine_95 rfl cX12_132 (mt_looks hs.2 hg ⟨o21, ok, ov⟩ (by unfold fp_rng; omega) (by unfold fp_rng; omega)) rfl L_177 (by decide) rfl (Nat.le_of_ble_eq_true rfl) (fun M95 q95 => ?_)
                rcases q95 with ⟨q, e⟩ | ⟨q, w, hw, rfl⟩
                · exact hok q _ e
                · exact hno98 q w hw
              · exfalso; omega
        · have a := ha.no (w := 5) (by omega)
          refine S.aload_n (pc' := 61) dX12_readALine_60 rfl rfl rfl ?_
          refine S.getI (pc' := 64) dX12_readALine_61 rfl fX12_98 L_177 ?_
          rw [o21]
          refine S.if_ne (pc' := 67) (tgt := 207) dX12_readALine_64 (by decide) rfl (by unfold fp_rng; omega) (fun h64 => ?_) (fun h64 => ?_)
          · first | exact absurd rfl h64 | exact absurd rfl h72
          · refine S.aload_n (pc' := 68) dX12_readALine_67 rfl rfl rfl ?_
            refine S.getI (pc' := 71) dX12_readALine_68 rfl fX12_107 L_177 ?_
            refine S.iconst (pc' := 72) dX12_readALine_71 rfl ?_
            rw [hg.2.2, h2]
            refine S.icmp_ne (pc' := 75) (tgt := 207) dX12_readALine_72 (by decide) rfl (by unfold fp_rng; omega) (by unfold fp_rng; omega) (fun h72 => ?_) (fun h72 => ?_)
            · first | exact absurd rfl h64 | exact absurd rfl h72
            · refine S.aload_n (pc' := 76) dX12_readALine_75 rfl rfl rfl ?_
              refine S.getR (pc' := 79) dX12_readALine_76 rfl fX12_26 L_177 rf_177_7 ?_
              refine S.iload_n (pc' := 80) dX12_readALine_79 rfl rfl rfl ?_
              refine S.iald (pc' := 81) dX12_readALine_80 rfl L_182 (by omega) (by omega) ?_
              refine S.bipush (pc' := 83) dX12_readALine_81 rfl (by decide) ?_
              rw [hlen]
              refine S.icmp_ne (pc' := 86) (tgt := 91) dX12_readALine_83 (by decide) rfl (by unfold fp_rng; omega) (by unfold fp_rng; omega) (fun h83 => ?_) (fun h83 => ?_)
              · first
                | (exfalso; omega)
                | (rw [hg.1]; exact ln_91B a.2 (K207 _ (fun z => h8 z.2.2.2) a))
              · refine S.aload_n (pc' := 87) dX12_readALine_86 rfl rfl rfl ?_
                refine S.iconst (pc' := 88) dX12_readALine_87 rfl ?_
                refine S.callVw (pc' := 91) dX12_readALine_88 rfl cX12_128 (mt_fails0 o21) rfl L_177 (by decide) rfl (Nat.le_of_ble_eq_true rfl) ?_
                first
                | (exfalso; omega)
                | (rw [hg.1]; exact ln_91B a.2 (K207 _ (fun z => h8 z.2.2.2) a))
      · have hend : toL (pIt tp (k + 1) s L mk) = stR tp (.inr s) ∧ ∀ q, pIt tp (k + 1) s L mk = .inr q → q.2 = (L, mk) := by
          unfold pIt stR
          simp only
          rw [if_neg (fun z => z ok)]
          by_cases h3 : tkK tp (tkS tp s) = 3
          · rw [if_pos h3, if_pos ⟨ok, h3⟩]
            exact ⟨rfl, fun q e => by cases e; rfl⟩
          · rw [if_neg h3, if_neg (fun q : itOk tp (tkS tp s) L mk => h2 q.1), if_neg (fun q : spOk tp s => h3 q.2)]
            exact ⟨rfl, fun q e => by cases e⟩
        refine S.aload_n (pc' := 61) dX12_readALine_60 rfl rfl rfl ?_
        refine S.getI (pc' := 64) dX12_readALine_61 rfl fX12_98 L_177 ?_
        rw [o21]
        refine S.if_ne (pc' := 67) (tgt := 207) dX12_readALine_64 (by decide) rfl (by unfold fp_rng; omega) (fun h64 => ?_) (fun h64 => ?_)
        · first
          | exact absurd rfl h64
          | exact ln_207 ha e12 (fun N' a' => ⟨A, _, L, mk, a', hI, hend.1, hend.2⟩)
        · refine S.aload_n (pc' := 68) dX12_readALine_67 rfl rfl rfl ?_
          refine S.getI (pc' := 71) dX12_readALine_68 rfl fX12_107 L_177 ?_
          refine S.iconst (pc' := 72) dX12_readALine_71 rfl ?_
          rw [hg.2.2]
          refine S.icmp_ne (pc' := 75) (tgt := 207) dX12_readALine_72 (by decide) rfl (by unfold fp_rng; omega) (by unfold fp_rng; omega) (fun h72 => ?_) (fun h72 => ?_)
          · first
            | exact absurd rfl h64
            | exact ln_207 ha e12 (fun N' a' => ⟨A, _, L, mk, a', hI, hend.1, hend.2⟩)
          · exfalso; omega
    · have hend : toL (pIt tp (k + 1) s L mk) = stR tp (.inr s) ∧ ∀ q, pIt tp (k + 1) s L mk = .inr q → q.2 = (L, mk) := by
        unfold pIt stR
        simp only
        rw [if_pos hno, if_neg (fun q => hno q.1)]
        exact ⟨rfl, fun q e => by cases e⟩
      exact ln_60B hb (ln_207 ha e12 (fun N' a' => ⟨A, _, L, mk, a', hI, hend.1, hend.2⟩))
end MLI
end
section
/-! A LINE TOLD IN A TEXT: the reference -/
theorem fp_wd_ne : ∀ i, i < 8 → ∀ j, j < 8 → i = j ∨ (fp_wd i).length ≠ (fp_wd j).length ∨ ∃ k, k < (fp_wd i).length ∧ (fp_wd i).getD k 0 ≠ (fp_wd j).getD k 0 := by decide +kernel
theorem nm_uniq {tp : List Int} {h : Int} {i j : Nat} (i8 : i < 8) (j8 : j < 8) (hi : nmW tp h i = true) (hj : nmW tp h j = true) : i = j := by
  unfold nmW at hi hj
  simp only [Bool.and_eq_true, wdB_iff] at hi hj
  obtain ⟨_, a1, a2⟩ := hi
  obtain ⟨_, b1, b2⟩ := hj
  rcases fp_wd_ne i i8 j j8 with e | e | ⟨k, k0, k1⟩
  · exact e
  · exfalso; omega
  · exfalso
    have p := a2 (k : Int) (by omega) (by omega)
    have q := b2 (k : Int) (by omega) (by omega)
    rw [Int.toNat_natCast] at p q
    exact k1 (p.symm.trans q)
theorem nmF_spec {tp : List Int} {h : Int} : ∀ r i, (nmF tp h r i = -4 ∧ ∀ j, i ≤ j → j < i + r → nmW tp h j = false) ∨ ∃ j, (i ≤ j ∧ j < i + r) ∧ nmF tp h r i = (j : Int) ∧ nmW tp h j = true
  | 0, i => Or.inl ⟨rfl, fun j a b => by omega⟩
  | r + 1, i => by
    unfold nmF
    by_cases e : nmW tp h i = true
    · rw [if_pos e]; exact Or.inr ⟨i, by omega, rfl, e⟩
    · rw [if_neg e]
      rcases nmF_spec (tp := tp) (h := h) r (i + 1) with ⟨a, b⟩ | ⟨j, a, b, c⟩
      · refine Or.inl ⟨a, fun j j0 j1 => ?_⟩
        by_cases ej : j = i
        · subst ej; simpa using e
        · exact b j (by omega) (by omega)
      · exact Or.inr ⟨j, by omega, b, c⟩
theorem aKd_nm (tp : List Int) (h : Int) : aKd tp h = if nmF tp h 8 0 - 5 < 0 then -4 else nmF tp h 8 0 - 5 := by
  unfold aKd
  rcases nmF_spec (tp := tp) (h := h) 8 0 with ⟨a, b⟩ | ⟨j, a, b, c⟩
  · rw [a, b 5 (by omega) (by omega), b 6 (by omega) (by omega), b 7 (by omega) (by omega)]
    rfl
  · rw [b]
    have hu : ∀ i, i < 8 → i ≠ j → ¬ nmW tp h i = true := fun i i8 ne q => ne (nm_uniq i8 (by omega) q c)
    by_cases j4 : j ≤ 4
    · rw [if_neg (hu 5 (by omega) (by omega)), if_neg (hu 6 (by omega) (by omega)), if_neg (hu 7 (by omega) (by omega)), if_pos (by omega)]
    · rw [if_neg (show ¬ ((j : Int) - 5 < 0) by omega)]
      rcases (show j = 5 ∨ j = 6 ∨ j = 7 by omega) with rfl | rfl | rfl
      · rw [if_pos c]; rfl
      · rw [if_neg (hu 5 (by omega) (by omega)), if_pos c]; rfl
      · rw [if_neg (hu 5 (by omega) (by omega)), if_neg (hu 6 (by omega) (by omega)), if_pos c]; rfl
theorem nm_ok {tp : List Int} {h : Int} (hn : h ≤ (tp.length : Int)) (hk : ¬ nmF tp h 8 0 = -4) : tkOk tp h := by
  have h1 : tkK tp h = 1 := by
    by_cases e : tkK tp h = 1
    · exact e
    · exact absurd (nmF_no e 8 0) hk
  unfold tkK at h1
  by_cases e1 : (tp.length : Int) ≤ h
  · exact Or.inl e1
  · rw [if_neg e1] at h1
    by_cases e2 : isLe (aBy tp h) = true
    · exact Or.inr (Or.inl e2)
    · rw [if_neg e2] at h1
      split at h1 <;> omega
theorem la_D {M A : fp_Mem} {D : pD} {x kd mk : Int} {L : List Int} (h : laI M x kd L mk A) (hd : mrD M D) (hD : dOk D) (hx : x = D.1.2.1) (x3 : x < 3) : mrD (fp_up A 177 12 (x + 1)) (pLn D kd L mk) := by
  obtain ⟨⟨h1, h2⟩, h3, h4, ⟨h5, h6, h7⟩, h8, h9⟩ := h
  obtain ⟨⟨g1, g2, g3, g4, g5, g6⟩, d2, d3, d4, d5, d6, d7⟩ := hd
  have hg := hD.1.1
  have hg2 := hD.1.2.1
  have hnil : D.2.2.1 x = [] := (hD.2.2.1 x (by omega) x3).2.2.1 (by omega)
  have e3 : fp_up A 177 12 (x + 1) 183 = M 183 := h1 183 (by decide) (by decide) (by decide)
  have e4 : fp_up A 177 12 (x + 1) 184 = M 184 := h1 184 (by decide) (by decide) (by decide)
  have e5 : fp_up A 177 12 (x + 1) 185 = fp_upf (M 185) x.toNat kd := h3
  have e2 : fp_up A 177 12 (x + 1) 182 = A 182 := rfl
  have hf : ∀ j, j ≠ 12 → j ≠ 15 → j ≠ 17 → fp_up A 177 12 (x + 1) 177 j = M 177 j := fun j j1 j2 j3 => by rw [fp_up_at, fp_upf_ne j1]; exact h2 j j2 j3
  refine ⟨⟨by rw [hf 11 (by decide) (by decide) (by decide)]; exact g1, by show x + 1 = D.1.2.1 + 1; rw [hx], by rw [hf 13 (by decide) (by decide) (by decide)]; exact g3, by rw [e3]; exact g4, by rw [e4]; exact g5, fun y y0 y1 => ?_⟩, ⟨fun u u0 u1 => ?_, fun y y0 y1 => ?_⟩, ⟨?_, d3.2.1, fun i i0 i1 => ?_⟩, h4, by rw [hf 14 (by decide) (by decide) (by decide)]; exact d5, ?_, ?_⟩
  · have y2 : y < D.1.2.1 + 1 := y1
    show _ = (if y = D.1.2.1 then kd else D.1.2.2.2.2.2 y)
    rw [e5]
    by_cases e : y = D.1.2.1
    · rw [if_pos e, e, ← hx]; simp [fp_upf]
    · rw [if_neg e, fp_upf_ne (by omega)]; exact g6 y y0 (by omega)
  · have u2 : u < D.1.1 := u1
    rw [e2, h7 _ (by omega)]; exact d2.1 u u0 u1
  · show _ = (((if y = D.1.2.1 then L else D.2.2.1 y).length : Nat) : Int) ∧ ∀ i : Int, 0 ≤ i → i < (((if y = D.1.2.1 then L else D.2.2.1 y).length : Nat) : Int) → _ = (if y = D.1.2.1 then L else D.2.2.1 y).getD i.toNat 0
    by_cases e : y = D.1.2.1
    · rw [if_pos e, e, ← hx, e2]; exact ⟨h5, h6⟩
    · rw [if_neg e, e2]
      obtain ⟨p1, p2⟩ := d2.2 y y0 y1
      have hlen := (hD.2.2.1 y y0 y1).1
      refine ⟨by rw [h7 _ (by omega)]; exact p1, fun i i0 i1 => ?_⟩
      rw [h7 _ (by omega)]; exact p2 i i0 i1
  · rw [e2, h7 _ (by omega)]; exact d3.1
  · rw [e2, h7 _ (by omega), h7 _ (by omega), h7 _ (by omega), h7 _ (by omega)]
    exact d3.2.2 i i0 i1
  · rw [e2, h7 _ (by omega)]; exact d6
  · obtain ⟨k1, k2, k3, k4⟩ := d7
    rw [hf 16 (by decide) (by decide) (by decide)]
    show mrH (A 177 15) (M 177 16) (fun y => if y = D.1.2.1 then L else D.2.2.1 y) D.2.2.2.2.2
    refine ⟨h8, k2, fun n n0 => ?_, k4⟩
    rw [h9 n n0, k3 n n0]
    constructor
    · rintro ⟨⟨a, b⟩, c⟩
      refine ⟨fun y t y0 y1 ht => ?_, b⟩
      by_cases e : y = D.1.2.1
      · simp only [if_pos e] at ht; exact c t ht
      · simp only [if_neg e] at ht; exact a y t y0 y1 ht
    · rintro ⟨a, b⟩
      refine ⟨⟨fun y t y0 y1 ht => ?_, b⟩, fun t ht => ?_⟩
      · by_cases e : y = D.1.2.1
        · rw [e, ← hx, hnil] at ht; exact (List.not_mem_nil ht).elim
        · exact a y t y0 y1 (by simp only [if_neg e]; exact ht)
      · exact a x t (by omega) x3 (by simp only [if_pos hx]; exact ht)
section MLJ
variable {l : Launch} {G : fp_WG} {M N A : fp_Mem} {tp : List Int} {r r' : Int ⊕ Int} {D : pD} {o1 o2 : Option Value}
theorem frW.K (h : frW M N) (hm : msK M) : msK N := h.Q.K hm
theorem rk_X12_readALine {s : Int} (ht : tpOk tp) (hm : mtT M tp) (hK : msK M) (hq : mq tp M (.inr s)) (ho : mtO tp M s) (hi : mrI M) (hd : mrD M D) (hD : dOk D) : fp_Ok l G 3 kX12_readALine [rV G 177] M (qV fun N => rlP tp M N (pLine tp (tkS tp s) (nxt tp s) D)) := by
  have h12 : M 177 12 = D.1.2.1 := hd.1.2.1
  have hg := hD.1.2.1
  refine fp_Ok.of (r := 2) rfl (Nat.le_of_ble_eq_true rfl) rfl ?_
  by_cases hl : 3 ≤ D.1.2.1
  · have hpn : pLine tp (tkS tp s) (nxt tp s) D = .inl (tkS tp s) := by unfold pLine; rw [if_pos hl]
    refine S.aload_n (pc' := 1) dX12_readALine_0 rfl rfl rfl ?_
    refine S.getI (pc' := 4) dX12_readALine_1 rfl fX12_146 L_177 ?_
    refine S.iconst (pc' := 5) dX12_readALine_4 rfl ?_
    rw [h12]
    refine S.icmp_ne (pc' := 8) (tgt := 14) dX12_readALine_5 (by decide) rfl (by unfold fp_rng; omega) (by unfold fp_rng; omega) (fun h5 => ?_) (fun h5 => ?_)
    · exfalso; omega
    · refine S.aload_n (pc' := 9) dX12_readALine_8 rfl rfl rfl ?_
      refine S.iconst (pc' := 10) dX12_readALine_9 rfl ?_
      refine S.callVw (pc' := 13) dX12_readALine_10 rfl cX12_128 (mt_fails0 ho.1) rfl L_177 (by decide) rfl (Nat.le_of_ble_eq_true rfl) ?_
      refine S.vret dX12_readALine_13 rfl ?_
      exact rl_no hi hq.2.1 (by omega) hpn
  · have hx := nxt_le hq.1.2
    have hs0 := hq.1.1
    have htk := tkS_le hx.2
    have a0 : aT tp M M (.inr s) := ⟨frW.refl _, hq⟩
    have hin := nmF_in (tp := tp) (h := tkS tp (nxt tp s)) 8 0
    have hkd := aKd_nm tp (tkS tp (nxt tp s))
    by_cases hneg : nmF tp (tkS tp (nxt tp s)) 8 0 - 5 < 0
    · rw [if_pos hneg] at hkd
      have hpn : pLine tp (tkS tp s) (nxt tp s) D = .inl (tkS tp (nxt tp s)) := by
        unfold pLine
        rw [if_neg hl]
        by_cases e : tkOk tp (tkS tp (nxt tp s))
        · rw [if_neg (fun z => z e), if_pos hkd]
        · rw [if_pos e]
      have hbr : ∀ O : fp_Mem, frW M O → mtB O (tkS tp (nxt tp s)) → rlP tp M O (pLine tp (tkS tp s) (nxt tp s) D) := fun O f b => ⟨f.Q, f.I hi, .inl _, b, by rw [hpn]; rfl, fun q e => by rw [hpn] at e; cases e⟩
      have h29 : ∀ (O : fp_Mem) (o1 o2 : Option Value), aT tp M O (.inr (nxt tp s)) → fp_S l G 3 kX12_readALine 29 [some (rV G 177), o1, o2] [] O (qV fun N => rlP tp M N (pLine tp (tkS tp s) (nxt tp s) D)) := by
        intro O o1 o2 a
        rcases a.2.2.2 with o | ⟨hno, hb⟩
        · have an := a.no (w := 2) (by omega)
          refine S.aload_n (pc' := 30) dX12_readALine_29 rfl rfl rfl ?_
          refine S.iconst (pc' := 31) dX12_readALine_30 rfl ?_
          refine S.callVw (pc' := 34) dX12_readALine_31 rfl cX12_128 (mt_fails0 o.1) rfl L_177 (by decide) rfl (Nat.le_of_ble_eq_true rfl) ?_
          refine S.vret dX12_readALine_34 rfl ?_
          rw [a.2.2.1.1]
          exact hbr _ an.1 an.2
        · refine S.aload_n (pc' := 30) dX12_readALine_29 rfl rfl rfl ?_
          refine S.iconst (pc' := 31) dX12_readALine_30 rfl ?_
          refine S.callVw (pc' := 34) dX12_readALine_31 rfl cX12_128 (mt_fails1 hb.1) rfl L_177 (by decide) rfl (Nat.le_of_ble_eq_true rfl) ?_
          refine S.vret dX12_readALine_34 rfl ?_
          exact hbr _ a.1 hb
      refine S.aload_n (pc' := 1) dX12_readALine_0 rfl rfl rfl ?_
      refine S.getI (pc' := 4) dX12_readALine_1 rfl fX12_146 L_177 ?_
      refine S.iconst (pc' := 5) dX12_readALine_4 rfl ?_
      rw [h12]
      refine S.icmp_ne (pc' := 8) (tgt := 14) dX12_readALine_5 (by decide) rfl (by unfold fp_rng; omega) (by unfold fp_rng; omega) (fun h5 => ?_) (fun h5 => ?_)
      · refine S.aload_n (pc' := 15) dX12_readALine_14 rfl rfl rfl ?_
        refine S.callVv (pc' := 18) dX12_readALine_15 rfl cX12_136 (mt_st ht a0 ho hm) rfl L_177 (by decide) rfl (Nat.le_of_ble_eq_true rfl) (fun M15 q15 => ?_)
        refine S.aload_n (pc' := 19) dX12_readALine_18 rfl rfl rfl ?_
        refine S.callVe (pc' := 22) dX12_readALine_19 rfl cX12_149 (mt_name ht (q15.1.T hm) (q15.1.K hK) q15.2.2.1.1 q15.2.2.1.2.1 q15.2.2.1.2.2 (by omega) htk.2) rfl L_177 (by decide) rfl (Nat.le_of_ble_eq_true rfl) ?_
        refine S.iconst (pc' := 23) dX12_readALine_22 rfl ?_
        refine S.isub (pc' := 24) dX12_readALine_23 rfl ?_
        refine S.istore_n (pc' := 25) (LL' := [_, _, _]) dX12_readALine_24 rfl (by decide) rfl rfl rfl ?_
        refine S.iload_n (pc' := 26) dX12_readALine_25 rfl rfl rfl ?_
        refine S.if_ge (pc' := 29) (tgt := 35) dX12_readALine_26 (by decide) rfl (by unfold fp_rng; omega) (fun h26 => ?_) (fun h26 => ?_)
        · exfalso; omega
        · exact h29 _ _ _ q15
      · exfalso; omega
    · rw [if_neg hneg] at hkd
      have hok := nm_ok htk.2 (by omega)
      have hkm : nmF tp (tkS tp (nxt tp s)) 8 0 - 5 ≤ 2 := by omega
      have hpl : pLine tp (tkS tp s) (nxt tp s) D = match pIt tp 9 (nxt tp (nxt tp s)) [] D.2.2.2.1 with
          | .inl h => .inl h
          | .inr q => .inr (q.1, pLn D (nmF tp (tkS tp (nxt tp s)) 8 0 - 5) q.2.1 q.2.2) := by
        unfold pLine
        rw [if_neg hl, if_neg (fun z => z hok), if_neg (by omega), hkd]
        cases pIt tp 9 (nxt tp (nxt tp s)) [] D.2.2.2.1 <;> rfl
      generalize hkk : nmF tp (tkS tp (nxt tp s)) 8 0 - 5 = kd at *
      have hnil : D.2.2.1 D.1.2.1 = [] := (hD.2.2.1 D.1.2.1 (by omega) (by omega)).2.2.1 (by omega)
      have hla : laI M D.1.2.1 kd [] D.2.2.2.1 (fp_up M 185 D.1.2.1.toNat kd) := by
        refine ⟨⟨fun a a1 a2 a3 => by rw [fp_up_ne a3], fun j j1 j2 => rfl⟩, rfl, hd.2.2.2.1, ⟨?_, fun i i0 i1 => ?_, fun j hj => rfl⟩, hd.2.2.2.2.2.2.1, fun n n0 => ⟨fun q => ⟨q, fun t ht => (List.not_mem_nil ht).elim⟩, fun q => q.1⟩⟩
        · have := (hd.2.1.2 D.1.2.1 (by omega) (by omega)).1
          rw [hnil] at this
          exact this
        · exact absurd i1 (by simp; omega)
      have hend : ∀ N', (∃ A' r L' mk', aT tp (fp_up A' 177 12 (D.1.2.1 + 1)) N' r ∧ laI M D.1.2.1 kd L' mk' A' ∧ toL (pIt tp 9 (nxt tp (nxt tp s)) [] D.2.2.2.1) = stR tp r ∧ ∀ q, pIt tp 9 (nxt tp (nxt tp s)) [] D.2.2.2.1 = .inr q → q.2 = (L', mk')) → rlP tp M N' (pLine tp (tkS tp s) (nxt tp s) D) := by
        rintro N' ⟨A', r, L', mk', a, hI, e1, e2⟩
        have hQ : frQ M (fp_up A' 177 12 (D.1.2.1 + 1)) := frQ.up ⟨fun c hc => hI.1.1 c (by omega) (by omega) (by omega), fun j hj => hI.1.2 j (by omega) (by omega)⟩ (by omega)
        have hII : mrI (fp_up A' 177 12 (D.1.2.1 + 1)) := by
          obtain ⟨i1, i2, i3⟩ := hi
          refine ⟨fun i i0 i4 => ?_, fun i i0 i4 => ?_, fun y y0 y1 => ?_⟩
          · rw [fp_up_ne (by decide), hI.1.1 183 (by decide) (by decide) (by decide)]; exact i1 i i0 i4
          · rw [fp_up_ne (by decide), hI.1.1 184 (by decide) (by decide) (by decide)]; exact i2 i i0 i4
          · rw [fp_up_ne (by decide), hI.2.1]
            unfold fp_upf
            split
            · omega
            · exact i3 y y0 y1
        refine ⟨hQ.trans a.1.Q, a.1.I hII, r, a.2, ?_, fun q e => ?_⟩
        · rw [← e1, hpl]
          cases pIt tp 9 (nxt tp (nxt tp s)) [] D.2.2.2.1 <;> rfl
        · rw [hpl] at e
          cases hP : pIt tp 9 (nxt tp (nxt tp s)) [] D.2.2.2.1 with
          | inl h => rw [hP] at e; cases e
          | inr p =>
            rw [hP] at e
            have := e2 p hP
            cases e
            rw [show p.2.1 = L' by rw [this], show p.2.2 = mk' by rw [this]]
            exact a.1.D (la_D hI hd hD rfl (by omega))
      refine S.aload_n (pc' := 1) dX12_readALine_0 rfl rfl rfl ?_
      refine S.getI (pc' := 4) dX12_readALine_1 rfl fX12_146 L_177 ?_
      refine S.iconst (pc' := 5) dX12_readALine_4 rfl ?_
      rw [h12]
      refine S.icmp_ne (pc' := 8) (tgt := 14) dX12_readALine_5 (by decide) rfl (by unfold fp_rng; omega) (by unfold fp_rng; omega) (fun h5 => ?_) (fun h5 => ?_)
      · refine S.aload_n (pc' := 15) dX12_readALine_14 rfl rfl rfl ?_
        refine S.callVv (pc' := 18) dX12_readALine_15 rfl cX12_136 (mt_st ht a0 ho hm) rfl L_177 (by decide) rfl (Nat.le_of_ble_eq_true rfl) (fun M15 q15 => ?_)
        refine S.aload_n (pc' := 19) dX12_readALine_18 rfl rfl rfl ?_
        refine S.callVe (pc' := 22) dX12_readALine_19 rfl cX12_149 (mt_name ht (q15.1.T hm) (q15.1.K hK) q15.2.2.1.1 q15.2.2.1.2.1 q15.2.2.1.2.2 (by omega) htk.2) rfl L_177 (by decide) rfl (Nat.le_of_ble_eq_true rfl) ?_
        refine S.iconst (pc' := 23) dX12_readALine_22 rfl ?_
        refine S.isub (pc' := 24) dX12_readALine_23 rfl ?_
        rw [hkk]
        refine S.istore_n (pc' := 25) (LL' := [_, _, _]) dX12_readALine_24 rfl (by decide) rfl rfl rfl ?_
        refine S.iload_n (pc' := 26) dX12_readALine_25 rfl rfl rfl ?_
        refine S.if_ge (pc' := 29) (tgt := 35) dX12_readALine_26 (by decide) rfl (by unfold fp_rng; omega) (fun h26 => ?_) (fun h26 => ?_)
        · have ho2 : mtO tp M15 (nxt tp s) := by
            rcases q15.2.2.2 with o | ⟨hno, _⟩
            · exact o
            · exact absurd hok hno
          refine S.aload_n (pc' := 36) dX12_readALine_35 rfl rfl rfl ?_
          refine S.callVv (pc' := 39) dX12_readALine_36 rfl cX12_136 (mt_st ht q15 ho2 hm) rfl L_177 (by decide) rfl (Nat.le_of_ble_eq_true rfl) (fun M36 q36 => ?_)
          refine S.aload_n (pc' := 40) dX12_readALine_39 rfl rfl rfl ?_
          refine S.getR (pc' := 43) dX12_readALine_40 rfl fX12_35 L_177 rf_177_10 ?_
          refine S.aload_n (pc' := 44) dX12_readALine_43 rfl rfl rfl ?_
          refine S.getI (pc' := 47) dX12_readALine_44 rfl fX12_146 L_177 ?_
          rw [show M36 177 12 = D.1.2.1 by rw [q36.rd (by omega)]; exact h12]
          refine S.iload_n (pc' := 48) dX12_readALine_47 rfl rfl rfl ?_
          refine S.iast (pc' := 49) dX12_readALine_48 rfl L_185 (by omega) (by omega) ?_
          refine S.bipush (pc' := 51) dX12_readALine_49 rfl (by decide) ?_
          refine S.bipush (pc' := 53) dX12_readALine_51 rfl (by decide) ?_
          refine S.aload_n (pc' := 54) dX12_readALine_53 rfl rfl rfl ?_
          refine S.getI (pc' := 57) dX12_readALine_54 rfl fX12_146 L_177 ?_
          rw [show fp_up M36 185 D.1.2.1.toNat kd 177 12 = D.1.2.1 by rw [fp_up_ne (by decide), q36.rd (by omega)]; exact h12]
          refine S.imul (pc' := 58) dX12_readALine_57 rfl ?_
          refine S.iadd (pc' := 59) dX12_readALine_58 rfl ?_
          refine S.istore_n (pc' := 60) (LL' := [_, _, _]) dX12_readALine_59 rfl (by decide) rfl rfl rfl ?_
          exact fp_S.wV (ln_loop ht hm (by omega) h12 9 _ [] D.2.2.2.1 _ _ rfl (by simp) (q36.up (by omega)) hla hD.2.2.2.2.1) (fun N' q => hend N' q)
        · exfalso; omega
      · exfalso; omega
end MLJ
end
section
/-! ANY LINE OF A TEXT: the reference -/
def mlP (tp : List Int) (M N : fp_Mem) (p : Int ⊕ (Int × pD)) : Prop := frQ M N ∧ mrI N ∧ mq tp N (toR p) ∧ ∀ q, p = .inr q → mrD N q.2
section MRW
variable {l : Launch} {G : fp_WG} {M N O : fp_Mem} {tp : List Int} {r r' : Int ⊕ Int} {D : pD} {o1 o2 : Option Value}
/-- the STOP -/
theorem ml_100 {p : Int ⊕ (Int × pD)} (ht : tpOk tp) (hm : mtT O tp) (h : rlP tp M O p) : fp_S l G 4 kX12_readLine 100 [some (rV G 177), o1] [] O (qV fun N => mlP tp M N p) := by
  obtain ⟨f, hi, r, hq, hr, hd⟩ := h
  have hbr : ∀ h, mtB O h → stR tp r = .inl h → fp_S l G 4 kX12_readLine 100 [some (rV G 177), o1] [] O (qV fun N => mlP tp M N p) := by
    intro h hb e
    have b1 := hb.1
    refine S.aload_n (pc' := 101) dX12_readLine_100 rfl rfl rfl ?_
    refine S.getI (pc' := 104) dX12_readLine_101 rfl fX12_98 L_177 ?_
    refine S.if_ne (pc' := 107) (tgt := 120) dX12_readLine_104 (by decide) rfl (by unfold fp_rng; omega) (fun h104 => ?_) (fun h104 => ?_)
    · refine S.aload_n (pc' := 121) dX12_readLine_120 rfl rfl rfl ?_
      refine S.callVw (pc' := 124) dX12_readLine_121 rfl cX12_136 (mt_step1 b1) rfl L_177 (by decide) rfl (Nat.le_of_ble_eq_true rfl) ?_
      refine S.vret dX12_readLine_124 rfl ?_
      exact ⟨f, hi, by rw [hr, e]; exact hb, hd⟩
    · exfalso; omega
  cases r with
  | inl h => exact hbr h hq rfl
  | inr s =>
    have hq' := hq
    obtain ⟨hs, hg, ho⟩ := hq
    rcases ho with ho | ⟨hno, hb⟩
    · have hkk := tkK_in tp (tkS tp s)
      by_cases h3 : tkK tp (tkS tp s) = 3
      · have e : stR tp (.inr s) = .inr (nxt tp s) := by unfold stR; simp only; rw [if_pos ⟨ho.2.1, h3⟩]
        refine S.aload_n (pc' := 101) dX12_readLine_100 rfl rfl rfl ?_
        refine S.getI (pc' := 104) dX12_readLine_101 rfl fX12_98 L_177 ?_
        rw [ho.1]
        refine S.if_ne (pc' := 107) (tgt := 120) dX12_readLine_104 (by decide) rfl (by unfold fp_rng; omega) (fun h104 => ?_) (fun h104 => ?_)
        · refine S.aload_n (pc' := 121) dX12_readLine_120 rfl rfl rfl ?_
          refine S.callVv (pc' := 124) dX12_readLine_121 rfl cX12_136 (mt_st (A := O) ht ⟨frW.refl _, hq'⟩ ho hm) rfl L_177 (by decide) rfl (Nat.le_of_ble_eq_true rfl) (fun M121 q121 => ?_)
          first
          | exact absurd rfl h104
          | exact S.vret dX12_readLine_124 rfl ⟨f.trans q121.1.Q, q121.1.I hi, by rw [hr, e]; exact q121.2, fun q e2 => q121.1.D (hd q e2)⟩
        · refine S.aload_n (pc' := 108) dX12_readLine_107 rfl rfl rfl ?_
          refine S.getI (pc' := 111) dX12_readLine_108 rfl fX12_107 L_177 ?_
          refine S.iconst (pc' := 112) dX12_readLine_111 rfl ?_
          rw [hg.2.2, h3]
          refine S.icmp_eq (pc' := 115) (tgt := 120) dX12_readLine_112 (by decide) rfl (by unfold fp_rng; omega) (by unfold fp_rng; omega) (fun h112 => ?_) (fun h112 => ?_)
          · refine S.aload_n (pc' := 121) dX12_readLine_120 rfl rfl rfl ?_
            refine S.callVv (pc' := 124) dX12_readLine_121 rfl cX12_136 (mt_st (A := O) ht ⟨frW.refl _, hq'⟩ ho hm) rfl L_177 (by decide) rfl (Nat.le_of_ble_eq_true rfl) (fun M121 q121 => ?_)
            first
            | exact absurd rfl h104
            | exact S.vret dX12_readLine_124 rfl ⟨f.trans q121.1.Q, q121.1.I hi, by rw [hr, e]; exact q121.2, fun q e2 => q121.1.D (hd q e2)⟩
          · exact absurd rfl h112
      · have e : stR tp (.inr s) = .inl (tkS tp s) := by unfold stR; simp only; rw [if_neg (fun q => h3 q.2)]
        have a := aT.no (tp := tp) (A := O) (N := O) (s := s) (w := 2) ⟨frW.refl _, hq'⟩ (by omega)
        have h120 : fp_S l G 4 kX12_readLine 120 [some (rV G 177), o1] [] (fp_up (fp_up O 177 21 2) 177 22 (tkS tp s)) (qV fun N => mlP tp M N p) := by
          refine S.aload_n (pc' := 121) dX12_readLine_120 rfl rfl rfl ?_
          refine S.callVw (pc' := 124) dX12_readLine_121 rfl cX12_136 (mt_step1 a.2.1) rfl L_177 (by decide) rfl (Nat.le_of_ble_eq_true rfl) ?_
          refine S.vret dX12_readLine_124 rfl ?_
          exact ⟨f.trans a.1.Q, a.1.I hi, by rw [hr, e]; exact a.2, fun q e2 => a.1.D (hd q e2)⟩
        refine S.aload_n (pc' := 101) dX12_readLine_100 rfl rfl rfl ?_
        refine S.getI (pc' := 104) dX12_readLine_101 rfl fX12_98 L_177 ?_
        rw [ho.1]
        refine S.if_ne (pc' := 107) (tgt := 120) dX12_readLine_104 (by decide) rfl (by unfold fp_rng; omega) (fun h104 => ?_) (fun h104 => ?_)
        · first
          | exact absurd rfl h104
          | exact absurd h112 h3
          | (rw [hg.1]; exact h120)
        · refine S.aload_n (pc' := 108) dX12_readLine_107 rfl rfl rfl ?_
          refine S.getI (pc' := 111) dX12_readLine_108 rfl fX12_107 L_177 ?_
          refine S.iconst (pc' := 112) dX12_readLine_111 rfl ?_
          rw [hg.2.2]
          refine S.icmp_eq (pc' := 115) (tgt := 120) dX12_readLine_112 (by decide) rfl (by unfold fp_rng; omega) (by unfold fp_rng; omega) (fun h112 => ?_) (fun h112 => ?_)
          · first
            | exact absurd rfl h104
            | exact absurd h112 h3
            | (rw [hg.1]; exact h120)
          · refine S.aload_n (pc' := 116) dX12_readLine_115 rfl rfl rfl ?_
            refine S.iconst (pc' := 117) dX12_readLine_116 rfl ?_
            refine S.callVw (pc' := 120) dX12_readLine_117 rfl cX12_128 (mt_fails0 ho.1) rfl L_177 (by decide) rfl (Nat.le_of_ble_eq_true rfl) ?_
            first
            | exact absurd rfl h104
            | exact absurd h112 h3
            | (rw [hg.1]; exact h120)
    · exact hbr _ hb (by unfold stR; simp only; rw [if_neg (fun q => hno q.1)])
def chN (tp : List Int) (M : fp_Mem) (s : Int) (D : pD) (N : fp_Mem) : Prop := rlP tp M N (pChance tp (tkS tp s) (nxt tp s) D)
theorem rk_X12_readLine {s : Int} (ht : tpOk tp) (hm : mtT M tp) (hK : msK M) (hq : mq tp M (.inr s)) (ho : mtO tp M s) (hi : mrI M) (hd : mrD M D) (hD : dOk D) : fp_Ok l G 4 kX12_readLine [rV G 177] M (qV fun N => mlP tp M N (pRow tp (tkS tp s) D)) := by
  refine fp_Ok.of (r := 1) rfl (Nat.le_of_ble_eq_true rfl) rfl ?_
  have hs := hq.1
  have hg := hq.2.1
  have hx := nxt_le hs.2
  have htk := tkS_le hs.2
  have hin := nmF_in (tp := tp) (h := tkS tp s) 8 0
  have a0 : aT tp M M (.inr s) := ⟨frW.refl _, hq⟩
  have hsp := nmF_spec (tp := tp) (h := tkS tp s) 8 0
  have hu : ∀ i j, i < 8 → j < 8 → i ≠ j → nmW tp (tkS tp s) j = true → ¬ nmW tp (tkS tp s) i = true := fun i j i8 j8 ne c q => ne (nm_uniq i8 j8 q c)
  have hmO : ∀ O p, rlP tp M O p → mtT O tp := fun O p h => h.1.T hm
  by_cases hno : 0 ≤ nmF tp (tkS tp s) 8 0 ∧ nmF tp (tkS tp s) 8 0 ≤ 4
  · have hsp2 : ∃ j : Nat, j ≤ 4 ∧ nmF tp (tkS tp s) 8 0 = (j : Int) ∧ nmW tp (tkS tp s) j = true := by
      rcases hsp with ⟨a, _⟩ | ⟨j, a, b, c⟩
      · exfalso; omega
      · exact ⟨j, by omega, b, c⟩
    obtain ⟨j, j4, ej, cj⟩ := hsp2
    have hcall : fp_Ok l G 1 kX12_nameHere [rV G 177] M (qE (nmF tp (tkS tp s) 8 0) M) := mt_name ht hm hK hg.1 hg.2.1 hg.2.2 (by omega) htk.2
    rw [ej] at hcall
    have hnx : tkE tp (tkS tp s) = nxt tp s := rfl
    rcases (show j = 0 ∨ j = 1 ∨ j = 2 ∨ j = 3 ∨ j = 4 by omega) with rfl | rfl | rfl | rfl | rfl
    · have hp : pRow tp (tkS tp s) D = pThing tp (tkS tp s) (nxt tp s) D := by unfold pRow; rw [if_pos cj, hnx]
      rw [hp]
      refine S.aload_n (pc' := 1) dX12_readLine_0 rfl rfl rfl ?_
      refine S.callVe (pc' := 4) dX12_readLine_1 rfl cX12_149 hcall rfl L_177 (by decide) rfl (Nat.le_of_ble_eq_true rfl) ?_
      refine S.istore_n (pc' := 5) (LL' := [_, _]) dX12_readLine_4 rfl (by decide) rfl rfl rfl ?_
      refine S.iload_n (pc' := 6) dX12_readLine_5 rfl rfl rfl ?_
      refine S.i2l (pc' := 7) dX12_readLine_6 rfl (by unfold fp_rng; omega) ?_
      refine S.lconst (pc' := 8) (w := 0) dX12_readLine_7 rfl rfl ?_
      refine S.ldc2 (pc' := 11) (v := 4) dX12_readLine_8 rfl lX12_162 (by decide) ?_
      refine S.callSe (pc' := 14) dX12_readLine_11 rfl cX12_94 ok_X12_in rfl (by decide) rfl (Nat.le_of_ble_eq_true rfl) ?_
      refine S.if_ne (pc' := 17) (tgt := 23) dX12_readLine_14 (by decide) rfl (by unfold fp_rng; split <;> omega) (fun h14 => ?_) (fun h14 => ?_)
      · refine S.iload_n (pc' := 24) dX12_readLine_23 rfl rfl rfl ?_
        refine S.if_ne (pc' := 27) (tgt := 34) dX12_readLine_24 (by decide) rfl (by unfold fp_rng; omega) (fun h24 => ?_) (fun h24 => ?_)
        · exact absurd rfl h24
        · refine S.aload_n (pc' := 28) dX12_readLine_27 rfl rfl rfl ?_
          refine S.callVv (pc' := 31) dX12_readLine_28 rfl cX12_164 (rk_X12_readThing ht hm hq ho hi hd hD) rfl L_177 (by decide) rfl (Nat.le_of_ble_eq_true rfl) (fun M28 q28 => ?_)
          refine S.goto (pc' := 100) dX12_readLine_31 (by decide) ?_
          exact ml_100 ht (hmO _ _ q28) q28
      · exact absurd h14 (by decide)
    · have hp : pRow tp (tkS tp s) D = pLine tp (tkS tp s) (nxt tp s) D := by unfold pRow; rw [if_neg (hu 0 1 (by omega) (by omega) (by omega) cj), if_pos cj, hnx]
      rw [hp]
      refine S.aload_n (pc' := 1) dX12_readLine_0 rfl rfl rfl ?_
      refine S.callVe (pc' := 4) dX12_readLine_1 rfl cX12_149 hcall rfl L_177 (by decide) rfl (Nat.le_of_ble_eq_true rfl) ?_
      refine S.istore_n (pc' := 5) (LL' := [_, _]) dX12_readLine_4 rfl (by decide) rfl rfl rfl ?_
      refine S.iload_n (pc' := 6) dX12_readLine_5 rfl rfl rfl ?_
      refine S.i2l (pc' := 7) dX12_readLine_6 rfl (by unfold fp_rng; omega) ?_
      refine S.lconst (pc' := 8) (w := 0) dX12_readLine_7 rfl rfl ?_
      refine S.ldc2 (pc' := 11) (v := 4) dX12_readLine_8 rfl lX12_162 (by decide) ?_
      refine S.callSe (pc' := 14) dX12_readLine_11 rfl cX12_94 ok_X12_in rfl (by decide) rfl (Nat.le_of_ble_eq_true rfl) ?_
      refine S.if_ne (pc' := 17) (tgt := 23) dX12_readLine_14 (by decide) rfl (by unfold fp_rng; split <;> omega) (fun h14 => ?_) (fun h14 => ?_)
      · refine S.iload_n (pc' := 24) dX12_readLine_23 rfl rfl rfl ?_
        refine S.if_ne (pc' := 27) (tgt := 34) dX12_readLine_24 (by decide) rfl (by unfold fp_rng; omega) (fun h24 => ?_) (fun h24 => ?_)
        · refine S.iload_n (pc' := 35) dX12_readLine_34 rfl rfl rfl ?_
          refine S.iconst (pc' := 36) dX12_readLine_35 rfl ?_
          refine S.icmp_ne (pc' := 39) (tgt := 46) dX12_readLine_36 (by decide) rfl (by unfold fp_rng; omega) (by unfold fp_rng; omega) (fun h36 => ?_) (fun h36 => ?_)
          · exact absurd rfl h36
          · refine S.aload_n (pc' := 40) dX12_readLine_39 rfl rfl rfl ?_
            refine S.callVv (pc' := 43) dX12_readLine_40 rfl cX12_167 (rk_X12_readALine ht hm hK hq ho hi hd hD) rfl L_177 (by decide) rfl (Nat.le_of_ble_eq_true rfl) (fun M40 q40 => ?_)
            refine S.goto (pc' := 100) dX12_readLine_43 (by decide) ?_
            exact ml_100 ht (hmO _ _ q40) q40
        · exact absurd h24 (by decide)
      · exact absurd h14 (by decide)
    · have hp : pRow tp (tkS tp s) D = pVisit tp (tkS tp s) (nxt tp s) 1 D := by unfold pRow; rw [if_neg (hu 0 2 (by omega) (by omega) (by omega) cj), if_neg (hu 1 2 (by omega) (by omega) (by omega) cj), if_pos cj, hnx]
      rw [hp]
      refine S.aload_n (pc' := 1) dX12_readLine_0 rfl rfl rfl ?_
      refine S.callVe (pc' := 4) dX12_readLine_1 rfl cX12_149 hcall rfl L_177 (by decide) rfl (Nat.le_of_ble_eq_true rfl) ?_
      refine S.istore_n (pc' := 5) (LL' := [_, _]) dX12_readLine_4 rfl (by decide) rfl rfl rfl ?_
      refine S.iload_n (pc' := 6) dX12_readLine_5 rfl rfl rfl ?_
      refine S.i2l (pc' := 7) dX12_readLine_6 rfl (by unfold fp_rng; omega) ?_
      refine S.lconst (pc' := 8) (w := 0) dX12_readLine_7 rfl rfl ?_
      refine S.ldc2 (pc' := 11) (v := 4) dX12_readLine_8 rfl lX12_162 (by decide) ?_
      refine S.callSe (pc' := 14) dX12_readLine_11 rfl cX12_94 ok_X12_in rfl (by decide) rfl (Nat.le_of_ble_eq_true rfl) ?_
      refine S.if_ne (pc' := 17) (tgt := 23) dX12_readLine_14 (by decide) rfl (by unfold fp_rng; split <;> omega) (fun h14 => ?_) (fun h14 => ?_)
      · refine S.iload_n (pc' := 24) dX12_readLine_23 rfl rfl rfl ?_
        refine S.if_ne (pc' := 27) (tgt := 34) dX12_readLine_24 (by decide) rfl (by unfold fp_rng; omega) (fun h24 => ?_) (fun h24 => ?_)
        · refine S.iload_n (pc' := 35) dX12_readLine_34 rfl rfl rfl ?_
          refine S.iconst (pc' := 36) dX12_readLine_35 rfl ?_
          refine S.icmp_ne (pc' := 39) (tgt := 46) dX12_readLine_36 (by decide) rfl (by unfold fp_rng; omega) (by unfold fp_rng; omega) (fun h36 => ?_) (fun h36 => ?_)
          · refine S.iload_n (pc' := 47) dX12_readLine_46 rfl rfl rfl ?_
            refine S.iconst (pc' := 48) dX12_readLine_47 rfl ?_
            refine S.icmp_ne (pc' := 51) (tgt := 86) dX12_readLine_48 (by decide) rfl (by unfold fp_rng; omega) (by unfold fp_rng; omega) (fun h48 => ?_) (fun h48 => ?_)
            · refine S.aload_n (pc' := 87) dX12_readLine_86 rfl rfl rfl ?_
              refine S.iload_n (pc' := 88) dX12_readLine_87 rfl rfl rfl ?_
              refine S.iconst (pc' := 89) dX12_readLine_88 rfl ?_
              refine S.icmp_ne (pc' := 92) (tgt := 96) dX12_readLine_89 (by decide) rfl (by unfold fp_rng; omega) (by unfold fp_rng; omega) (fun h89 => ?_) (fun h89 => ?_)
              · exact absurd rfl h89
              · refine S.iconst (pc' := 93) dX12_readLine_92 rfl ?_
                refine S.goto (pc' := 97) dX12_readLine_93 (by decide) ?_
                refine S.callVv (pc' := 100) dX12_readLine_97 rfl cX12_177 (rk_X12_readVisit ht hm hq ho hi hd hD (Or.inr rfl)) rfl L_177 (by decide) rfl (Nat.le_of_ble_eq_true rfl) (fun M97 q97 => ?_)
                exact ml_100 ht (hmO _ _ q97) q97
            · exact absurd h48 (by decide)
          · exact absurd h36 (by decide)
        · exact absurd h24 (by decide)
      · exact absurd h14 (by decide)
    · have hp : pRow tp (tkS tp s) D = pVisit tp (tkS tp s) (nxt tp s) 0 D := by unfold pRow; rw [if_neg (hu 0 3 (by omega) (by omega) (by omega) cj), if_neg (hu 1 3 (by omega) (by omega) (by omega) cj), if_neg (hu 2 3 (by omega) (by omega) (by omega) cj), if_pos cj, hnx]
      rw [hp]
      refine S.aload_n (pc' := 1) dX12_readLine_0 rfl rfl rfl ?_
      refine S.callVe (pc' := 4) dX12_readLine_1 rfl cX12_149 hcall rfl L_177 (by decide) rfl (Nat.le_of_ble_eq_true rfl) ?_
      refine S.istore_n (pc' := 5) (LL' := [_, _]) dX12_readLine_4 rfl (by decide) rfl rfl rfl ?_
      refine S.iload_n (pc' := 6) dX12_readLine_5 rfl rfl rfl ?_
      refine S.i2l (pc' := 7) dX12_readLine_6 rfl (by unfold fp_rng; omega) ?_
      refine S.lconst (pc' := 8) (w := 0) dX12_readLine_7 rfl rfl ?_
      refine S.ldc2 (pc' := 11) (v := 4) dX12_readLine_8 rfl lX12_162 (by decide) ?_
      refine S.callSe (pc' := 14) dX12_readLine_11 rfl cX12_94 ok_X12_in rfl (by decide) rfl (Nat.le_of_ble_eq_true rfl) ?_
      refine S.if_ne (pc' := 17) (tgt := 23) dX12_readLine_14 (by decide) rfl (by unfold fp_rng; split <;> omega) (fun h14 => ?_) (fun h14 => ?_)
      · refine S.iload_n (pc' := 24) dX12_readLine_23 rfl rfl rfl ?_
        refine S.if_ne (pc' := 27) (tgt := 34) dX12_readLine_24 (by decide) rfl (by unfold fp_rng; omega) (fun h24 => ?_) (fun h24 => ?_)
        · refine S.iload_n (pc' := 35) dX12_readLine_34 rfl rfl rfl ?_
          refine S.iconst (pc' := 36) dX12_readLine_35 rfl ?_
          refine S.icmp_ne (pc' := 39) (tgt := 46) dX12_readLine_36 (by decide) rfl (by unfold fp_rng; omega) (by unfold fp_rng; omega) (fun h36 => ?_) (fun h36 => ?_)
          · refine S.iload_n (pc' := 47) dX12_readLine_46 rfl rfl rfl ?_
            refine S.iconst (pc' := 48) dX12_readLine_47 rfl ?_
            refine S.icmp_ne (pc' := 51) (tgt := 86) dX12_readLine_48 (by decide) rfl (by unfold fp_rng; omega) (by unfold fp_rng; omega) (fun h48 => ?_) (fun h48 => ?_)
            · refine S.aload_n (pc' := 87) dX12_readLine_86 rfl rfl rfl ?_
              refine S.iload_n (pc' := 88) dX12_readLine_87 rfl rfl rfl ?_
              refine S.iconst (pc' := 89) dX12_readLine_88 rfl ?_
              refine S.icmp_ne (pc' := 92) (tgt := 96) dX12_readLine_89 (by decide) rfl (by unfold fp_rng; omega) (by unfold fp_rng; omega) (fun h89 => ?_) (fun h89 => ?_)
              · refine S.iconst (pc' := 97) dX12_readLine_96 rfl ?_
                refine S.callVv (pc' := 100) dX12_readLine_97 rfl cX12_177 (rk_X12_readVisit ht hm hq ho hi hd hD (Or.inl rfl)) rfl L_177 (by decide) rfl (Nat.le_of_ble_eq_true rfl) (fun M97 q97 => ?_)
                exact ml_100 ht (hmO _ _ q97) q97
              · exact absurd h89 (by decide)
            · exact absurd h48 (by decide)
          · exact absurd h36 (by decide)
        · exact absurd h24 (by decide)
      · exact absurd h14 (by decide)
    · have hp : pRow tp (tkS tp s) D = pChance tp (tkS tp s) (nxt tp s) D := by unfold pRow; rw [if_neg (hu 0 4 (by omega) (by omega) (by omega) cj), if_neg (hu 1 4 (by omega) (by omega) (by omega) cj), if_neg (hu 2 4 (by omega) (by omega) (by omega) cj), if_neg (hu 3 4 (by omega) (by omega) (by omega) cj), if_pos cj, hnx]
      rw [hp]
      have h14f : M 177 14 = D.2.2.2.2.1 := hd.2.2.2.2.1
      have hct := hD.2.2.2.2.2.1
      by_cases hc : D.2.2.2.2.1 = 0
      · have hR : toR (pChance tp (tkS tp s) (nxt tp s) D) = stR tp (nuR tp 0 10 (.inr (nxt tp s))) ∧ ∀ q, pChance tp (tkS tp s) (nxt tp s) D = .inr q → q.2 = ((D.1.1, D.1.2.1, nuV tp 0 10 (.inr (nxt tp s)), D.1.2.2.2), D.2.1, D.2.2.1, D.2.2.2.1, 1, D.2.2.2.2.2) := by
          unfold pChance
          rw [if_neg (fun q => q hc)]
          by_cases b1 : nmOk tp (nxt tp s) 0 10
          · rw [if_neg (fun q => q b1)]
            simp only [nuR, nuV, stR, if_pos b1]
            by_cases b2 : spOk tp (nxt tp (nxt tp s))
            · rw [if_neg (fun q => q b2), if_pos b2]
              exact ⟨rfl, fun q e => by cases e; rfl⟩
            · rw [if_pos b2, if_neg b2]
              exact ⟨rfl, fun q e => by cases e⟩
          · rw [if_pos b1]
            simp only [nuR, nuV, stR, if_neg b1]
            exact ⟨rfl, fun q e => by cases e⟩
        have a1 : aT tp (fp_up M 177 14 1) (fp_up M 177 14 1) (.inr s) := a0.up (by omega)
        have hm1 : mtT (fp_up M 177 14 1) tp := ⟨hm.1, hm.2⟩
        have hDD : mrD (fp_up (fp_up M 177 14 1) 177 13 (nuV tp 0 10 (.inr (nxt tp s)))) ((D.1.1, D.1.2.1, nuV tp 0 10 (.inr (nxt tp s)), D.1.2.2.2), D.2.1, D.2.2.1, D.2.2.2.1, 1, D.2.2.2.2.2) := by
          obtain ⟨⟨g1, g2, g3, g4, g5, g6⟩, d2, d3, d4, d5, d6, d7⟩ := hd
          exact ⟨⟨g1, g2, rfl, g4, g5, g6⟩, d2, d3, d4, rfl, d6, d7⟩
        refine S.aload_n (pc' := 1) dX12_readLine_0 rfl rfl rfl ?_
        refine S.callVe (pc' := 4) dX12_readLine_1 rfl cX12_149 hcall rfl L_177 (by decide) rfl (Nat.le_of_ble_eq_true rfl) ?_
        refine S.istore_n (pc' := 5) (LL' := [_, _]) dX12_readLine_4 rfl (by decide) rfl rfl rfl ?_
        refine S.iload_n (pc' := 6) dX12_readLine_5 rfl rfl rfl ?_
        refine S.i2l (pc' := 7) dX12_readLine_6 rfl (by unfold fp_rng; omega) ?_
        refine S.lconst (pc' := 8) (w := 0) dX12_readLine_7 rfl rfl ?_
        refine S.ldc2 (pc' := 11) (v := 4) dX12_readLine_8 rfl lX12_162 (by decide) ?_
        refine S.callSe (pc' := 14) dX12_readLine_11 rfl cX12_94 ok_X12_in rfl (by decide) rfl (Nat.le_of_ble_eq_true rfl) ?_
        refine S.if_ne (pc' := 17) (tgt := 23) dX12_readLine_14 (by decide) rfl (by unfold fp_rng; split <;> omega) (fun h14 => ?_) (fun h14 => ?_)
        · refine S.iload_n (pc' := 24) dX12_readLine_23 rfl rfl rfl ?_
          refine S.if_ne (pc' := 27) (tgt := 34) dX12_readLine_24 (by decide) rfl (by unfold fp_rng; omega) (fun h24 => ?_) (fun h24 => ?_)
          · refine S.iload_n (pc' := 35) dX12_readLine_34 rfl rfl rfl ?_
            refine S.iconst (pc' := 36) dX12_readLine_35 rfl ?_
            refine S.icmp_ne (pc' := 39) (tgt := 46) dX12_readLine_36 (by decide) rfl (by unfold fp_rng; omega) (by unfold fp_rng; omega) (fun h36 => ?_) (fun h36 => ?_)
            · refine S.iload_n (pc' := 47) dX12_readLine_46 rfl rfl rfl ?_
              refine S.iconst (pc' := 48) dX12_readLine_47 rfl ?_
              refine S.icmp_ne (pc' := 51) (tgt := 86) dX12_readLine_48 (by decide) rfl (by unfold fp_rng; omega) (by unfold fp_rng; omega) (fun h48 => ?_) (fun h48 => ?_)
              · exact absurd rfl h48
              · refine S.aload_n (pc' := 52) dX12_readLine_51 rfl rfl rfl ?_
                refine S.getI (pc' := 55) dX12_readLine_52 rfl fX12_170 L_177 ?_
                rw [h14f, hc]
                refine S.if_eq (pc' := 58) (tgt := 63) dX12_readLine_55 (by decide) rfl (by unfold fp_rng; omega) (fun h55 => ?_) (fun h55 => ?_)
                · refine S.aload_n (pc' := 64) dX12_readLine_63 rfl rfl rfl ?_
                  refine S.iconst (pc' := 65) dX12_readLine_64 rfl ?_
                  refine S.putZ (pc' := 68) dX12_readLine_65 rfl fX12_170 L_177 (by first | exact Or.inl rfl | exact Or.inr rfl | omega) ?_
                  refine S.aload_n (pc' := 69) dX12_readLine_68 rfl rfl rfl ?_
                  refine S.callVv (pc' := 72) dX12_readLine_69 rfl cX12_136 (mt_st ht a1 ho hm1) rfl L_177 (by decide) rfl (Nat.le_of_ble_eq_true rfl) (fun M69 q69 => ?_)
                  refine S.aload_n (pc' := 73) dX12_readLine_72 rfl rfl rfl ?_
                  refine S.aload_n (pc' := 74) dX12_readLine_73 rfl rfl rfl ?_
                  refine S.iconst (pc' := 75) dX12_readLine_74 rfl ?_
                  refine S.bipush (pc' := 77) dX12_readLine_75 rfl (by decide) ?_
                  refine S.callVi (pc' := 80) dX12_readLine_77 rfl cX12_142 (mt_nu ht q69 hm1 (by unfold fp_rng; omega) (by unfold fp_rng; omega)) rfl L_177 (by decide) rfl (Nat.le_of_ble_eq_true rfl) (fun z77 M77 q77 => ?_)
                  obtain ⟨a77, z⟩ := q77
                  rw [z]
                  refine S.putI (pc' := 83) dX12_readLine_80 rfl fX12_174 L_177 ?_
                  refine S.goto (pc' := 100) dX12_readLine_83 (by decide) ?_
                  have a80 := a77.up (k := 177) (j := 13) (z := nuV tp 0 10 (.inr (nxt tp s))) (by omega)
                  have q : rlP tp M _ (pChance tp (tkS tp s) (nxt tp s) D) := ⟨frQ.trans (((frQ.refl M).up (by omega)).up (by omega)) a80.1.Q, a80.1.I (hi.kept rfl rfl rfl), _, a80.2, hR.1, fun q e => by rw [hR.2 q e]; exact a80.1.D hDD⟩
                  exact ml_100 ht (hmO _ _ q) q
                · exact absurd rfl h55
            · exact absurd h36 (by decide)
          · exact absurd h24 (by decide)
        · exact absurd h14 (by decide)
      · have hpn : pChance tp (tkS tp s) (nxt tp s) D = .inl (tkS tp s) := by unfold pChance; rw [if_pos hc]
        have hlo0 : fp_rng 0 := by unfold fp_rng; omega
        have a2 := (aT.no a0 (w := 4) (by omega)).up (k := 177) (j := 14) (z := 1) (by omega)
        have hm2 : mtT (fp_up M 177 14 1) tp := ⟨hm.1, hm.2⟩
        have h63 : ∀ o1, fp_S l G 4 kX12_readLine 63 [some (rV G 177), o1] [] (fp_up (fp_up M 177 21 4) 177 22 (tkS tp s)) (qV fun N => mlP tp M N (pChance tp (tkS tp s) (nxt tp s) D)) := by
          intro o1
          refine S.aload_n (pc' := 64) dX12_readLine_63 rfl rfl rfl ?_
          refine S.iconst (pc' := 65) dX12_readLine_64 rfl ?_
          refine S.putZ (pc' := 68) dX12_readLine_65 rfl fX12_170 L_177 (by first | exact Or.inl rfl | exact Or.inr rfl | omega) ?_
          refine S.aload_n (pc' := 69) dX12_readLine_68 rfl rfl rfl ?_
          refine S.callVw (pc' := 72) dX12_readLine_69 rfl cX12_136 (mt_step1 a2.2.1) rfl L_177 (by decide) rfl (Nat.le_of_ble_eq_true rfl) ?_
          refine S.aload_n (pc' := 73) dX12_readLine_72 rfl rfl rfl ?_
          refine S.aload_n (pc' := 74) dX12_readLine_73 rfl rfl rfl ?_
          refine S.iconst (pc' := 75) dX12_readLine_74 rfl ?_
          refine S.bipush (pc' := 77) dX12_readLine_75 rfl (by decide) ?_
          refine S.callVi (pc' := 80) dX12_readLine_77 rfl cX12_142 (mt_nu ht a2 hm2 (by unfold fp_rng; omega) (by unfold fp_rng; omega)) rfl L_177 (by decide) rfl (Nat.le_of_ble_eq_true rfl) (fun z77 M77 q77 => ?_)
          obtain ⟨a77, z⟩ := q77
          rw [z]
          refine S.putI (pc' := 83) dX12_readLine_80 rfl fX12_174 L_177 ?_
          refine S.goto (pc' := 100) dX12_readLine_83 (by decide) ?_
          have a80 := a77.up (k := 177) (j := 13) (z := nuV tp 0 10 (.inl (tkS tp s))) (by omega)
          have q : rlP tp M _ (pChance tp (tkS tp s) (nxt tp s) D) := ⟨frQ.trans (((frQ.refl M).up (by omega)).up (by omega)) a80.1.Q, a80.1.I (hi.kept rfl rfl rfl), _, a80.2, by rw [hpn]; rfl, fun q e => by rw [hpn] at e; cases e⟩
          exact ml_100 ht (hmO _ _ q) q
        refine S.aload_n (pc' := 1) dX12_readLine_0 rfl rfl rfl ?_
        refine S.callVe (pc' := 4) dX12_readLine_1 rfl cX12_149 hcall rfl L_177 (by decide) rfl (Nat.le_of_ble_eq_true rfl) ?_
        refine S.istore_n (pc' := 5) (LL' := [_, _]) dX12_readLine_4 rfl (by decide) rfl rfl rfl ?_
        refine S.iload_n (pc' := 6) dX12_readLine_5 rfl rfl rfl ?_
        refine S.i2l (pc' := 7) dX12_readLine_6 rfl (by unfold fp_rng; omega) ?_
        refine S.lconst (pc' := 8) (w := 0) dX12_readLine_7 rfl rfl ?_
        refine S.ldc2 (pc' := 11) (v := 4) dX12_readLine_8 rfl lX12_162 (by decide) ?_
        refine S.callSe (pc' := 14) dX12_readLine_11 rfl cX12_94 ok_X12_in rfl (by decide) rfl (Nat.le_of_ble_eq_true rfl) ?_
        refine S.if_ne (pc' := 17) (tgt := 23) dX12_readLine_14 (by decide) rfl (by unfold fp_rng; split <;> omega) (fun h14 => ?_) (fun h14 => ?_)
        · refine S.iload_n (pc' := 24) dX12_readLine_23 rfl rfl rfl ?_
          refine S.if_ne (pc' := 27) (tgt := 34) dX12_readLine_24 (by decide) rfl (by unfold fp_rng; omega) (fun h24 => ?_) (fun h24 => ?_)
          · refine S.iload_n (pc' := 35) dX12_readLine_34 rfl rfl rfl ?_
            refine S.iconst (pc' := 36) dX12_readLine_35 rfl ?_
            refine S.icmp_ne (pc' := 39) (tgt := 46) dX12_readLine_36 (by decide) rfl (by unfold fp_rng; omega) (by unfold fp_rng; omega) (fun h36 => ?_) (fun h36 => ?_)
            · refine S.iload_n (pc' := 47) dX12_readLine_46 rfl rfl rfl ?_
              refine S.iconst (pc' := 48) dX12_readLine_47 rfl ?_
              refine S.icmp_ne (pc' := 51) (tgt := 86) dX12_readLine_48 (by decide) rfl (by unfold fp_rng; omega) (by unfold fp_rng; omega) (fun h48 => ?_) (fun h48 => ?_)
              · exact absurd rfl h48
              · refine S.aload_n (pc' := 52) dX12_readLine_51 rfl rfl rfl ?_
                refine S.getI (pc' := 55) dX12_readLine_52 rfl fX12_170 L_177 ?_
                rw [h14f]
                refine S.if_eq (pc' := 58) (tgt := 63) dX12_readLine_55 (by decide) rfl (by unfold fp_rng; omega) (fun h55 => ?_) (fun h55 => ?_)
                · first
                  | exact absurd h55 hc
                  | (rw [hg.1]; exact h63 _)
                · refine S.aload_n (pc' := 59) dX12_readLine_58 rfl rfl rfl ?_
                  refine S.iconst (pc' := 60) dX12_readLine_59 rfl ?_
                  refine S.callVw (pc' := 63) dX12_readLine_60 rfl cX12_128 (mt_fails0 ho.1) rfl L_177 (by decide) rfl (Nat.le_of_ble_eq_true rfl) ?_
                  first
                  | exact absurd h55 hc
                  | (rw [hg.1]; exact h63 _)
            · exact absurd h36 (by decide)
          · exact absurd h24 (by decide)
        · exact absurd h14 (by decide)
  · have hp : pRow tp (tkS tp s) D = .inl (tkS tp s) := by
      have hf : ∀ i, i < 5 → ¬ nmW tp (tkS tp s) i = true := by
        intro i i5 q
        rcases hsp with ⟨_, b⟩ | ⟨j, a, b, c⟩
        · rw [b i (by omega) (by omega)] at q; exact absurd q (by decide)
        · have : i = j := nm_uniq (by omega) (by omega) q c
          omega
      unfold pRow
      rw [if_neg (hf 0 (by omega)), if_neg (hf 1 (by omega)), if_neg (hf 2 (by omega)), if_neg (hf 3 (by omega)), if_neg (hf 4 (by omega))]
    rw [hp]
    have a := aT.no a0 (w := 2) (by omega)
    clear hsp hu hmO
    refine S.aload_n (pc' := 1) dX12_readLine_0 rfl rfl rfl ?_
    refine S.callVe (pc' := 4) dX12_readLine_1 rfl cX12_149 (mt_name ht hm hK hg.1 hg.2.1 hg.2.2 (by omega) htk.2) rfl L_177 (by decide) rfl (Nat.le_of_ble_eq_true rfl) ?_
    refine S.istore_n (pc' := 5) (LL' := [_, _]) dX12_readLine_4 rfl (by decide) rfl rfl rfl ?_
    refine S.iload_n (pc' := 6) dX12_readLine_5 rfl rfl rfl ?_
    refine S.i2l (pc' := 7) dX12_readLine_6 rfl (by unfold fp_rng; omega) ?_
    refine S.lconst (pc' := 8) (w := 0) dX12_readLine_7 rfl rfl ?_
    refine S.ldc2 (pc' := 11) (v := 4) dX12_readLine_8 rfl lX12_162 (by decide) ?_
    refine S.callSe (pc' := 14) dX12_readLine_11 rfl cX12_94 ok_X12_in rfl (by decide) rfl (Nat.le_of_ble_eq_true rfl) ?_
    rw [if_neg hno]
    refine S.if_ne (pc' := 17) (tgt := 23) dX12_readLine_14 (by decide) rfl (by unfold fp_rng; omega) (fun h14 => ?_) (fun h14 => ?_)
    · exact absurd rfl h14
    · refine S.aload_n (pc' := 18) dX12_readLine_17 rfl rfl rfl ?_
      refine S.iconst (pc' := 19) dX12_readLine_18 rfl ?_
      refine S.callVw (pc' := 22) dX12_readLine_19 rfl cX12_128 (mt_fails0 ho.1) rfl L_177 (by decide) rfl (Nat.le_of_ble_eq_true rfl) ?_
      refine S.vret dX12_readLine_22 rfl ?_
      rw [hg.1]
      exact ⟨a.1.Q, a.1.I hi, a.2, fun q e => by cases e⟩
end MRW
end
section
/-! THE LINES OF A TEXT: the reference -/
def txM (tp : List Int) (M N : fp_Mem) (r : Int ⊕ (Int × pD)) (z : Int) : Prop := frQ M N ∧ mrI N ∧ ((∃ h, r = .inl h ∧ mtB N h) ∨ ∃ q, r = .inr q ∧ z = q.1 ∧ N 177 21 = 0 ∧ N 177 24 = (tp.length : Int) ∧ mrD N q.2 ∧ dOk q.2)
section MTX
variable {l : Launch} {G : fp_WG} {M N O : fp_Mem} {tp : List Int} {D : pD} {o : Option Value}
theorem mb_73B {Q : fp_Q} {h i : Int} (hb : mtB N h) (K : fp_S l G 5 kX12_bank 97 [some (rV G 177), some (iV i), o] [] N Q) : fp_S l G 5 kX12_bank 73 [some (rV G 177), some (iV i), o] [] N Q := by
  have b1 := hb.1
  refine S.aload_n (pc' := 74) dX12_bank_73 rfl rfl rfl ?_
  refine S.getI (pc' := 77) dX12_bank_74 rfl fX12_98 L_177 ?_
  refine S.if_ne (pc' := 80) (tgt := 97) dX12_bank_77 (by decide) rfl (by unfold fp_rng; omega) (fun h77 => ?_) (fun h77 => ?_)
  · exact K
  · exfalso; omega
theorem mb_loop {R : Int ⊕ (Int × pD)} {Q : fp_Q} (ht : tpOk tp) (hm : mtT M tp) (hK : msK M) (K : ∀ (N : fp_Mem) (z : Int), txM tp M N R z → fp_S l G 5 kX12_bank 97 [some (rV G 177), some (iV z), o] [] N Q) : ∀ (k : Nat) (s i : Int) (D : pD) (N : fp_Mem), ((tp.length : Int) - s).toNat < k → 0 ≤ i → i ≤ s → frQ M N → mq tp N (.inr s) → mrD N D → dOk D → mrI N → pText tp k s i D = R →
    fp_S l G 5 kX12_bank 73 [some (rV G 177), some (iV i), o] [] N Q := by
  intro k
  have hn := ht.1
  induction k with
  | zero => intro s i D N hk; omega
  | succ k ih =>
    intro s i D N hk i0 i1 hf hq hd hD hi hR
    have hs := hq.1
    have hS := tkS_le hs.2
    have hkk := tkK_in tp (tkS tp s)
    unfold pText at hR
    rcases hq.2.2 with ho | ⟨hno, hb⟩
    · rw [if_neg (fun q => q ho.2.1)] at hR
      by_cases h0 : tkK tp (tkS tp s) = 0
      · rw [if_pos h0] at hR
        have hend : tkS tp s = (tp.length : Int) := by
          unfold tkK at h0
          by_cases e : (tp.length : Int) ≤ tkS tp s
          · omega
          · rw [if_neg e] at h0
            repeat' split at h0
            all_goals omega
        refine S.aload_n (pc' := 74) dX12_bank_73 rfl rfl rfl ?_
        refine S.getI (pc' := 77) dX12_bank_74 rfl fX12_98 L_177 ?_
        rw [ho.1]
        refine S.if_ne (pc' := 80) (tgt := 97) dX12_bank_77 (by decide) rfl (by unfold fp_rng; omega) (fun h77 => ?_) (fun h77 => ?_)
        · first
          | exact absurd rfl h77
          | exact K _ _ ⟨hf, hi, Or.inr ⟨_, hR.symm, rfl, ho.1, hq.2.1.1.trans hend, hd, hD⟩⟩
        · refine S.aload_n (pc' := 81) dX12_bank_80 rfl rfl rfl ?_
          refine S.getI (pc' := 84) dX12_bank_81 rfl fX12_107 L_177 ?_
          rw [hq.2.1.2.2, h0]
          refine S.if_eq (pc' := 87) (tgt := 97) dX12_bank_84 (by decide) rfl (by unfold fp_rng; omega) (fun h84 => ?_) (fun h84 => ?_)
          · first
            | exact absurd rfl h77
            | exact K _ _ ⟨hf, hi, Or.inr ⟨_, hR.symm, rfl, ho.1, hq.2.1.1.trans hend, hd, hD⟩⟩
          · exact absurd rfl h84
      · rw [if_neg h0] at hR
        refine S.aload_n (pc' := 74) dX12_bank_73 rfl rfl rfl ?_
        refine S.getI (pc' := 77) dX12_bank_74 rfl fX12_98 L_177 ?_
        rw [ho.1]
        refine S.if_ne (pc' := 80) (tgt := 97) dX12_bank_77 (by decide) rfl (by unfold fp_rng; omega) (fun h77 => ?_) (fun h77 => ?_)
        · first
          | exact absurd rfl h77
          | exact absurd h84 h0
        · refine S.aload_n (pc' := 81) dX12_bank_80 rfl rfl rfl ?_
          refine S.getI (pc' := 84) dX12_bank_81 rfl fX12_107 L_177 ?_
          rw [hq.2.1.2.2]
          refine S.if_eq (pc' := 87) (tgt := 97) dX12_bank_84 (by decide) rfl (by unfold fp_rng; omega) (fun h84 => ?_) (fun h84 => ?_)
          · first
            | exact absurd rfl h77
            | exact absurd h84 h0
          · refine S.aload_n (pc' := 88) dX12_bank_87 rfl rfl rfl ?_
            refine S.callVv (pc' := 91) dX12_bank_88 rfl cX12_187 (rk_X12_readLine ht (hf.T hm) (hf.K hK) hq ho hi hd hD) rfl L_177 (by decide) rfl (Nat.le_of_ble_eq_true rfl) (fun M88 q88 => ?_)
            refine S.iinc (pc' := 94) (LL' := [_, _, _]) dX12_bank_91 rfl (by decide) rfl rfl rfl ?_
            refine S.goto (pc' := 73) dX12_bank_94 (by decide) ?_
            obtain ⟨f1, f2, f3, f4⟩ := q88
            cases hP : pRow tp (tkS tp s) D with
            | inl h =>
              rw [hP] at hR f3
              exact mb_73B f3 (K _ _ ⟨hf.trans f1, f2, Or.inl ⟨h, hR.symm, f3⟩⟩)
            | inr q =>
              rw [hP] at hR f3
              obtain ⟨r1, r2, r3⟩ := pRow_ok hS.2 hD hP
              exact ih q.1 (i + 1) q.2 _ (by omega) (by omega) (by omega) (hf.trans f1) f3 (f4 q hP) r1 f2 hR
    · rw [if_pos hno] at hR
      exact mb_73B hb (K _ _ ⟨hf, hi, Or.inl ⟨_, hR.symm, hb⟩⟩)
end MTX
end
section
/-! A TEXT TAKEN: the reference -/
theorem fp_rem10 {i : Int} (h : 0 ≤ i ∧ i < 40) : Int32.ofInt i - Int32.ofInt i / Int32.ofInt 10 * Int32.ofInt 10 = Int32.ofInt (i % 10) := by
  obtain ⟨n, rfl⟩ := Int.eq_ofNat_of_zero_le h.1
  have q : ∀ n : Nat, n < 40 → Int32.ofInt (n : Int) - Int32.ofInt (n : Int) / Int32.ofInt 10 * Int32.ofInt 10 = Int32.ofInt ((n : Int) % 10) := by decide +kernel
  exact q n (by omega)
theorem fp_rem3 {i : Int} (h : 0 ≤ i ∧ i < 40) : Int32.ofInt i - Int32.ofInt i / Int32.ofInt 3 * Int32.ofInt 3 = Int32.ofInt (i % 3) := by
  obtain ⟨n, rfl⟩ := Int.eq_ofNat_of_zero_le h.1
  have q : ∀ n : Nat, n < 40 → Int32.ofInt (n : Int) - Int32.ofInt (n : Int) / Int32.ofInt 3 * Int32.ofInt 3 = Int32.ofInt ((n : Int) % 3) := by decide +kernel
  exact q n (by omega)
/-- the row of the state while what lies is put in its place -/
def smR (D : pD) (f0 f : Nat → Int) (x i : Int) : Prop := (∀ y t, 0 ≤ y → y < x → t ∈ D.2.2.1 y → f t.toNat = 10 + y ∧ f (37 + t).toNat = f0 t.toNat) ∧ (∀ t ∈ (D.2.2.1 x).take i.toNat, f t.toNat = 10 + x ∧ f (37 + t).toNat = f0 t.toNat) ∧ (∀ t : Int, 0 ≤ t → t < 10 → (∀ y, 0 ≤ y → y < x → t ∉ D.2.2.1 y) → t ∉ (D.2.2.1 x).take i.toNat → f t.toNat = f0 t.toNat) ∧ ∀ j : Nat, 10 ≤ j → (j < 37 ∨ 46 < j) → f j = f0 j
theorem smR_step {D : pD} {f0 f : Nat → Int} {x i : Int} (hD : dOk D) (h : smR D f0 f x i) (x0 : 0 ≤ x) (x1 : x < 3) (i0 : 0 ≤ i) (i1 : i < ((D.2.2.1 x).length : Int)) : smR D f0 (fp_upf (fp_upf f (37 + (D.2.2.1 x).getD i.toNat 0).toNat (f ((D.2.2.1 x).getD i.toNat 0).toNat)) ((D.2.2.1 x).getD i.toNat 0).toNat (10 + x)) x (i + 1) := by
  obtain ⟨h1, h2, h3, h4⟩ := h
  obtain ⟨k1, k2, k3, k4⟩ := hD.2.2.1 x x0 x1
  have hmem : (D.2.2.1 x).getD i.toNat 0 ∈ D.2.2.1 x := by
    rw [List.getD_eq_getElem?_getD, List.getElem?_eq_getElem (by omega)]; exact List.getElem_mem _
  have hnt := take_not k2 (show i.toNat < (D.2.2.1 x).length by omega)
  generalize hu : (D.2.2.1 x).getD i.toNat 0 = u at *
  have hu10 := (k4 u hmem).1
  have hdis : ∀ y, 0 ≤ y → y < x → u ∉ D.2.2.1 y := fun y y0 y1 q => hD.2.2.2.1 x y u x0 x1 y0 (by omega) (by omega) hmem q
  have hfu : f u.toNat = f0 u.toNat := h3 u hu10.1 hu10.2 hdis hnt
  have hoth : ∀ t : Int, 0 ≤ t → t < 10 → t ≠ u → fp_upf (fp_upf f (37 + u).toNat (f u.toNat)) u.toNat (10 + x) t.toNat = f t.toNat ∧ fp_upf (fp_upf f (37 + u).toNat (f u.toNat)) u.toNat (10 + x) (37 + t).toNat = f (37 + t).toNat := by
    intro t t0 t1 ne
    rw [fp_upf_ne (by omega), fp_upf_ne (by omega), fp_upf_ne (by omega), fp_upf_ne (by omega)]
    exact ⟨rfl, rfl⟩
  have hrng : ∀ y, 0 ≤ y → y < 3 → ∀ t ∈ D.2.2.1 y, 0 ≤ t ∧ t < 10 := fun y y0 y1 t ht => ((hD.2.2.1 y y0 y1).2.2.2 t ht).1
  have e1 : (i + 1).toNat = i.toNat + 1 := by omega
  refine ⟨fun y t y0 y1 ht => ?_, fun t ht => ?_, fun t t0 t1 hy hn => ?_, fun j j0 j1 => ?_⟩
  · have r := hrng y y0 (by omega) t ht
    have ne : t ≠ u := fun e => hdis y y0 y1 (e ▸ ht)
    rw [(hoth t r.1 r.2 ne).1, (hoth t r.1 r.2 ne).2]
    exact h1 y t y0 y1 ht
  · rw [e1, take_mem (by omega), hu] at ht
    by_cases e : t = u
    · subst e
      refine ⟨by simp [fp_upf], ?_⟩
      rw [fp_upf_ne (by omega)]
      simp [fp_upf, hfu]
    · have ht2 : t ∈ (D.2.2.1 x).take i.toNat := by
        rcases ht with q | q
        · exact q
        · exact absurd q e
      have r := hrng x x0 x1 t (List.mem_of_mem_take ht2)
      rw [(hoth t r.1 r.2 e).1, (hoth t r.1 r.2 e).2]
      exact h2 t ht2
  · rw [e1, take_mem (by omega), hu] at hn
    have ne : t ≠ u := fun e => hn (Or.inr e)
    rw [(hoth t t0 t1 ne).1]
    exact h3 t t0 t1 hy (fun q => hn (Or.inl q))
  · rw [fp_upf_ne (by omega), fp_upf_ne (by omega)]; exact h4 j j0 j1
theorem smR_next {D : pD} {f0 f : Nat → Int} {x i : Int} (h : smR D f0 f x i) (x0 : 0 ≤ x) (i1 : ((D.2.2.1 x).length : Int) ≤ i) : smR D f0 f (x + 1) 0 := by
  obtain ⟨h1, h2, h3, h4⟩ := h
  rw [List.take_of_length_le (by omega)] at h2 h3
  refine ⟨fun y t y0 y1 ht => ?_, fun t ht => ?_, fun t t0 t1 hy hn => ?_, h4⟩
  · by_cases e : y = x
    · subst e; exact h2 t ht
    · exact h1 y t y0 (by omega) ht
  · simp at ht
  · exact h3 t t0 t1 (fun y y0 y1 => hy y y0 (by omega)) (hy x x0 (by omega))
section MTA
variable {l : Launch} {G : fp_WG} {M N O : fp_Mem} {tp : List Int} {D : pD} {o2 o3 : Option Value}
def tkP (D : pD) (M N : fp_Mem) : Prop := (∀ a, a ≠ 178 → N a = M a) ∧ ∃ x, D.1.2.1 ≤ x ∧ x ≤ 3 ∧ smR D (M 178) (N 178) x 0 ∧ ∀ j, 120 ≤ j → N 178 j = M 178 j
theorem tk_in {Q : fp_Q} {x : Int} (hD : dOk D) (hl : ∀ i : Int, 0 ≤ i → i < ((D.2.2.1 x).length : Int) → M 178 (10 + 9 * x + 1 + i).toNat = (D.2.2.1 x).getD i.toNat 0) (hn : M 178 (10 + 9 * x).toNat = ((D.2.2.1 x).length : Int)) (x0 : 0 ≤ x) (x1 : x < 3) (K : ∀ (N : fp_Mem) (i : Int) (o3 : Option Value), (∀ a, a ≠ 178 → N a = M a) → smR D (M 178) (N 178) (x + 1) 0 → (∀ j, 120 ≤ j → N 178 j = M 178 j) → fp_S l G 0 kX12_takes 184 [some (rV G 177), some (iV x), some (iV i), o3] [] N Q) : ∀ (k : Nat) (i : Int) (N : fp_Mem) (o3 : Option Value), (((D.2.2.1 x).length : Int) - i).toNat < k → 0 ≤ i → i ≤ ((D.2.2.1 x).length : Int) → (∀ a, a ≠ 178 → N a = M a) → smR D (M 178) (N 178) x i → (∀ j, 120 ≤ j → N 178 j = M 178 j) →
    fp_S l G 0 kX12_takes 122 [some (rV G 177), some (iV x), some (iV (1 + i)), o3] [] N Q := by
  obtain ⟨k1, k2, k3, k4⟩ := hD.2.2.1 x x0 x1
  intro k
  induction k with
  | zero => intro i N o3 hk; omega
  | succ k ih =>
    intro i N o3 hk i0 i1 hf hR h120
    have e1 : N 178 (10 + 9 * x).toNat = ((D.2.2.1 x).length : Int) := by rw [hR.2.2.2 _ (by omega) (by omega)]; exact hn
    by_cases hi : i < ((D.2.2.1 x).length : Int)
    · have e2 : N 178 (10 + 9 * x + (1 + i)).toNat = (D.2.2.1 x).getD i.toNat 0 := by rw [hR.2.2.2 _ (by omega) (by omega), ← hl i i0 hi, show (10 + 9 * x + (1 + i)).toNat = (10 + 9 * x + 1 + i).toNat by omega]
      have hmem : (D.2.2.1 x).getD i.toNat 0 ∈ D.2.2.1 x := by
        rw [List.getD_eq_getElem?_getD, List.getElem?_eq_getElem (by omega)]; exact List.getElem_mem _
      have hst := smR_step hD hR x0 x1 i0 hi
      have hu10 := (k4 _ hmem).1
      generalize hu : (D.2.2.1 x).getD i.toNat 0 = u at *
      refine S.iload_n (pc' := 123) dX12_takes_122 rfl rfl rfl ?_
      refine S.aload_n (pc' := 124) dX12_takes_123 rfl rfl rfl ?_
      refine S.getR (pc' := 127) dX12_takes_124 rfl fX12_7 L_177 rf_177_0 ?_
      refine S.bipush (pc' := 129) dX12_takes_127 rfl (by decide) ?_
      refine S.bipush (pc' := 131) dX12_takes_129 rfl (by decide) ?_
      refine S.iload_n (pc' := 132) dX12_takes_131 rfl rfl rfl ?_
      refine S.imul (pc' := 133) dX12_takes_132 rfl ?_
      refine S.iadd (pc' := 134) dX12_takes_133 rfl ?_
      refine S.iald (pc' := 135) dX12_takes_134 rfl L_178 (by omega) (by omega) ?_
      rw [e1]
      refine S.icmp_gt (pc' := 138) (tgt := 184) dX12_takes_135 (by decide) rfl (by unfold fp_rng; omega) (by unfold fp_rng; omega) (fun h135 => ?_) (fun h135 => ?_)
      · exfalso; omega
      · refine S.aload_n (pc' := 139) dX12_takes_138 rfl rfl rfl ?_
        refine S.getR (pc' := 142) dX12_takes_139 rfl fX12_7 L_177 rf_177_0 ?_
        refine S.bipush (pc' := 144) dX12_takes_142 rfl (by decide) ?_
        refine S.bipush (pc' := 146) dX12_takes_144 rfl (by decide) ?_
        refine S.iload_n (pc' := 147) dX12_takes_146 rfl rfl rfl ?_
        refine S.imul (pc' := 148) dX12_takes_147 rfl ?_
        refine S.iadd (pc' := 149) dX12_takes_148 rfl ?_
        refine S.iload_n (pc' := 150) dX12_takes_149 rfl rfl rfl ?_
        refine S.iadd (pc' := 151) dX12_takes_150 rfl ?_
        refine S.iald (pc' := 152) dX12_takes_151 rfl L_178 (by omega) (by omega) ?_
        rw [e2]
        refine S.istore_n (pc' := 153) (LL' := [_, _, _, _]) dX12_takes_152 rfl (by decide) rfl rfl rfl ?_
        refine S.aload_n (pc' := 154) dX12_takes_153 rfl rfl rfl ?_
        refine S.getR (pc' := 157) dX12_takes_154 rfl fX12_7 L_177 rf_177_0 ?_
        refine S.bipush (pc' := 159) dX12_takes_157 rfl (by decide) ?_
        refine S.iload_n (pc' := 160) dX12_takes_159 rfl rfl rfl ?_
        refine S.iadd (pc' := 161) dX12_takes_160 rfl ?_
        refine S.aload_n (pc' := 162) dX12_takes_161 rfl rfl rfl ?_
        refine S.getR (pc' := 165) dX12_takes_162 rfl fX12_7 L_177 rf_177_0 ?_
        refine S.iload_n (pc' := 166) dX12_takes_165 rfl rfl rfl ?_
        refine S.iald (pc' := 167) dX12_takes_166 rfl L_178 (by omega) (by omega) ?_
        refine S.iast (pc' := 168) dX12_takes_167 rfl L_178 (by omega) (by omega) ?_
        refine S.aload_n (pc' := 169) dX12_takes_168 rfl rfl rfl ?_
        refine S.getR (pc' := 172) dX12_takes_169 rfl fX12_7 L_177 rf_177_0 ?_
        refine S.iload_n (pc' := 173) dX12_takes_172 rfl rfl rfl ?_
        refine S.bipush (pc' := 175) dX12_takes_173 rfl (by decide) ?_
        refine S.iload_n (pc' := 176) dX12_takes_175 rfl rfl rfl ?_
        refine S.iadd (pc' := 177) dX12_takes_176 rfl ?_
        refine S.iast (pc' := 178) dX12_takes_177 rfl L_178 (by omega) (by omega) ?_
        refine S.iinc (pc' := 181) (LL' := [_, _, _, _]) dX12_takes_178 rfl (by decide) rfl rfl rfl ?_
        refine S.goto (pc' := 122) dX12_takes_181 (by decide) ?_
        rw [show (1 + i + 1 : Int) = 1 + (i + 1) by omega]
        exact ih (i + 1) _ _ (by omega) (by omega) (by omega) (fun a ha => by rw [fp_up_ne ha, fp_up_ne ha]; exact hf a ha) hst (fun j hj => by rw [fp_up_at, fp_upf_ne (by omega), fp_up_at, fp_upf_ne (by omega)]; exact h120 j hj)
    · refine S.iload_n (pc' := 123) dX12_takes_122 rfl rfl rfl ?_
      refine S.aload_n (pc' := 124) dX12_takes_123 rfl rfl rfl ?_
      refine S.getR (pc' := 127) dX12_takes_124 rfl fX12_7 L_177 rf_177_0 ?_
      refine S.bipush (pc' := 129) dX12_takes_127 rfl (by decide) ?_
      refine S.bipush (pc' := 131) dX12_takes_129 rfl (by decide) ?_
      refine S.iload_n (pc' := 132) dX12_takes_131 rfl rfl rfl ?_
      refine S.imul (pc' := 133) dX12_takes_132 rfl ?_
      refine S.iadd (pc' := 134) dX12_takes_133 rfl ?_
      refine S.iald (pc' := 135) dX12_takes_134 rfl L_178 (by omega) (by omega) ?_
      rw [e1]
      refine S.icmp_gt (pc' := 138) (tgt := 184) dX12_takes_135 (by decide) rfl (by unfold fp_rng; omega) (by unfold fp_rng; omega) (fun h135 => ?_) (fun h135 => ?_)
      · exact K _ _ _ hf (smR_next hR x0 (by omega)) h120
      · exfalso; omega
theorem tk_out {Q : fp_Q} (hD : dOk D) (hl : ∀ x, 0 ≤ x → x < 3 → M 178 (10 + 9 * x).toNat = ((D.2.2.1 x).length : Int) ∧ ∀ i : Int, 0 ≤ i → i < ((D.2.2.1 x).length : Int) → M 178 (10 + 9 * x + 1 + i).toNat = (D.2.2.1 x).getD i.toNat 0) (h5 : M 177 5 = D.1.2.1) (K : ∀ (N : fp_Mem) (o1 o2 o3 : Option Value), tkP D M N → fp_S l G 0 kX12_takes 190 [some (rV G 177), o1, o2, o3] [] N Q) : ∀ (k : Nat) (x : Int) (N : fp_Mem) (o2 o3 : Option Value), (D.1.2.1 - x).toNat < k → 0 ≤ x → x ≤ D.1.2.1 → (∀ a, a ≠ 178 → N a = M a) → smR D (M 178) (N 178) x 0 → (∀ j, 120 ≤ j → N 178 j = M 178 j) →
    fp_S l G 0 kX12_takes 112 [some (rV G 177), some (iV x), o2, o3] [] N Q := by
  have hg := hD.1.2.1
  intro k
  induction k with
  | zero => intro x N o2 o3 hk; omega
  | succ k ih =>
    intro x N o2 o3 hk x0 x1 hf hR h120
    have e5 : N 177 5 = D.1.2.1 := by rw [hf 177 (by decide)]; exact h5
    by_cases hx : x < D.1.2.1
    · obtain ⟨l1, l2⟩ := hl x x0 (by omega)
      have K184 : ∀ (N : fp_Mem) (i : Int) (o3 : Option Value), (∀ a, a ≠ 178 → N a = M a) → smR D (M 178) (N 178) (x + 1) 0 → (∀ j, 120 ≤ j → N 178 j = M 178 j) → fp_S l G 0 kX12_takes 184 [some (rV G 177), some (iV x), some (iV i), o3] [] N Q := by
        intro N2 i o3 f2 r2 h2
        refine S.iinc (pc' := 187) (LL' := [_, _, _, _]) dX12_takes_184 rfl (by decide) rfl rfl rfl ?_
        refine S.goto (pc' := 112) dX12_takes_187 (by decide) ?_
        exact ih (x + 1) _ _ _ (by omega) (by omega) (by omega) f2 r2 h2
      refine S.iload_n (pc' := 113) dX12_takes_112 rfl rfl rfl ?_
      refine S.aload_n (pc' := 114) dX12_takes_113 rfl rfl rfl ?_
      refine S.getI (pc' := 117) dX12_takes_114 rfl fX12_184 L_177 ?_
      rw [e5]
      refine S.icmp_ge (pc' := 120) (tgt := 190) dX12_takes_117 (by decide) rfl (by unfold fp_rng; omega) (by unfold fp_rng; omega) (fun h117 => ?_) (fun h117 => ?_)
      · exfalso; omega
      · refine S.iconst (pc' := 121) dX12_takes_120 rfl ?_
        refine S.istore_n (pc' := 122) (LL' := [_, _, _, _]) dX12_takes_121 rfl (by decide) rfl rfl rfl ?_
        exact tk_in hD l2 l1 x0 (by omega) K184 100 0 N _ (by have := (hD.2.2.1 x x0 (by omega)).1; omega) (by omega) (by omega) hf hR h120
    · refine S.iload_n (pc' := 113) dX12_takes_112 rfl rfl rfl ?_
      refine S.aload_n (pc' := 114) dX12_takes_113 rfl rfl rfl ?_
      refine S.getI (pc' := 117) dX12_takes_114 rfl fX12_184 L_177 ?_
      rw [e5]
      refine S.icmp_ge (pc' := 120) (tgt := 190) dX12_takes_117 (by decide) rfl (by unfold fp_rng; omega) (by unfold fp_rng; omega) (fun h117 => ?_) (fun h117 => ?_)
      · exact K _ _ _ _ ⟨hf, x, by omega, by omega, hR, h120⟩
      · exfalso; omega
/-- the rows are copied -/
def tcP (M N : fp_Mem) : Prop := (∀ a, a ≠ 178 → a ≠ 179 → a ≠ 180 → a ≠ 181 → N a = M a) ∧ (∀ j : Nat, N 178 j = if j < 120 then M 182 j else M 178 j) ∧ (∀ j : Nat, N 180 j = if j < 40 then M 184 j else M 180 j) ∧ (∀ j : Nat, N 179 j = if j < 10 then M 183 j else M 179 j) ∧ ∀ j : Nat, j < 3 → N 181 j = M 185 j
theorem tk_c1 {Q : fp_Q} (K : ∀ (N : fp_Mem) (o1 : Option Value), (∀ a, a ≠ 178 → N a = M a) → (∀ j : Nat, N 178 j = if j < 120 then M 182 j else M 178 j) → fp_S l G 0 kX12_takes 26 [some (rV G 177), o1, o2, o3] [] N Q) : ∀ (k : Nat) (i : Int) (N : fp_Mem), (120 - i).toNat < k → 0 ≤ i → i ≤ 120 → (∀ a, a ≠ 178 → N a = M a) → (∀ j : Nat, N 178 j = if (j : Int) < i then M 182 j else M 178 j) →
    fp_S l G 0 kX12_takes 2 [some (rV G 177), some (iV i), o2, o3] [] N Q := by
  intro k
  induction k with
  | zero => intro i N hk; omega
  | succ k ih =>
    intro i N hk i0 i1 hf hR
    by_cases hi : i < 120
    · refine S.iload_n (pc' := 3) dX12_takes_2 rfl rfl rfl ?_
      refine S.bipush (pc' := 5) dX12_takes_3 rfl (by decide) ?_
      refine S.icmp_ge (pc' := 8) (tgt := 26) dX12_takes_5 (by decide) rfl (by unfold fp_rng; omega) (by unfold fp_rng; omega) (fun h5 => ?_) (fun h5 => ?_)
      · exfalso; omega
      · refine S.aload_n (pc' := 9) dX12_takes_8 rfl rfl rfl ?_
        refine S.getR (pc' := 12) dX12_takes_9 rfl fX12_7 L_177 rf_177_0 ?_
        refine S.iload_n (pc' := 13) dX12_takes_12 rfl rfl rfl ?_
        refine S.aload_n (pc' := 14) dX12_takes_13 rfl rfl rfl ?_
        refine S.getR (pc' := 17) dX12_takes_14 rfl fX12_26 L_177 rf_177_7 ?_
        refine S.iload_n (pc' := 18) dX12_takes_17 rfl rfl rfl ?_
        refine S.iald (pc' := 19) dX12_takes_18 rfl L_182 (by omega) (by omega) ?_
        refine S.iast (pc' := 20) dX12_takes_19 rfl L_178 (by omega) (by omega) ?_
        refine S.iinc (pc' := 23) (LL' := [_, _, _, _]) dX12_takes_20 rfl (by decide) rfl rfl rfl ?_
        refine S.goto (pc' := 2) dX12_takes_23 (by decide) ?_
        refine ih (i + 1) _ (by omega) (by omega) (by omega) (fun a ha => by rw [fp_up_ne ha]; exact hf a ha) (fun j => ?_)
        rw [fp_up_at, hf 182 (by decide)]
        by_cases e : j = i.toNat
        · subst e; rw [if_pos (by omega)]; simp [fp_upf]
        · rw [fp_upf_ne e, hR j]
          by_cases e2 : (j : Int) < i
          · rw [if_pos e2, if_pos (by omega)]
          · rw [if_neg e2, if_neg (by omega)]
    · refine S.iload_n (pc' := 3) dX12_takes_2 rfl rfl rfl ?_
      refine S.bipush (pc' := 5) dX12_takes_3 rfl (by decide) ?_
      refine S.icmp_ge (pc' := 8) (tgt := 26) dX12_takes_5 (by decide) rfl (by unfold fp_rng; omega) (by unfold fp_rng; omega) (fun h5 => ?_) (fun h5 => ?_)
      · refine K _ _ hf (fun j => ?_)
        rw [hR j]
        by_cases e2 : j < 120
        · rw [if_pos e2, if_pos (by omega)]
        · rw [if_neg e2, if_neg (by omega)]
      · exfalso; omega
theorem tk_c2 {Q : fp_Q} (K : ∀ (N : fp_Mem) (o1 : Option Value), (∀ a, a ≠ 179 → a ≠ 180 → a ≠ 181 → N a = M a) → (∀ j : Nat, N 180 j = if j < 40 then M 184 j else M 180 j) → (∀ j : Nat, N 179 j = if j < 10 then M 183 j else M 179 j) → (∀ j : Nat, j < 3 → N 181 j = M 185 j) → fp_S l G 0 kX12_takes 86 [some (rV G 177), o1, o2, o3] [] N Q) : ∀ (k : Nat) (i : Int) (N : fp_Mem), (40 - i).toNat < k → 0 ≤ i → i ≤ 40 → (∀ a, a ≠ 179 → a ≠ 180 → a ≠ 181 → N a = M a) → (∀ j : Nat, N 180 j = if (j : Int) < i then M 184 j else M 180 j) → (∀ j : Nat, N 179 j = if (j : Int) < i ∧ j < 10 then M 183 j else M 179 j) → (∀ j : Nat, (j : Int) < i → j < 3 → N 181 j = M 185 j) →
    fp_S l G 0 kX12_takes 28 [some (rV G 177), some (iV i), o2, o3] [] N Q := by
  intro k
  induction k with
  | zero => intro i N hk; omega
  | succ k ih =>
    intro i N hk i0 i1 hf h8 h9 h81
    by_cases hi : i < 40
    · have m10 : 0 ≤ i % 10 ∧ i % 10 < 10 ∧ i % 10 ≤ i := by omega
      have m3 : 0 ≤ i % 3 ∧ i % 3 < 3 ∧ i % 3 ≤ i := by omega
      have m10' : i < 10 → i % 10 = i := by omega
      have m3' : i < 3 → i % 3 = i := by omega
      refine S.iload_n (pc' := 29) dX12_takes_28 rfl rfl rfl ?_
      refine S.bipush (pc' := 31) dX12_takes_29 rfl (by decide) ?_
      refine S.icmp_ge (pc' := 34) (tgt := 86) dX12_takes_31 (by decide) rfl (by unfold fp_rng; omega) (by unfold fp_rng; omega) (fun h31 => ?_) (fun h31 => ?_)
      · exfalso; omega
      · refine S.aload_n (pc' := 35) dX12_takes_34 rfl rfl rfl ?_
        refine S.getR (pc' := 38) dX12_takes_35 rfl fX12_16 L_177 rf_177_2 ?_
        refine S.iload_n (pc' := 39) dX12_takes_38 rfl rfl rfl ?_
        refine S.aload_n (pc' := 40) dX12_takes_39 rfl rfl rfl ?_
        refine S.getR (pc' := 43) dX12_takes_40 rfl fX12_32 L_177 rf_177_9 ?_
        refine S.iload_n (pc' := 44) dX12_takes_43 rfl rfl rfl ?_
        refine S.iald (pc' := 45) dX12_takes_44 rfl L_184 (by omega) (by omega) ?_
        refine S.iast (pc' := 46) dX12_takes_45 rfl L_180 (by omega) (by omega) ?_
        refine S.aload_n (pc' := 47) dX12_takes_46 rfl rfl rfl ?_
        refine S.getR (pc' := 50) dX12_takes_47 rfl fX12_13 L_177 rf_177_1 ?_
        refine S.iload_n (pc' := 51) dX12_takes_50 rfl rfl rfl ?_
        refine S.bipush (pc' := 53) dX12_takes_51 rfl (by decide) ?_
        refine S.irem (pc' := 54) dX12_takes_53 rfl (by decide) (fp_rem10 (by omega)) ?_
        refine S.aload_n (pc' := 55) dX12_takes_54 rfl rfl rfl ?_
        refine S.getR (pc' := 58) dX12_takes_55 rfl fX12_29 L_177 rf_177_8 ?_
        refine S.iload_n (pc' := 59) dX12_takes_58 rfl rfl rfl ?_
        refine S.bipush (pc' := 61) dX12_takes_59 rfl (by decide) ?_
        refine S.irem (pc' := 62) dX12_takes_61 rfl (by decide) (fp_rem10 (by omega)) ?_
        refine S.iald (pc' := 63) dX12_takes_62 rfl L_183 (by omega) (by omega) ?_
        refine S.iast (pc' := 64) dX12_takes_63 rfl L_179 (by omega) (by omega) ?_
        refine S.aload_n (pc' := 65) dX12_takes_64 rfl rfl rfl ?_
        refine S.getR (pc' := 68) dX12_takes_65 rfl fX12_19 L_177 rf_177_3 ?_
        refine S.iload_n (pc' := 69) dX12_takes_68 rfl rfl rfl ?_
        refine S.iconst (pc' := 70) dX12_takes_69 rfl ?_
        refine S.irem (pc' := 71) dX12_takes_70 rfl (by decide) (fp_rem3 (by omega)) ?_
        refine S.aload_n (pc' := 72) dX12_takes_71 rfl rfl rfl ?_
        refine S.getR (pc' := 75) dX12_takes_72 rfl fX12_35 L_177 rf_177_10 ?_
        refine S.iload_n (pc' := 76) dX12_takes_75 rfl rfl rfl ?_
        refine S.iconst (pc' := 77) dX12_takes_76 rfl ?_
        refine S.irem (pc' := 78) dX12_takes_77 rfl (by decide) (fp_rem3 (by omega)) ?_
        refine S.iald (pc' := 79) dX12_takes_78 rfl L_185 (by omega) (by omega) ?_
        refine S.iast (pc' := 80) dX12_takes_79 rfl L_181 (by omega) (by omega) ?_
        refine S.iinc (pc' := 83) (LL' := [_, _, _, _]) dX12_takes_80 rfl (by decide) rfl rfl rfl ?_
        refine S.goto (pc' := 28) dX12_takes_83 (by decide) ?_
        refine ih (i + 1) _ (by omega) (by omega) (by omega) (fun a a1 a2 a3 => by rw [fp_up_ne a3, fp_up_ne a1, fp_up_ne a2]; exact hf a a1 a2 a3) (fun j => ?_) (fun j => ?_) (fun j j1 j3 => ?_)
        · rw [fp_up_ne (by decide), fp_up_ne (by decide), fp_up_at, hf 184 (by decide) (by decide) (by decide)]
          by_cases e : j = i.toNat
          · subst e; rw [if_pos (by omega)]; simp [fp_upf]
          · rw [fp_upf_ne e, h8 j]
            by_cases e2 : (j : Int) < i
            · rw [if_pos e2, if_pos (by omega)]
            · rw [if_neg e2, if_neg (by omega)]
        · rw [fp_up_ne (by decide), fp_up_at, fp_up_ne (by decide), fp_up_ne (by decide), hf 183 (by decide) (by decide) (by decide)]
          by_cases e : j = (i % 10).toNat
          · subst e; rw [if_pos (by omega)]; simp [fp_upf]
          · rw [fp_upf_ne e, h9 j]
            by_cases e2 : (j : Int) < i ∧ j < 10
            · rw [if_pos e2, if_pos (by omega)]
            · rw [if_neg e2, if_neg (by omega)]
        · rw [fp_up_at, fp_up_ne (by decide), fp_up_ne (by decide), fp_up_ne (by decide), fp_up_ne (by decide), hf 185 (by decide) (by decide) (by decide)]
          by_cases e : j = (i % 3).toNat
          · subst e; simp [fp_upf]
          · rw [fp_upf_ne e]; exact h81 j (by omega) j3
    · refine S.iload_n (pc' := 29) dX12_takes_28 rfl rfl rfl ?_
      refine S.bipush (pc' := 31) dX12_takes_29 rfl (by decide) ?_
      refine S.icmp_ge (pc' := 34) (tgt := 86) dX12_takes_31 (by decide) rfl (by unfold fp_rng; omega) (by unfold fp_rng; omega) (fun h31 => ?_) (fun h31 => ?_)
      · refine K _ _ hf (fun j => ?_) (fun j => ?_) (fun j j3 => h81 j (by omega) j3)
        · rw [h8 j]
          by_cases e2 : j < 40
          · rw [if_pos e2, if_pos (by omega)]
          · rw [if_neg e2, if_neg (by omega)]
        · rw [h9 j]
          by_cases e2 : j < 10
          · rw [if_pos e2, if_pos (by omega)]
          · rw [if_neg e2, if_neg (by omega)]
      · exfalso; omega
end MTA
end
section
/-! A TEXT TAKEN: the reference, in abstract words -/
def tkW (D : pD) (M N : fp_Mem) : Prop := ((∀ a, a ≠ 177 → a ≠ 178 → a ≠ 179 → a ≠ 180 → a ≠ 181 → a ≠ 199 → N a = M a) ∧ ∀ j, j ≠ 4 → j ≠ 5 → j ≠ 6 → N 177 j = M 177 j) ∧ mdIs N D.1 ∧ mpIs N 0 D.1 (pPg D) ∧ mvRow (N 178) D.2.2.2.2.2 ∧ mnRow (N 178) [] ∧ N 199 0 = 0 ∧ N 199 1 = 0
theorem pPg_at {D : pD} (hD : dOk D) (t : Int) : (∃ x, (0 ≤ x ∧ x < 3) ∧ t ∈ D.2.2.1 x ∧ (pPg D).1 t = 10 + x) ∨ ((∀ x, 0 ≤ x → x < 3 → t ∉ D.2.2.1 x) ∧ (pPg D).1 t = D.2.1 t) := by
  show (∃ x, (0 ≤ x ∧ x < 3) ∧ t ∈ D.2.2.1 x ∧ (if t ∈ D.2.2.1 0 then (10 : Int) else if t ∈ D.2.2.1 1 then 11 else if t ∈ D.2.2.1 2 then 12 else D.2.1 t) = 10 + x) ∨ ((∀ x, 0 ≤ x → x < 3 → t ∉ D.2.2.1 x) ∧ (if t ∈ D.2.2.1 0 then (10 : Int) else if t ∈ D.2.2.1 1 then 11 else if t ∈ D.2.2.1 2 then 12 else D.2.1 t) = D.2.1 t)
  by_cases n0 : t ∈ D.2.2.1 0
  · rw [if_pos n0]; exact Or.inl ⟨0, by omega, n0, rfl⟩
  · rw [if_neg n0]
    by_cases n1 : t ∈ D.2.2.1 1
    · rw [if_pos n1]; exact Or.inl ⟨1, by omega, n1, rfl⟩
    · rw [if_neg n1]
      by_cases n2 : t ∈ D.2.2.1 2
      · rw [if_pos n2]; exact Or.inl ⟨2, by omega, n2, rfl⟩
      · rw [if_neg n2]
        refine Or.inr ⟨fun x x0 x1 => ?_, rfl⟩
        rcases (show x = 0 ∨ x = 1 ∨ x = 2 by omega) with rfl | rfl | rfl
        · exact n0
        · exact n1
        · exact n2
/-- the row of the state, all that lies put in its place -/
theorem sm_page {D : pD} {f0 f : Nat → Int} {x : Int} (hD : dOk D) (hs : stOk D) (h : smR D f0 f x 0) (hx : D.1.2.1 ≤ x ∧ x ≤ 3) (hp : mrP f0 D.1 D.2.1 D.2.2.1) : mpRow f 0 D.1 (pPg D) := by
  obtain ⟨h1, h2, h3, h4⟩ := h
  have hg := hD.1.1
  have hg2 := hD.1.2.1
  have hlt : ∀ y t, 0 ≤ y → y < 3 → t ∈ D.2.2.1 y → y < D.1.2.1 := by
    intro y t y0 y1 ht
    by_cases e : y < D.1.2.1
    · exact e
    · rw [(hD.2.2.1 y y0 y1).2.2.1 (by omega)] at ht
      exact (List.not_mem_nil ht).elim
  refine ⟨fun t t0 t1 => ?_, fun t t0 t1 h10 => ?_, fun y y0 y1 => ?_⟩
  · rw [show (0 + t).toNat = t.toNat by omega]
    rcases pPg_at hD t with ⟨y, hy, hm, e⟩ | ⟨hn, e⟩
    · rw [e]; exact (h1 y t hy.1 (by have := hlt y t hy.1 hy.2 hm; omega) hm).1
    · rw [e, h3 t t0 (by omega) (fun y y0 y1 ht => ?_) (by simp)]
      · exact hp.1 t t0 t1
      · by_cases y3 : y < 3
        · exact hn y y0 y3 ht
        · exact absurd y1 (by omega)
  · rw [show (0 + 37 + t).toNat = (37 + t).toNat by omega]
    rcases pPg_at hD t with ⟨y, hy, hm, e⟩ | ⟨hn, e⟩
    · rw [(h1 y t hy.1 (by have := hlt y t hy.1 hy.2 hm; omega) hm).2]
      exact hp.1 t t0 t1
    · rw [e] at h10
      have := hD.2.1 t t0 t1
      omega
  · obtain ⟨p1, p2⟩ := hp.2 y y0 y1
    have hlen := (hD.2.2.1 y y0 y1).1
    show _ = ((D.2.2.1 y).length : Int) ∧ ∀ i : Int, 0 ≤ i → i < ((D.2.2.1 y).length : Int) → _ = (D.2.2.1 y).getD i.toNat 0
    refine ⟨?_, fun i i0 i1 => ?_⟩
    · rw [show (0 + 10 + 9 * y).toNat = (10 + 9 * y).toNat by omega, h4 _ (by omega) (by omega)]; exact p1
    · rw [show (0 + 10 + 9 * y + 1 + i).toNat = (10 + 9 * y + 1 + i).toNat by omega, h4 _ (by omega) (by omega)]; exact p2 i i0 i1
section MTB
variable {l : Launch} {G : fp_WG} {M N O : fp_Mem} {tp : List Int} {D : pD}
theorem tk_26 {N1 : fp_Mem} {o1 o2 o3 : Option Value} {Q : fp_Q} (hd : mrD M D) (hD : dOk D)
    (hend : ∀ (N1 N2 N3 N : fp_Mem) (o1 o2 o3 : Option Value), (∀ a, a ≠ 178 → N1 a = M a) → (∀ j : Nat, N1 178 j = if j < 120 then M 182 j else M 178 j) → (∀ a, a ≠ 179 → a ≠ 180 → a ≠ 181 → N2 a = N1 a) → (∀ j : Nat, N2 180 j = if j < 40 then M 184 j else M 180 j) → (∀ j : Nat, N2 179 j = if j < 10 then M 183 j else M 179 j) → (∀ j : Nat, j < 3 → N2 181 j = M 185 j) → N3 = fp_up (fp_up (fp_up N2 177 4 D.1.1) 177 5 D.1.2.1) 177 6 D.1.2.2.1 → tkP D N3 N → fp_S l G 0 kX12_takes 190 [some (rV G 177), o1, o2, o3] [] N Q)
    (a1 : ∀ a, a ≠ 178 → N1 a = M a) (b1 : ∀ j : Nat, N1 178 j = if j < 120 then M 182 j else M 178 j) : fp_S l G 0 kX12_takes 26 [some (rV G 177), o1, o2, o3] [] N1 Q := by
  obtain ⟨⟨g1, g2, g3, -⟩, ⟨p1, p2⟩, -⟩ := hd
  have hK : ∀ (N2 : fp_Mem) (o1 : Option Value), (∀ a, a ≠ 179 → a ≠ 180 → a ≠ 181 → N2 a = N1 a) → (∀ j : Nat, N2 180 j = if j < 40 then N1 184 j else N1 180 j) → (∀ j : Nat, N2 179 j = if j < 10 then N1 183 j else N1 179 j) → (∀ j : Nat, j < 3 → N2 181 j = N1 185 j) → fp_S l G 0 kX12_takes 86 [some (rV G 177), o1, o2, o3] [] N2 Q := by
    intro N2 o1 a2 b8 b9 b81
    rw [a1 184 (by decide), a1 180 (by decide)] at b8
    rw [a1 183 (by decide), a1 179 (by decide)] at b9
    rw [a1 185 (by decide)] at b81
    have e177 : N2 177 = M 177 := by rw [a2 177 (by decide) (by decide) (by decide), a1 177 (by decide)]
    have e178 : ∀ j : Nat, j < 120 → N2 178 j = M 182 j := fun j hj => by rw [a2 178 (by decide) (by decide) (by decide), b1 j, if_pos hj]
    have x11 : N2 177 11 = D.1.1 := by rw [e177]; exact g1
    have x12 : ∀ z, fp_up N2 177 4 z 177 12 = D.1.2.1 := fun z => by show N2 177 12 = _; rw [e177]; exact g2
    have x13 : ∀ z y, fp_up (fp_up N2 177 4 z) 177 5 y 177 13 = D.1.2.2.1 := fun z y => by show N2 177 13 = _; rw [e177]; exact g3
    have hlen : ∀ x, 0 ≤ x → x < 3 → (D.2.2.1 x).length ≤ 8 := fun x x0 x1 => (hD.2.2.1 x x0 x1).1
    have hg2 := hD.1.2.1
    refine S.aload_n (pc' := 87) dX12_takes_86 rfl rfl rfl ?_
    refine S.aload_n (pc' := 88) dX12_takes_87 rfl rfl rfl ?_
    refine S.getI (pc' := 91) dX12_takes_88 rfl fX12_139 L_177 ?_
    rw [x11]
    refine S.putI (pc' := 94) dX12_takes_91 rfl fX12_181 L_177 ?_
    refine S.aload_n (pc' := 95) dX12_takes_94 rfl rfl rfl ?_
    refine S.aload_n (pc' := 96) dX12_takes_95 rfl rfl rfl ?_
    refine S.getI (pc' := 99) dX12_takes_96 rfl fX12_146 L_177 ?_
    rw [x12]
    refine S.putI (pc' := 102) dX12_takes_99 rfl fX12_184 L_177 ?_
    refine S.aload_n (pc' := 103) dX12_takes_102 rfl rfl rfl ?_
    refine S.aload_n (pc' := 104) dX12_takes_103 rfl rfl rfl ?_
    refine S.getI (pc' := 107) dX12_takes_104 rfl fX12_174 L_177 ?_
    rw [x13]
    refine S.putI (pc' := 110) dX12_takes_107 rfl fX12_22 L_177 ?_
    refine S.iconst (pc' := 111) dX12_takes_110 rfl ?_
    refine S.istore_n (pc' := 112) (LL' := [_, _, _, _]) dX12_takes_111 rfl (by decide) rfl rfl rfl ?_
    refine tk_out (M := fp_up (fp_up (fp_up N2 177 4 D.1.1) 177 5 D.1.2.1) 177 6 D.1.2.2.1) hD (fun x x0 x1 => ?_) rfl (fun N o1 o2 o3 q => hend N1 N2 _ N o1 o2 o3 a1 b1 a2 b8 b9 b81 rfl q) 5 0 _ _ _ (by omega) (by omega) (by omega) (fun _ _ => rfl) ⟨fun y t y0 y1 => absurd y1 (by omega), fun t ht => by simp at ht, fun t _ _ _ _ => rfl, fun j _ _ => rfl⟩ (fun _ _ => rfl)
    · have := hlen x x0 x1
      refine ⟨?_, fun i i0 i1 => ?_⟩
      · show N2 178 _ = _
        rw [e178 _ (by omega)]; exact (p2 x x0 x1).1
      · show N2 178 _ = _
        rw [e178 _ (by omega)]; exact (p2 x x0 x1).2 i i0 i1
  refine S.iconst (pc' := 27) dX12_takes_26 rfl ?_
  refine S.istore_n (pc' := 28) (LL' := [_, _, _, _]) dX12_takes_27 rfl (by decide) rfl rfl rfl ?_
  exact tk_c2 hK 41 0 N1 (by omega) (by omega) (by omega) (fun _ _ _ _ => rfl) (fun j => by rw [if_neg (by omega)]) (fun j => by rw [if_neg (by omega)]) (fun j j0 _ => by omega)
theorem rk_X12_takes (hd : mrD M D) (hD : dOk D) (hs : stOk D) (hi : mrI M) (hz9 : M 179 10 = 0) (hz8 : ∀ p : Int, 0 ≤ p → p < 4 → M 180 (40 + p).toNat = 0) : fp_Ok l G 0 kX12_takes [rV G 177] M (qV fun N => tkW D M N) := by
  refine fp_Ok.of (r := 3) rfl (Nat.le_of_ble_eq_true rfl) rfl ?_
  have hg := hD.1
  have hlen : ∀ x, 0 ≤ x → x < 3 → (D.2.2.1 x).length ≤ 8 := fun x x0 x1 => (hD.2.2.1 x x0 x1).1
  have hend : ∀ (N1 N2 N3 N : fp_Mem) (o1 o2 o3 : Option Value), (∀ a, a ≠ 178 → N1 a = M a) → (∀ j : Nat, N1 178 j = if j < 120 then M 182 j else M 178 j) → (∀ a, a ≠ 179 → a ≠ 180 → a ≠ 181 → N2 a = N1 a) → (∀ j : Nat, N2 180 j = if j < 40 then M 184 j else M 180 j) → (∀ j : Nat, N2 179 j = if j < 10 then M 183 j else M 179 j) → (∀ j : Nat, j < 3 → N2 181 j = M 185 j) → N3 = fp_up (fp_up (fp_up N2 177 4 D.1.1) 177 5 D.1.2.1) 177 6 D.1.2.2.1 → tkP D N3 N → fp_S l G 0 kX12_takes 190 [some (rV G 177), o1, o2, o3] [] N (qV fun N => tkW D M N) := by
    intro N1 N2 N3 N o1 o2 o3 a1 b1 a2 b8 b9 b81 e3 hP
    obtain ⟨f, x, x1, x2, hR, h120⟩ := hP
    have c1 : ∀ a, a ≠ 177 → a ≠ 178 → a ≠ 179 → a ≠ 180 → a ≠ 181 → N a = M a := fun a q1 q2 q3 q4 q5 => by rw [f a q2, e3, fp_up_ne q1, fp_up_ne q1, fp_up_ne q1, a2 a q3 q4 q5, a1 a q2]
    have c2 : ∀ j, j ≠ 4 → j ≠ 5 → j ≠ 6 → N 177 j = M 177 j := fun j j4 j5 j6 => by rw [f 177 (by decide), e3, fp_up_at, fp_upf_ne j6, fp_up_at, fp_upf_ne j5, fp_up_at, fp_upf_ne j4, a2 177 (by decide) (by decide) (by decide), a1 177 (by decide)]
    have g4 : N 177 4 = D.1.1 := by rw [f 177 (by decide), e3]; rfl
    have g5 : N 177 5 = D.1.2.1 := by rw [f 177 (by decide), e3]; rfl
    have g6 : N 177 6 = D.1.2.2.1 := by rw [f 177 (by decide), e3]; rfl
    have r178 : ∀ j : Nat, j < 120 → N3 178 j = M 182 j := fun j hj => by rw [e3, fp_up_ne (by decide), fp_up_ne (by decide), fp_up_ne (by decide), a2 178 (by decide) (by decide) (by decide), b1 j, if_pos hj]
    have r180 : ∀ j : Nat, N 180 j = if j < 40 then M 184 j else M 180 j := fun j => by rw [f 180 (by decide), e3, fp_up_ne (by decide), fp_up_ne (by decide), fp_up_ne (by decide), b8 j]
    have r179 : ∀ j : Nat, N 179 j = if j < 10 then M 183 j else M 179 j := fun j => by rw [f 179 (by decide), e3, fp_up_ne (by decide), fp_up_ne (by decide), fp_up_ne (by decide), b9 j]
    have r181 : ∀ j : Nat, j < 3 → N 181 j = M 185 j := fun j hj => by rw [f 181 (by decide), e3, fp_up_ne (by decide), fp_up_ne (by decide), fp_up_ne (by decide), b81 j hj]
    have hf0 : ∀ j : Nat, 47 ≤ j → j < 120 → N 178 j = M 182 j := fun j j0 j1 => by rw [hR.2.2.2 j (by omega) (by omega)]; exact r178 j j1
    have hmrP : mrP (N3 178) D.1 D.2.1 D.2.2.1 := by
      obtain ⟨p1, p2⟩ := hd.2.1
      refine ⟨fun t t0 t1 => ?_, fun y y0 y1 => ?_⟩
      · have := hg.1; rw [r178 _ (by omega)]; exact p1 t t0 t1
      · have := hlen y y0 y1
        refine ⟨by rw [r178 _ (by omega)]; exact (p2 y y0 y1).1, fun i i0 i1 => ?_⟩
        rw [r178 _ (by omega)]; exact (p2 y y0 y1).2 i i0 i1
    have hpg := sm_page hD hs hR ⟨x1, x2⟩ hmrP
    have hmd : mdIs N D.1 := by
      obtain ⟨k1, k2, k3, k4, k5, k6⟩ := hd.1
      obtain ⟨i1, i2, i3⟩ := hi
      have g1 := hg.1
      have g2 := hg.2.1
      refine ⟨g4, g5, g6, fun t t0 t1 => ?_, ?_, fun t p t0 t1 p0 p1 => ?_, fun p p0 p1 => ?_, fun y y0 y1 => ?_, ⟨by rw [g4]; exact hg.1, by rw [g5]; exact hg.2.1, by rw [g6]; exact hg.2.2.1, fun i i0 i4 => ?_, fun i i0 i4 => ?_, fun y y0 y1 => ?_⟩⟩
      · rw [r179, if_pos (by omega)]; exact k4 t t0 t1
      · rw [r179, if_neg (by omega)]; exact hz9
      · rw [r180, if_pos (by omega)]; exact k5 t p t0 t1 p0 p1
      · rw [r180, if_neg (by omega)]; exact hz8 p p0 p1
      · rw [r181 _ (by omega)]; exact k6 y y0 y1
      · rw [r179]
        by_cases e : i < 10
        · rw [if_pos (by omega)]; have := i1 i i0 e; omega
        · rw [if_neg (by omega), show i.toNat = 10 by omega, hz9]; omega
      · rw [r180]
        by_cases e : i < 40
        · rw [if_pos (by omega)]; exact i2 i i0 e
        · rw [if_neg (by omega)]
          have := hz8 (i - 40) (by omega) (by omega)
          rw [show (40 + (i - 40)).toNat = i.toNat by omega] at this
          rw [this]; omega
      · rw [r181 _ (by omega)]; exact i3 y y0 y1
    have hmv : mvRow (N 178) D.2.2.2.2.2 := by
      obtain ⟨q1, q2, q3⟩ := hd.2.2.1
      refine ⟨by rw [hf0 _ (by omega) (by omega)]; exact q1, q2, fun i i0 i1 => ?_⟩
      rw [hf0 _ (by omega) (by omega), hf0 _ (by omega) (by omega), hf0 _ (by omega) (by omega), hf0 _ (by omega) (by omega)]
      exact q3 i i0 i1
    have hmn : mnRow (N 178) [] := ⟨by rw [hf0 _ (by omega) (by omega)]; exact hd.2.2.2.2.2.1, by simp, fun i i0 i1 => absurd i1 (by simp; omega)⟩
    refine S.aload_n (pc' := 191) dX12_takes_190 rfl rfl rfl ?_
    refine S.getR (pc' := 194) dX12_takes_191 rfl fX12_78 L_177 rf_177_40 ?_
    refine S.iconst (pc' := 195) dX12_takes_194 rfl ?_
    refine S.iconst (pc' := 196) dX12_takes_195 rfl ?_
    refine S.zast (pc' := 197) dX12_takes_196 rfl L_199 (by omega) (by omega) (by first | exact Or.inl rfl | exact Or.inr rfl | omega) ?_
    refine S.aload_n (pc' := 198) dX12_takes_197 rfl rfl rfl ?_
    refine S.getR (pc' := 201) dX12_takes_198 rfl fX12_78 L_177 rf_177_40 ?_
    refine S.iconst (pc' := 202) dX12_takes_201 rfl ?_
    refine S.iconst (pc' := 203) dX12_takes_202 rfl ?_
    refine S.zast (pc' := 204) dX12_takes_203 rfl L_199 (by omega) (by omega) (by first | exact Or.inl rfl | exact Or.inr rfl | omega) ?_
    refine S.vret dX12_takes_204 rfl ?_
    refine ⟨⟨fun a q1 q2 q3 q4 q5 q6 => by rw [fp_up_ne q6, fp_up_ne q6]; exact c1 a q1 q2 q3 q4 q5, fun j j4 j5 j6 => by rw [fp_up_ne (by decide), fp_up_ne (by decide)]; exact c2 j j4 j5 j6⟩, hmd, hpg, hmv, hmn, rfl, rfl⟩
  refine S.iconst (pc' := 1) dX12_takes_0 rfl ?_
  refine S.istore_n (pc' := 2) (LL' := [_, _, _, _]) dX12_takes_1 rfl (by decide) rfl rfl rfl ?_
  refine tk_c1 (fun N1 o1 a1 b1 => ?_) 121 0 M (by omega) (by omega) (by omega) (fun _ _ => rfl) (fun j => by rw [if_neg (by omega)])
  exact tk_26 hd hD hend a1 b1
end MTB
end
section
/-! bank: the reference -/
section MBK
variable {l : Launch} {G : fp_WG} {M N : fp_Mem} {tp : List Int} {fl : Int} {g : aGd} {pg : aPg} {vs : List aVt} {nt : List Int} {im : aIm} {sh : aSh} {tn : Int}
def mbQ (tp : List Int) (M : fp_Mem) (g : aGd) (pg : aPg) (vs : List aVt) (nt : List Int) (im : aIm) (sh : aSh) (tn : Int) (z : Int) (N : fp_Mem) : Prop := mrI N ∧ (∀ c, c < 177 → N c = M c) ∧ ((∃ h fl', bkR tp = .inl h ∧ z = -10 - h ∧ MS N [] fl' g pg vs nt im sh tn) ∨ ∃ r, bkR tp = .inr r ∧ z = r.1 ∧ MS N [] 0 r.2.1 r.2.2.1 r.2.2.2 [] (fun _ => none) sh tn)
/-- refused -/
theorem mb_no {h : Int} (hc : MS M tp fl g pg vs nt im sh tn) (hf : frQ M N) (hi : mrI N) (hb : mtB N h) (hR : bkR tp = .inl h) (i : Int) (o : Option Value) : fp_S l G 5 kX12_bank 132 [some (rV G 177), some (iV i), o] [] N (qI fun z N => mbQ tp M g pg vs nt im sh tn z N) := by
  have b1 := hb.1
  have b2 := hb.2
  obtain ⟨hA, hG, hP, hV, hN, hI, hS, hK⟩ := hc
  have hMS : MS (fp_up (fp_up N 177 19 0) 177 20 (N 177 21)) [] (N 177 21) g pg vs nt im sh tn := by
    generalize hX : fp_up (fp_up N 177 19 0) 177 20 (N 177 21) = X
    have xc : ∀ a, (177 < a ∧ a < 182) ∨ 185 < a → X a = M a := fun a ha => by rw [← hX, fp_up_ne (by omega), fp_up_ne (by omega)]; exact hf.1 a (by omega)
    have x19 : X 177 19 = 0 := by rw [← hX]; rfl
    have x20 : X 177 20 = N 177 21 := by rw [← hX]; rfl
    have xj : ∀ j, (j < 11 ∨ 26 < j) → X 177 j = M 177 j := fun j hj => by rw [← hX, fp_up_at, fp_upf_ne (by omega), fp_up_at, fp_upf_ne (by omega)]; exact hf.2 j (by omega)
    refine ⟨⟨x19, by simp, fun i i0 i1 => absurd i1 (by simp; omega), x20, by rw [xj 44 (by omega)]; exact hA.2.2.2.2⟩, ?_, ?_, ?_, ?_, ?_, ?_, ?_⟩
    · unfold mdIs md_ok at *
      rw [xj 4 (by omega), xj 5 (by omega), xj 6 (by omega), xc 179 (by omega), xc 180 (by omega), xc 181 (by omega)]; exact hG
    · unfold mpIs at *
      rw [xc 178 (by omega)]; exact hP
    · rw [xc 178 (by omega)]; exact hV
    · rw [xc 178 (by omega)]; exact hN
    · unfold msI at *
      rw [xc 178 (by omega), xc 199 (by omega)]; exact hI
    · unfold msS at *
      rw [xc 200 (by omega), xc 201 (by omega), xc 202 (by omega)]; exact hS
    · unfold msK at *
      rw [xc 187 (by omega), xc 188 (by omega)]; exact hK
  have x21 : fp_up N 177 19 0 177 21 = N 177 21 := rfl
  have y21 : fp_up (fp_up N 177 19 0) 177 20 (N 177 21) 177 21 = N 177 21 := rfl
  have y22 : fp_up (fp_up N 177 19 0) 177 20 (N 177 21) 177 22 = h := b2
  refine S.aload_n (pc' := 133) dX12_bank_132 rfl rfl rfl ?_
  refine S.iconst (pc' := 134) dX12_bank_133 rfl ?_
  refine S.putI (pc' := 137) dX12_bank_134 rfl fX12_91 L_177 ?_
  refine S.aload_n (pc' := 138) dX12_bank_137 rfl rfl rfl ?_
  refine S.aload_n (pc' := 139) dX12_bank_138 rfl rfl rfl ?_
  refine S.getI (pc' := 142) dX12_bank_139 rfl fX12_98 L_177 ?_
  rw [x21]
  refine S.putI (pc' := 145) dX12_bank_142 rfl fX12_190 L_177 ?_
  refine S.aload_n (pc' := 146) dX12_bank_145 rfl rfl rfl ?_
  refine S.getI (pc' := 149) dX12_bank_146 rfl fX12_98 L_177 ?_
  rw [y21]
  refine S.if_le (pc' := 152) (tgt := 160) dX12_bank_149 (by decide) rfl (by unfold fp_rng; omega) (fun h149 => ?_) (fun h149 => ?_)
  · exfalso; omega
  · refine S.bipush (pc' := 154) dX12_bank_152 rfl (by decide) ?_
    refine S.aload_n (pc' := 155) dX12_bank_154 rfl rfl rfl ?_
    refine S.getI (pc' := 158) dX12_bank_155 rfl fX12_104 L_177 ?_
    rw [y22]
    refine S.isub (pc' := 159) dX12_bank_158 rfl ?_
    refine S.iret dX12_bank_159 rfl ?_
    exact ⟨hi.kept rfl rfl rfl, fun c hc => by rw [fp_up_ne (by omega), fp_up_ne (by omega)]; exact hf.1 c (by omega), Or.inl ⟨h, _, hR, rfl, hMS⟩⟩
/-- taken -/
theorem mb_yes {q : Int × pD} (hc : MS M tp fl g pg vs nt im sh tn) (hf : frQ M N) (hi : mrI N) (hb : N 177 21 = 0) (hd : mrD N q.2) (hD : dOk q.2) (hs : stOk q.2) (hR : bkR tp = .inr (q.1, q.2.1, pPg q.2, q.2.2.2.2.2.2)) (o : Option Value) : fp_S l G 5 kX12_bank 132 [some (rV G 177), some (iV q.1), o] [] N (qI fun z N => mbQ tp M g pg vs nt im sh tn z N) := by
  obtain ⟨hA, hG, hP, hV, hN, hI, hS, hK⟩ := hc
  have x21 : fp_up N 177 19 0 177 21 = 0 := hb
  have y21 : fp_up (fp_up N 177 19 0) 177 20 0 177 21 = 0 := hb
  have hd2 : mrD (fp_up (fp_up N 177 19 0) 177 20 0) q.2 := hd.kept (fun a a0 a1 => by rw [fp_up_ne (by omega), fp_up_ne (by omega)]) (fun j j0 j1 => by rw [fp_up_at, fp_upf_ne (by omega), fp_up_at, fp_upf_ne (by omega)])
  have hi2 : mrI (fp_up (fp_up N 177 19 0) 177 20 0) := hi.kept rfl rfl rfl
  have hz9 : fp_up (fp_up N 177 19 0) 177 20 0 179 10 = 0 := by
    show N 179 10 = 0
    rw [hf.1 179 (by omega)]; exact hG.2.2.2.2.1
  have hz8 : ∀ p : Int, 0 ≤ p → p < 4 → fp_up (fp_up N 177 19 0) 177 20 0 180 (40 + p).toNat = 0 := fun p p0 p1 => by
    show N 180 _ = 0
    rw [hf.1 180 (by omega)]; exact hG.2.2.2.2.2.2.1 p p0 p1
  refine S.aload_n (pc' := 133) dX12_bank_132 rfl rfl rfl ?_
  refine S.iconst (pc' := 134) dX12_bank_133 rfl ?_
  refine S.putI (pc' := 137) dX12_bank_134 rfl fX12_91 L_177 ?_
  refine S.aload_n (pc' := 138) dX12_bank_137 rfl rfl rfl ?_
  refine S.aload_n (pc' := 139) dX12_bank_138 rfl rfl rfl ?_
  refine S.getI (pc' := 142) dX12_bank_139 rfl fX12_98 L_177 ?_
  rw [x21]
  refine S.putI (pc' := 145) dX12_bank_142 rfl fX12_190 L_177 ?_
  refine S.aload_n (pc' := 146) dX12_bank_145 rfl rfl rfl ?_
  refine S.getI (pc' := 149) dX12_bank_146 rfl fX12_98 L_177 ?_
  rw [y21]
  refine S.if_le (pc' := 152) (tgt := 160) dX12_bank_149 (by decide) rfl (by unfold fp_rng; omega) (fun h149 => ?_) (fun h149 => ?_)
  · refine S.aload_n (pc' := 161) dX12_bank_160 rfl rfl rfl ?_
    refine S.callVv (pc' := 164) dX12_bank_161 rfl cX12_193 (rk_X12_takes hd2 hD hs hi2 hz9 hz8) rfl L_177 (by decide) rfl (Nat.le_of_ble_eq_true rfl) (fun M161 q161 => ?_)
    refine S.iload_n (pc' := 165) dX12_bank_164 rfl rfl rfl ?_
    refine S.iret dX12_bank_165 rfl ?_
    obtain ⟨⟨f1, f2⟩, w1, w2, w3, w4, w5, w6⟩ := q161
    have xc : ∀ a, (a < 177 ∨ 185 < a) → a ≠ 199 → M161 a = M a := fun a ha h9 => by rw [f1 a (by omega) (by omega) (by omega) (by omega) (by omega) h9, fp_up_ne (by omega), fp_up_ne (by omega)]; exact hf.1 a (by omega)
    refine ⟨hi2.kept (f1 183 (by decide) (by decide) (by decide) (by decide) (by decide) (by decide)) (f1 184 (by decide) (by decide) (by decide) (by decide) (by decide) (by decide)) (f1 185 (by decide) (by decide) (by decide) (by decide) (by decide) (by decide)), fun c hc => xc c (by omega) (by omega), Or.inr ⟨_, hR, rfl, ⟨⟨?_, by simp, fun i i0 i1 => absurd i1 (by simp; omega), ?_, ?_⟩, w1, w2, w3, w4, fun k k0 k1 => Or.inl ⟨rfl, ?_⟩, ?_, ?_⟩⟩⟩
    · rw [f2 19 (by decide) (by decide) (by decide)]; rfl
    · rw [f2 20 (by decide) (by decide) (by decide)]; rfl
    · rw [f2 44 (by decide) (by decide) (by decide)]
      show N 177 44 = tn
      rw [hf.2 44 (by omega)]; exact hA.2.2.2.2
    · rcases (show k = 0 ∨ k = 1 by omega) with rfl | rfl
      · exact w5
      · exact w6
    · unfold msS at *
      rw [xc 200 (by omega) (by omega), xc 201 (by omega) (by omega), xc 202 (by omega) (by omega)]; exact hS
    · unfold msK at *
      rw [xc 187 (by omega) (by omega), xc 188 (by omega) (by omega)]; exact hK
  · exact absurd h149 (by decide)
theorem st_hi {D : pD} (hd : mrD N D) (hD : dOk D) : (N 177 15 < D.1.1 ∧ N 177 16 < D.1.2.1) ↔ stOk D := by
  obtain ⟨k1, k2, k3, k4⟩ := hd.2.2.2.2.2.2
  have g1 := hD.1.1
  have g2 := hD.1.2.1
  rw [k3 _ g1.1, k4 _ g2.1]
  unfold stOk
  constructor
  · rintro ⟨⟨a, b⟩, c⟩
    exact ⟨a, fun v hv => ⟨Or.inr (b v hv), c v hv⟩⟩
  · rintro ⟨a, b⟩
    refine ⟨⟨a, fun v hv => ?_⟩, fun v hv => (b v hv).2⟩
    rcases (b v hv).1 with q | q
    · omega
    · exact q
theorem mb_97 {z : Int} (ht : tpOk tp) (hc : MS M tp fl g pg vs nt im sh tn) (h : txM tp M N (pText tp (tp.length + 1) 0 0 pD0) z) (o : Option Value) : fp_S l G 5 kX12_bank 97 [some (rV G 177), some (iV z), o] [] N (qI fun z N => mbQ tp M g pg vs nt im sh tn z N) := by
  obtain ⟨hf, hi, hcs⟩ := h
  have hn := ht.1
  rcases hcs with ⟨h, e, hb⟩ | ⟨q, e, rfl, h21, h24, hd, hD⟩
  · have b1 := hb.1
    have hR : bkR tp = .inl h := by unfold bkR; rw [e]
    refine S.aload_n (pc' := 98) dX12_bank_97 rfl rfl rfl ?_
    refine S.getI (pc' := 101) dX12_bank_98 rfl fX12_98 L_177 ?_
    refine S.if_ne (pc' := 104) (tgt := 132) dX12_bank_101 (by decide) rfl (by unfold fp_rng; omega) (fun h101 => ?_) (fun h101 => ?_)
    · exact mb_no hc hf hi hb hR _ _
    · exfalso; omega
  · obtain ⟨k1, k2, k3, k4⟩ := hd.2.2.2.2.2.2
    have g1 := hD.1.1
    have g2 := hD.1.2.1
    have x11 : N 177 11 = q.2.1.1 := hd.1.1
    have x12 : N 177 12 = q.2.1.2.1 := hd.1.2.1
    have hst := st_hi hd hD
    have hno : ¬ stOk q.2 → fp_S l G 5 kX12_bank 132 [some (rV G 177), some (iV q.1), o] [] (fp_up (fp_up N 177 21 6) 177 22 (N 177 24)) (qI fun z N => mbQ tp M g pg vs nt im sh tn z N) := by
      intro hs
      have hR : bkR tp = .inl (tp.length : Int) := by unfold bkR; rw [e]; simp only; rw [if_neg hs]
      exact mb_no (N := fp_up (fp_up N 177 21 6) 177 22 (N 177 24)) hc ((hf.up (by omega)).up (by omega)) (hi.kept rfl rfl rfl) ⟨(by decide : (1 : Int) ≤ 6 ∧ (6 : Int) ≤ 6), h24⟩ hR _ _
    have hyes : stOk q.2 → fp_S l G 5 kX12_bank 132 [some (rV G 177), some (iV q.1), o] [] N (qI fun z N => mbQ tp M g pg vs nt im sh tn z N) := by
      intro hs
      have hR : bkR tp = .inr (q.1, q.2.1, pPg q.2, q.2.2.2.2.2.2) := by unfold bkR; rw [e]; simp only; rw [if_pos hs]
      exact mb_yes hc hf hi h21 hd hD hs hR _
    refine S.aload_n (pc' := 98) dX12_bank_97 rfl rfl rfl ?_
    refine S.getI (pc' := 101) dX12_bank_98 rfl fX12_98 L_177 ?_
    rw [h21]
    refine S.if_ne (pc' := 104) (tgt := 132) dX12_bank_101 (by decide) rfl (by unfold fp_rng; omega) (fun h101 => ?_) (fun h101 => ?_)
    · first
      | exact absurd rfl h101
      | exact hno (fun s => by have := hst.mpr s; omega)
      | exact hyes (hst.mp (by omega))
    · refine S.aload_n (pc' := 105) dX12_bank_104 rfl rfl rfl ?_
      refine S.getI (pc' := 108) dX12_bank_105 rfl fX12_156 L_177 ?_
      refine S.aload_n (pc' := 109) dX12_bank_108 rfl rfl rfl ?_
      refine S.getI (pc' := 112) dX12_bank_109 rfl fX12_139 L_177 ?_
      rw [x11]
      refine S.icmp_ge (pc' := 115) (tgt := 126) dX12_bank_112 (by decide) rfl (by unfold fp_rng; omega) (by unfold fp_rng; omega) (fun h112 => ?_) (fun h112 => ?_)
      · refine S.aload_n (pc' := 127) dX12_bank_126 rfl rfl rfl ?_
        refine S.bipush (pc' := 129) dX12_bank_127 rfl (by decide) ?_
        refine S.callVw (pc' := 132) dX12_bank_129 rfl cX12_128 (mt_fails0 h21) rfl L_177 (by decide) rfl (Nat.le_of_ble_eq_true rfl) ?_
        first
        | exact absurd rfl h101
        | exact hno (fun s => by have := hst.mpr s; omega)
        | exact hyes (hst.mp (by omega))
      · refine S.aload_n (pc' := 116) dX12_bank_115 rfl rfl rfl ?_
        refine S.getI (pc' := 119) dX12_bank_116 rfl fX12_159 L_177 ?_
        refine S.aload_n (pc' := 120) dX12_bank_119 rfl rfl rfl ?_
        refine S.getI (pc' := 123) dX12_bank_120 rfl fX12_146 L_177 ?_
        rw [x12]
        refine S.icmp_lt (pc' := 126) (tgt := 132) dX12_bank_123 (by decide) rfl (by unfold fp_rng; omega) (by unfold fp_rng; omega) (fun h123 => ?_) (fun h123 => ?_)
        · first
          | exact absurd rfl h101
          | exact hno (fun s => by have := hst.mpr s; omega)
          | exact hyes (hst.mp (by omega))
        · refine S.aload_n (pc' := 127) dX12_bank_126 rfl rfl rfl ?_
          refine S.bipush (pc' := 129) dX12_bank_127 rfl (by decide) ?_
          refine S.callVw (pc' := 132) dX12_bank_129 rfl cX12_128 (mt_fails0 h21) rfl L_177 (by decide) rfl (Nat.le_of_ble_eq_true rfl) ?_
          first
          | exact absurd rfl h101
          | exact hno (fun s => by have := hst.mpr s; omega)
          | exact hyes (hst.mp (by omega))
theorem mb_z {Q : fp_Q} (K : ∀ (N : fp_Mem) (o : Option Value), (∀ a, a ≠ 182 → N a = M a) → (∀ j : Nat, j < 120 → N 182 j = 0) → fp_S l G 5 kX12_bank 69 [some (rV G 177), some (iV 0), o] [] N Q) : ∀ (k : Nat) (i : Int) (N : fp_Mem), (120 - i).toNat < k → 0 ≤ i → i ≤ 120 → (∀ a, a ≠ 182 → N a = M a) → (∀ j : Nat, (j : Int) < i → N 182 j = 0) →
    fp_S l G 5 kX12_bank 50 [some (rV G 177), some (iV 0), some (iV i)] [] N Q := by
  intro k
  induction k with
  | zero => intro i N hk; omega
  | succ k ih =>
    intro i N hk i0 i1 hf hz
    by_cases hi : i < 120
    · refine S.iload_n (pc' := 51) dX12_bank_50 rfl rfl rfl ?_
      refine S.bipush (pc' := 53) dX12_bank_51 rfl (by decide) ?_
      refine S.icmp_ge (pc' := 56) (tgt := 69) dX12_bank_53 (by decide) rfl (by unfold fp_rng; omega) (by unfold fp_rng; omega) (fun h53 => ?_) (fun h53 => ?_)
      · exfalso; omega
      · refine S.aload_n (pc' := 57) dX12_bank_56 rfl rfl rfl ?_
        refine S.getR (pc' := 60) dX12_bank_57 rfl fX12_26 L_177 rf_177_7 ?_
        refine S.iload_n (pc' := 61) dX12_bank_60 rfl rfl rfl ?_
        refine S.iconst (pc' := 62) dX12_bank_61 rfl ?_
        refine S.iast (pc' := 63) dX12_bank_62 rfl L_182 (by omega) (by omega) ?_
        refine S.iinc (pc' := 66) (LL' := [_, _, _]) dX12_bank_63 rfl (by decide) rfl rfl rfl ?_
        refine S.goto (pc' := 50) dX12_bank_66 (by decide) ?_
        refine ih (i + 1) _ (by omega) (by omega) (by omega) (fun a ha => by rw [fp_up_ne ha]; exact hf a ha) (fun j hj => ?_)
        rw [fp_up_at]
        by_cases e : j = i.toNat
        · subst e; simp [fp_upf]
        · rw [fp_upf_ne e]; exact hz j (by omega)
    · refine S.iload_n (pc' := 51) dX12_bank_50 rfl rfl rfl ?_
      refine S.bipush (pc' := 53) dX12_bank_51 rfl (by decide) ?_
      refine S.icmp_ge (pc' := 56) (tgt := 69) dX12_bank_53 (by decide) rfl (by unfold fp_rng; omega) (by unfold fp_rng; omega) (fun h53 => ?_) (fun h53 => ?_)
      · exact K _ _ hf (fun j hj => hz j (by omega))
      · exfalso; omega
def mb0 (M : fp_Mem) : fp_Mem := fp_up (fp_up (fp_up (fp_up (fp_up (fp_up (fp_up (fp_up (fp_up M 177 21 0) 177 23 0) 177 11 0) 177 12 0) 177 13 10) 177 14 0) 177 15 (-1)) 177 16 (-1)) 177 17 0
theorem mm_bank (hc : MS M tp fl g pg vs nt im sh tn) (hi : mrI M) : fp_Ok l G 5 kX12_bank [rV G 177] M (qI fun z N => mbQ tp M g pg vs nt im sh tn z N) := by
  refine fp_Ok.of (r := 2) rfl (Nat.le_of_ble_eq_true rfl) rfl ?_
  have hA := hc.1
  have hK : msK M := hc.2.2.2.2.2.2.2
  have ht : tpOk tp := ⟨hA.2.1, fun i i0 i1 => (hA.2.2.1 i i0 i1).1⟩
  have hm : mtT M tp := ⟨hA.1, fun i i0 i1 => (hA.2.2.1 i i0 i1).2⟩
  have f0 : frQ M (mb0 M) := by
    unfold mb0
    exact (((((((((frQ.refl M).up (by omega)).up (by omega)).up (by omega)).up (by omega)).up (by omega)).up (by omega)).up (by omega)).up (by omega)).up (by omega)
  have h69 : ∀ (N : fp_Mem) (o : Option Value), (∀ a, a ≠ 182 → N a = mb0 M a) → (∀ j : Nat, j < 120 → N 182 j = 0) → fp_S l G 5 kX12_bank 69 [some (rV G 177), some (iV 0), o] [] N (qI fun z N => mbQ tp M g pg vs nt im sh tn z N) := by
    intro N o a1 b1
    have e177 : N 177 = mb0 M 177 := a1 177 (by decide)
    have fN : frQ M N := by
      refine ⟨fun a ha => by rw [a1 a (by omega)]; exact f0.1 a ha, fun j hj => by rw [e177]; exact f0.2 j hj⟩
    have iN : mrI N := hi.kept (by rw [a1 183 (by decide)]; rfl) (by rw [a1 184 (by decide)]; rfl) (by rw [a1 185 (by decide)]; rfl)
    have dN : mrD N pD0 := by
      refine ⟨⟨by rw [e177]; rfl, by rw [e177]; rfl, by rw [e177]; rfl, fun t t0 t1 => absurd t1 (by show ¬ t < 0; omega), fun t p t0 t1 => absurd t1 (by show ¬ t < 0; omega), fun x x0 x1 => absurd x1 (by show ¬ x < 0; omega)⟩, ⟨fun t t0 t1 => absurd t1 (by show ¬ t < 0; omega), fun x x0 x1 => ⟨by rw [b1 _ (by omega)]; rfl, fun i i0 i1 => absurd i1 (by show ¬ i < 0; omega)⟩⟩, ⟨by rw [b1 _ (by omega)]; rfl, by show (0 : Nat) ≤ 12; omega, fun i i0 i1 => absurd i1 (by show ¬ i < 0; omega)⟩, by rw [e177]; rfl, by rw [e177]; rfl, b1 104 (by omega), ?_⟩
      rw [e177]
      show mrH (-1) (-1) (fun _ => []) []
      refine ⟨by omega, by omega, fun n n0 => ⟨fun _ => ⟨fun x t _ _ ht => (List.not_mem_nil ht).elim, fun v hv => (List.not_mem_nil hv).elim⟩, fun _ => by omega⟩, fun n n0 => ⟨fun _ v hv => (List.not_mem_nil hv).elim, fun _ => by omega⟩⟩
    refine S.aload_n (pc' := 70) dX12_bank_69 rfl rfl rfl ?_
    refine S.callVv (pc' := 73) dX12_bank_70 rfl cX12_136 (mt_step (s := 0) ht (fN.T hm) (by rw [e177]; rfl) (by rw [e177]; rfl) (by omega) (by omega)) rfl L_177 (by decide) rfl (Nat.le_of_ble_eq_true rfl) (fun M70 q70 => ?_)
    exact mb_loop ht hm hK (fun N' z' h => mb_97 ht hc h _) (tp.length + 1) 0 0 pD0 _ (by omega) (by omega) (by omega) (fN.trans q70.1.Q) ⟨by omega, q70.2.1, q70.2.2⟩ (q70.1.D dN) pD0_ok (q70.1.I iN) rfl
  refine S.aload_n (pc' := 1) dX12_bank_0 rfl rfl rfl ?_
  refine S.iconst (pc' := 2) dX12_bank_1 rfl ?_
  refine S.putI (pc' := 5) dX12_bank_2 rfl fX12_98 L_177 ?_
  refine S.aload_n (pc' := 6) dX12_bank_5 rfl rfl rfl ?_
  refine S.iconst (pc' := 7) dX12_bank_6 rfl ?_
  refine S.putI (pc' := 10) dX12_bank_7 rfl fX12_110 L_177 ?_
  refine S.aload_n (pc' := 11) dX12_bank_10 rfl rfl rfl ?_
  refine S.iconst (pc' := 12) dX12_bank_11 rfl ?_
  refine S.putI (pc' := 15) dX12_bank_12 rfl fX12_139 L_177 ?_
  refine S.aload_n (pc' := 16) dX12_bank_15 rfl rfl rfl ?_
  refine S.iconst (pc' := 17) dX12_bank_16 rfl ?_
  refine S.putI (pc' := 20) dX12_bank_17 rfl fX12_146 L_177 ?_
  refine S.aload_n (pc' := 21) dX12_bank_20 rfl rfl rfl ?_
  refine S.bipush (pc' := 23) dX12_bank_21 rfl (by decide) ?_
  refine S.putI (pc' := 26) dX12_bank_23 rfl fX12_174 L_177 ?_
  refine S.aload_n (pc' := 27) dX12_bank_26 rfl rfl rfl ?_
  refine S.iconst (pc' := 28) dX12_bank_27 rfl ?_
  refine S.putZ (pc' := 31) dX12_bank_28 rfl fX12_170 L_177 (by first | exact Or.inl rfl | exact Or.inr rfl | omega) ?_
  refine S.aload_n (pc' := 32) dX12_bank_31 rfl rfl rfl ?_
  refine S.iconst (pc' := 33) dX12_bank_32 rfl ?_
  refine S.putI (pc' := 36) dX12_bank_33 rfl fX12_156 L_177 ?_
  refine S.aload_n (pc' := 37) dX12_bank_36 rfl rfl rfl ?_
  refine S.iconst (pc' := 38) dX12_bank_37 rfl ?_
  refine S.putI (pc' := 41) dX12_bank_38 rfl fX12_159 L_177 ?_
  refine S.aload_n (pc' := 42) dX12_bank_41 rfl rfl rfl ?_
  refine S.iconst (pc' := 43) dX12_bank_42 rfl ?_
  refine S.putI (pc' := 46) dX12_bank_43 rfl fX12_153 L_177 ?_
  refine S.iconst (pc' := 47) dX12_bank_46 rfl ?_
  refine S.istore_n (pc' := 48) (LL' := [_, _, _]) dX12_bank_47 rfl (by decide) rfl rfl rfl ?_
  refine S.iconst (pc' := 49) dX12_bank_48 rfl ?_
  refine S.istore_n (pc' := 50) (LL' := [_, _, _]) dX12_bank_49 rfl (by decide) rfl rfl rfl ?_
  exact mb_z (M := mb0 M) h69 121 0 _ (by omega) (by omega) (by omega) (fun _ _ => rfl) (fun j hj => by omega)
end MBK
end
section
/-! CHANCES: one row of who comes, the reference -/
/-- of the first k visits those come whose bit is set: the weight, the page -/
def chI (g : aGd) (pg : aPg) (vs : List aVt) (m : Int) : Nat → Int × aPg
  | 0 => (1, pg)
  | k + 1 => if (chI g pg vs m k).1 ≤ 0 then chI g pg vs m k else if m.toNat.testBit k = true then ((chI g pg vs m k).1 * g.2.2.1, (aHapI g (chI g pg vs m k).2 vs k).2) else ((chI g pg vs m k).1 * (10 - g.2.2.1), (chI g pg vs m k).2)
theorem chI_in {g : aGd} {pg : aPg} {vs : List aVt} {m : Int} (hg : gOk g) (hP : pgOk g pg) (hv : vsOk g vs) : ∀ k : Nat, (0 ≤ (chI g pg vs m k).1 ∧ (chI g pg vs m k).1 ≤ 10 ^ k) ∧ pgOk g (chI g pg vs m k).2
  | 0 => ⟨by show (0 : Int) ≤ 1 ∧ (1 : Int) ≤ 10 ^ 0; decide, hP⟩
  | k + 1 => by
    obtain ⟨⟨h1, h2⟩, h3⟩ := chI_in (m := m) hg hP hv k
    have hc := hg.2.2.1
    have hp : (10 : Int) ^ (k + 1) = 10 ^ k * 10 := Int.pow_succ 10 k
    have hmul : ∀ c : Int, 0 ≤ c → c ≤ 10 → 0 ≤ (chI g pg vs m k).1 * c ∧ (chI g pg vs m k).1 * c ≤ 10 ^ k * 10 := fun c c0 c1 => ⟨Int.mul_nonneg h1 c0, Int.mul_le_mul h2 c1 c0 (by omega)⟩
    unfold chI
    rw [hp]
    split
    · exact ⟨⟨h1, by omega⟩, h3⟩
    · split
      · exact ⟨hmul _ hc.1 hc.2, aHapI_ok hg h3 hv⟩
      · exact ⟨hmul _ (by omega) (by omega), h3⟩
theorem chI_stay {g : aGd} {pg : aPg} {vs : List aVt} {m : Int} {k : Nat} (h : (chI g pg vs m k).1 ≤ 0) : ∀ d, chI g pg vs m (k + d) = chI g pg vs m k
  | 0 => rfl
  | d + 1 => by
    have e := chI_stay h d
    rw [show k + (d + 1) = (k + d) + 1 by omega]
    rw [chI, e, if_pos h]
theorem pow10_le {k : Nat} (h : k ≤ 10) : (10 : Int) ^ k ≤ 10000000000 := by
  have q : ∀ k : Nat, k < 11 → (10 : Int) ^ k ≤ 10000000000 := by decide +kernel
  exact q k (by omega)
section MCH
variable {l : Launch} {G : fp_WG} {M N : fp_Mem} {g : aGd} {pg : aPg} {vs : List aVt}
theorem ch_in {x m : Int} {Q : fp_Q} (hg : gOk g) (hP : pgOk g pg) (hvo : vsOk g vs) (hl : vs.length ≤ 10) (hm : 0 ≤ m ∧ m < 1024) (K : ∀ (N : fp_Mem) (o6 o7 : Option Value), frT M N → mpIs N 360 g (chI g pg vs m vs.length).2 → fp_S l G 5 kX12_layChances 156 [some (rV G 177), some (iV x), some (iV (vs.length : Int)), some (iV m), some (jV (chI g pg vs m vs.length).1), none, o6, o7] [] N Q) : ∀ (r k : Nat) (N : fp_Mem) (o7 : Option Value), vs.length - k < r → k ≤ vs.length → frT M N → mpIs N 360 g (chI g pg vs m k).2 → mdIs N g → mvIs N vs →
    fp_S l G 5 kX12_layChances 79 [some (rV G 177), some (iV x), some (iV (vs.length : Int)), some (iV m), some (jV (chI g pg vs m k).1), none, some (iV (k : Int)), o7] [] N Q := by
  intro r
  induction r with
  | zero => intro k N o7 hr; omega
  | succ r ih =>
    intro k N o7 hr hk hf hp hd hv
    obtain ⟨⟨w0, w1⟩, wP⟩ := chI_in (m := m) hg hP hvo k
    have w2 := pow10_le (show k ≤ 10 by omega)
    have hc := hg.2.2.1
    have e6 : N 177 6 = g.2.2.1 := hd.2.2.1
    have h150 : ∀ (O : fp_Mem) (w : Int) (y : Int), fp_S l G 5 kX12_layChances 79 [some (rV G 177), some (iV x), some (iV (vs.length : Int)), some (iV m), some (jV w), none, some (iV ((k : Int) + 1)), some (iV y)] [] O Q → fp_S l G 5 kX12_layChances 150 [some (rV G 177), some (iV x), some (iV (vs.length : Int)), some (iV m), some (jV w), none, some (iV (k : Int)), some (iV y)] [] O Q := by
      intro O w y h
      refine S.iinc (pc' := 153) (LL' := [_, _, _, _, _, _, _, _]) dX12_layChances_150 rfl (by decide) rfl rfl rfl ?_
      refine S.goto (pc' := 79) dX12_layChances_153 (by decide) ?_
      exact h
    by_cases he : k < vs.length
    · by_cases hw : (chI g pg vs m k).1 ≤ 0
      · have hst : chI g pg vs m vs.length = chI g pg vs m k := by
          have := chI_stay hw (vs.length - k)
          rwa [show k + (vs.length - k) = vs.length by omega] at this
        rw [hst] at K
        refine S.iload (pc' := 81) dX12_layChances_79 rfl rfl ?_
        refine S.iload_n (pc' := 82) dX12_layChances_81 rfl rfl rfl ?_
        refine S.icmp_ge (pc' := 85) (tgt := 156) dX12_layChances_82 (by decide) rfl (by unfold fp_rng; omega) (by unfold fp_rng; omega) (fun h82 => ?_) (fun h82 => ?_)
        · exact K _ _ _ hf hp
        · refine S.lload (pc' := 87) dX12_layChances_85 rfl rfl ?_
          refine S.lconst (pc' := 88) (w := 0) dX12_layChances_87 rfl rfl ?_
          refine S.lcmp (pc' := 89) dX12_layChances_88 rfl (by unfold fp_lng; omega) (by unfold fp_lng; omega) ?_
          refine S.if_le (pc' := 92) (tgt := 156) dX12_layChances_89 (by decide) rfl (by unfold fp_rng; omega) (fun h89 => ?_) (fun h89 => ?_)
          · exact K _ _ _ hf hp
          · exfalso; split at h89 <;> omega
      · have hdn : 0 ≤ m / 2 ^ ((k : Int)).toNat := Int.ediv_nonneg hm.1 (Int.le_of_lt (Int.pow_pos (by decide)))
        have hbit := fp_bitv (v := m) (i := (k : Int)) hm.1
        rw [Int.toNat_natCast] at hbit hdn
        by_cases hb : m.toNat.testBit k = true
        · rw [if_pos hb] at hbit
          have hnx : chI g pg vs m (k + 1) = ((chI g pg vs m k).1 * g.2.2.1, (aHapI g (chI g pg vs m k).2 vs k).2) := by rw [chI, if_neg hw, if_pos hb]
          refine S.iload (pc' := 81) dX12_layChances_79 rfl rfl ?_
          refine S.iload_n (pc' := 82) dX12_layChances_81 rfl rfl rfl ?_
          refine S.icmp_ge (pc' := 85) (tgt := 156) dX12_layChances_82 (by decide) rfl (by unfold fp_rng; omega) (by unfold fp_rng; omega) (fun h82 => ?_) (fun h82 => ?_)
          · exfalso; first | omega | (split at h89 <;> omega)
          · refine S.lload (pc' := 87) dX12_layChances_85 rfl rfl ?_
            refine S.lconst (pc' := 88) (w := 0) dX12_layChances_87 rfl rfl ?_
            refine S.lcmp (pc' := 89) dX12_layChances_88 rfl (by unfold fp_lng; omega) (by unfold fp_lng; omega) ?_
            refine S.if_le (pc' := 92) (tgt := 156) dX12_layChances_89 (by decide) rfl (by unfold fp_rng; omega) (fun h89 => ?_) (fun h89 => ?_)
            · exfalso; first | omega | (split at h89 <;> omega)
            · refine S.iload_n (pc' := 93) dX12_layChances_92 rfl rfl rfl ?_
              refine S.iload (pc' := 95) dX12_layChances_93 rfl rfl ?_
              refine S.ishr (pc' := 96) dX12_layChances_95 rfl (fp_shrv (by omega) (by omega)) ?_
              rw [Int.toNat_natCast]
              refine S.iconst (pc' := 97) dX12_layChances_96 rfl ?_
              refine S.iand (pc' := 98) dX12_layChances_97 rfl (fp_iand hdn (by decide)) ?_
              rw [hbit]
              refine S.iconst (pc' := 99) dX12_layChances_98 rfl ?_
              refine S.icmp_ne (pc' := 102) (tgt := 106) dX12_layChances_99 (by decide) rfl (by unfold fp_rng; omega) (by unfold fp_rng; omega) (fun h99 => ?_) (fun h99 => ?_)
              · exact absurd rfl h99
              · refine S.iconst (pc' := 103) dX12_layChances_102 rfl ?_
                refine S.goto (pc' := 107) dX12_layChances_103 (by decide) ?_
                refine S.istore (pc' := 109) (LL' := [_, _, _, _, _, _, _, _]) dX12_layChances_107 rfl (by decide) rfl rfl ?_
                refine S.lload (pc' := 111) dX12_layChances_109 rfl rfl ?_
                refine S.iload (pc' := 113) dX12_layChances_111 rfl rfl ?_
                refine S.if_eq (pc' := 116) (tgt := 124) dX12_layChances_113 (by decide) rfl (by unfold fp_rng; omega) (fun h113 => ?_) (fun h113 => ?_)
                · exact absurd h113 (by decide)
                · refine S.aload_n (pc' := 117) dX12_layChances_116 rfl rfl rfl ?_
                  refine S.getI (pc' := 120) dX12_layChances_117 rfl fX12_22 L_177 ?_
                  rw [e6]
                  refine S.i2l (pc' := 121) dX12_layChances_120 rfl (by unfold fp_rng; omega) ?_
                  refine S.goto (pc' := 132) dX12_layChances_121 (by decide) ?_
                  refine S.lmul (pc' := 133) dX12_layChances_132 rfl ?_
                  refine S.lstore (pc' := 135) (LL' := [_, _, _, _, _, _, _, _]) dX12_layChances_133 rfl (by decide) rfl rfl (by decide) ?_
                  refine S.iload (pc' := 137) dX12_layChances_135 rfl rfl ?_
                  refine S.if_eq (pc' := 140) (tgt := 150) dX12_layChances_137 (by decide) rfl (by unfold fp_rng; omega) (fun h137 => ?_) (fun h137 => ?_)
                  · first
                    | exact absurd h137 (by decide)
                    | (refine h150 _ _ _ ?_
                       obtain ⟨_, p1, p2⟩ := q146
                       have e1 : ((k : Int) + 1) = ((k + 1 : Nat) : Int) := by omega
                       rw [e1, show (chI g pg vs m k).1 * g.2.2.1 = (chI g pg vs m (k + 1)).1 by rw [hnx]]
                       exact ih (k + 1) _ _ (by omega) (by omega) (hf.trans p2.toT) (by rw [hnx]; exact p1) (p2.toT.md hd) (p2.toT.mv hv))
                  · refine S.aload_n (pc' := 141) dX12_layChances_140 rfl rfl rfl ?_
                    refine S.sipush (pc' := 144) dX12_layChances_141 rfl (by decide) ?_
                    refine S.iload (pc' := 146) dX12_layChances_144 rfl rfl ?_
                    refine S.callVi (pc' := 149) dX12_layChances_146 rfl cX12_261 (rk_X12_happens (a := 360) (vs := vs) (i := (k : Int)) (by omega) hv hd hp wP hg hvo (by omega)) rfl L_177 (by decide) rfl (Nat.le_of_ble_eq_true rfl) (fun z146 M146 q146 => ?_)
                    refine S.pop (pc' := 150) dX12_layChances_149 rfl rfl ?_
                    first
                    | exact absurd h137 (by decide)
                    | (refine h150 _ _ _ ?_
                       obtain ⟨_, p1, p2⟩ := q146
                       have e1 : ((k : Int) + 1) = ((k + 1 : Nat) : Int) := by omega
                       rw [e1, show (chI g pg vs m k).1 * g.2.2.1 = (chI g pg vs m (k + 1)).1 by rw [hnx]]
                       exact ih (k + 1) _ _ (by omega) (by omega) (hf.trans p2.toT) (by rw [hnx]; exact p1) (p2.toT.md hd) (p2.toT.mv hv))
        · rw [if_neg hb] at hbit
          have hnx : chI g pg vs m (k + 1) = ((chI g pg vs m k).1 * (10 - g.2.2.1), (chI g pg vs m k).2) := by rw [chI, if_neg hw, if_neg hb]
          refine S.iload (pc' := 81) dX12_layChances_79 rfl rfl ?_
          refine S.iload_n (pc' := 82) dX12_layChances_81 rfl rfl rfl ?_
          refine S.icmp_ge (pc' := 85) (tgt := 156) dX12_layChances_82 (by decide) rfl (by unfold fp_rng; omega) (by unfold fp_rng; omega) (fun h82 => ?_) (fun h82 => ?_)
          · exfalso; first | omega | (split at h89 <;> omega)
          · refine S.lload (pc' := 87) dX12_layChances_85 rfl rfl ?_
            refine S.lconst (pc' := 88) (w := 0) dX12_layChances_87 rfl rfl ?_
            refine S.lcmp (pc' := 89) dX12_layChances_88 rfl (by unfold fp_lng; omega) (by unfold fp_lng; omega) ?_
            refine S.if_le (pc' := 92) (tgt := 156) dX12_layChances_89 (by decide) rfl (by unfold fp_rng; omega) (fun h89 => ?_) (fun h89 => ?_)
            · exfalso; first | omega | (split at h89 <;> omega)
            · refine S.iload_n (pc' := 93) dX12_layChances_92 rfl rfl rfl ?_
              refine S.iload (pc' := 95) dX12_layChances_93 rfl rfl ?_
              refine S.ishr (pc' := 96) dX12_layChances_95 rfl (fp_shrv (by omega) (by omega)) ?_
              rw [Int.toNat_natCast]
              refine S.iconst (pc' := 97) dX12_layChances_96 rfl ?_
              refine S.iand (pc' := 98) dX12_layChances_97 rfl (fp_iand hdn (by decide)) ?_
              rw [hbit]
              refine S.iconst (pc' := 99) dX12_layChances_98 rfl ?_
              refine S.icmp_ne (pc' := 102) (tgt := 106) dX12_layChances_99 (by decide) rfl (by unfold fp_rng; omega) (by unfold fp_rng; omega) (fun h99 => ?_) (fun h99 => ?_)
              · refine S.iconst (pc' := 107) dX12_layChances_106 rfl ?_
                refine S.istore (pc' := 109) (LL' := [_, _, _, _, _, _, _, _]) dX12_layChances_107 rfl (by decide) rfl rfl ?_
                refine S.lload (pc' := 111) dX12_layChances_109 rfl rfl ?_
                refine S.iload (pc' := 113) dX12_layChances_111 rfl rfl ?_
                refine S.if_eq (pc' := 116) (tgt := 124) dX12_layChances_113 (by decide) rfl (by unfold fp_rng; omega) (fun h113 => ?_) (fun h113 => ?_)
                · refine S.bipush (pc' := 126) dX12_layChances_124 rfl (by decide) ?_
                  refine S.aload_n (pc' := 127) dX12_layChances_126 rfl rfl rfl ?_
                  refine S.getI (pc' := 130) dX12_layChances_127 rfl fX12_22 L_177 ?_
                  refine S.isub (pc' := 131) dX12_layChances_130 rfl ?_
                  rw [e6]
                  refine S.i2l (pc' := 132) dX12_layChances_131 rfl (by unfold fp_rng; omega) ?_
                  refine S.lmul (pc' := 133) dX12_layChances_132 rfl ?_
                  refine S.lstore (pc' := 135) (LL' := [_, _, _, _, _, _, _, _]) dX12_layChances_133 rfl (by decide) rfl rfl (by decide) ?_
                  refine S.iload (pc' := 137) dX12_layChances_135 rfl rfl ?_
                  refine S.if_eq (pc' := 140) (tgt := 150) dX12_layChances_137 (by decide) rfl (by unfold fp_rng; omega) (fun h137 => ?_) (fun h137 => ?_)
                  · refine S.iinc (pc' := 153) (LL' := [_, _, _, _, _, _, _, _]) dX12_layChances_150 rfl (by decide) rfl rfl rfl ?_
                    refine S.goto (pc' := 79) dX12_layChances_153 (by decide) ?_
                    have e1 : ((k : Int) + 1) = ((k + 1 : Nat) : Int) := by omega
                    rw [e1, show (chI g pg vs m k).1 * (10 - g.2.2.1) = (chI g pg vs m (k + 1)).1 by rw [hnx]]
                    exact ih (k + 1) _ _ (by omega) (by omega) hf (by rw [hnx]; exact hp) hd hv
                  · exact absurd rfl h137
                · exact absurd rfl h113
              · exact absurd h99 (by decide)
    · have ek : k = vs.length := by omega
      subst ek
      refine S.iload (pc' := 81) dX12_layChances_79 rfl rfl ?_
      refine S.iload_n (pc' := 82) dX12_layChances_81 rfl rfl rfl ?_
      refine S.icmp_ge (pc' := 85) (tgt := 156) dX12_layChances_82 (by decide) rfl (by unfold fp_rng; omega) (by unfold fp_rng; omega) (fun h82 => ?_) (fun h82 => ?_)
      · exact K _ _ _ hf hp
      · exfalso; omega
end MCH
end
section
/-! CHANCES: all rows, the reference -/
def chF (g : aGd) (pg : aPg) (vs : List aVt) (x : Int) : Nat → Int → Int
  | 0, _ => 0
  | m + 1, t => chF g pg vs x m t + (if aGv g (chI g pg vs m vs.length).2 x = t ∧ 0 < (chI g pg vs m vs.length).1 then (chI g pg vs m vs.length).1 else 0)
def frL (M N : fp_Mem) : Prop := (∀ c, c ≠ 178 → c ≠ 192 → N c = M c) ∧ ∀ j : Nat, (j < 360 ∨ 410 ≤ j) → N 178 j = M 178 j
theorem frL.refl (M : fp_Mem) : frL M M := ⟨fun _ _ _ => rfl, fun _ _ => rfl⟩
theorem frL.trans {M N O : fp_Mem} (h1 : frL M N) (h2 : frL N O) : frL M O := ⟨fun c hc h9 => (h2.1 c hc h9).trans (h1.1 c hc h9), fun j hj => (h2.2 j hj).trans (h1.2 j hj)⟩
theorem frT.L {M N : fp_Mem} (h : frT M N) : frL M N := ⟨fun c hc _ => h.1 c hc, h.2⟩
theorem frL.md {M N : fp_Mem} {g : aGd} (h : frL M N) (hd : mdIs M g) : mdIs N g := by
  unfold mdIs md_ok at *
  rw [h.1 177 (by decide) (by decide), h.1 179 (by decide) (by decide), h.1 180 (by decide) (by decide), h.1 181 (by decide) (by decide)]
  exact hd
theorem frL.mv {M N : fp_Mem} {vs : List aVt} (h : frL M N) (hd : mvIs M vs) : mvIs N vs := hd.kept (fun j h1 h2 => h.2 j (by omega))
theorem frL.mp0 {M N : fp_Mem} {g : aGd} {pg : aPg} (h : frL M N) (hg : gOk g) (hP : pgOk g pg) (hd : mpIs M 0 g pg) : mpIs N 0 g pg := hd.kept hg hP (by omega) (fun j h1 h2 => h.2 j (by omega))
section MCQ
variable {l : Launch} {G : fp_WG} {M N : fp_Mem} {g : aGd} {pg : aPg} {vs : List aVt}
theorem ch_out {x : Int} {T : Nat} (hT : T = 2 ^ vs.length) {P : fp_Mem → Prop} (hg : gOk g) (hP : pgOk g pg) (hvo : vsOk g vs) (hl : vs.length ≤ 10) (hx : 0 ≤ x ∧ x < g.2.1) (hd0 : mdIs M g) (hv0 : mvIs M vs) (hp0 : mpIs M 0 g pg) (K : ∀ N, frL M N → (∀ t : Int, 0 ≤ t → t < 10 → N 192 t.toNat = chF g pg vs x T t) → P N) : ∀ (r m : Nat) (N : fp_Mem) (o4 o5 o6 o7 : Option Value), T - m < r → m ≤ T → frL M N → (∀ t : Int, 0 ≤ t → t < 10 → N 192 t.toNat = chF g pg vs x m t) →
    fp_S l G 5 kX12_layChances 58 [some (rV G 177), some (iV x), some (iV (vs.length : Int)), some (iV (m : Int)), o4, o5, o6, o7] [] N (qV P) := by
  have h1024 : T ≤ 1024 := by
    rw [hT]
    have q : ∀ n : Nat, n < 11 → 2 ^ n ≤ 1024 := by decide +kernel
    exact q _ (by omega)
  have hpow : (2 : Int) ^ ((vs.length : Int)).toNat = (T : Int) := by rw [Int.toNat_natCast, hT]; norm_cast
  clear hT
  intro r
  induction r with
  | zero => intro m N o4 o5 o6 o7 hr; omega
  | succ r ih =>
    intro m N o4 o5 o6 o7 hr hm hf hR
    have hd := hf.md hd0
    have hv := hf.mv hv0
    have hp := hf.mp0 hg hP hp0
    by_cases he : m < T
    · have K156 : ∀ (N2 : fp_Mem) (o6 o7 : Option Value), frT N N2 → mpIs N2 360 g (chI g pg vs (m : Int) vs.length).2 → fp_S l G 5 kX12_layChances 156 [some (rV G 177), some (iV x), some (iV (vs.length : Int)), some (iV (m : Int)), some (jV (chI g pg vs (m : Int) vs.length).1), none, o6, o7] [] N2 (qV P) := by
        intro N2 o6 o7 f2 p2
        obtain ⟨⟨w0, w1⟩, wP⟩ := chI_in (m := (m : Int)) hg hP hvo vs.length
        have w2 := pow10_le hl
        have hgv := aGv_in wP hg hx
        have hg1 := hg.1
        have e192 : N2 192 = N 192 := f2.1 192 (by decide)
        have hnext : ∀ (O : fp_Mem) (o4 o5 o6 o7 : Option Value), frL M O → (∀ t : Int, 0 ≤ t → t < 10 → O 192 t.toNat = chF g pg vs x (m + 1) t) → fp_S l G 5 kX12_layChances 192 [some (rV G 177), some (iV x), some (iV (vs.length : Int)), some (iV (m : Int)), o4, o5, o6, o7] [] O (qV P) := by
          intro O o4 o5 o6 o7 fO rO
          refine S.iinc (pc' := 195) (LL' := [_, _, _, _, _, _, _, _]) dX12_layChances_192 rfl (by decide) rfl rfl rfl ?_
          refine S.goto (pc' := 58) dX12_layChances_195 (by decide) ?_
          rw [show ((m : Int) + 1) = ((m + 1 : Nat) : Int) by omega]
          exact ih (m + 1) _ _ _ _ _ (by omega) (by omega) fO rO
        refine S.aload_n (pc' := 157) dX12_layChances_156 rfl rfl rfl ?_
        refine S.sipush (pc' := 160) dX12_layChances_157 rfl (by decide) ?_
        refine S.iload_n (pc' := 161) dX12_layChances_160 rfl rfl rfl ?_
        refine S.callVe (pc' := 164) dX12_layChances_161 rfl cX12_222 (rk_X12_gives (a := 360) (by omega) p2 (f2.md hd) wP hg hx) rfl L_177 (by decide) rfl (Nat.le_of_ble_eq_true rfl) ?_
        refine S.istore (pc' := 166) (LL' := [_, _, _, _, _, _, _, _]) dX12_layChances_164 rfl (by decide) rfl rfl ?_
        refine S.iload (pc' := 168) dX12_layChances_166 rfl rfl ?_
        refine S.bipush (pc' := 170) dX12_layChances_168 rfl (by decide) ?_
        refine S.icmp_eq (pc' := 173) (tgt := 192) dX12_layChances_170 (by decide) rfl (by unfold fp_rng; omega) (by unfold fp_rng; omega) (fun h170 => ?_) (fun h170 => ?_)
        · first
          | (refine hnext _ _ _ _ _ (hf.trans f2.L) (fun t t0 t1 => ?_)
             rw [e192, hR t t0 t1, chF, if_neg (fun q => by omega)]
             omega)
          | (refine hnext _ _ _ _ _ (hf.trans f2.L) (fun t t0 t1 => ?_)
             rw [e192, hR t t0 t1, chF, if_neg (fun q => by split at h177 <;> omega)]
             omega)
          | (refine hnext _ _ _ _ _ ((hf.trans f2.L).trans ⟨fun c _ h9 => fp_up_ne h9, fun _ _ => rfl⟩) (fun t t0 t1 => ?_)
             rw [fp_up_at, chF]
             by_cases e : aGv g (chI g pg vs (m : Int) vs.length).2 x = t
             · rw [e, if_pos ⟨rfl, by split at h177 <;> omega⟩, e192, hR t t0 t1]; simp [fp_upf]
             · rw [if_neg (fun q => e q.1), fp_upf_ne (by omega), e192, hR t t0 t1]; omega)
        · refine S.lload (pc' := 175) dX12_layChances_173 rfl rfl ?_
          refine S.lconst (pc' := 176) (w := 0) dX12_layChances_175 rfl rfl ?_
          refine S.lcmp (pc' := 177) dX12_layChances_176 rfl (by unfold fp_lng; omega) (by unfold fp_lng; omega) ?_
          refine S.if_le (pc' := 180) (tgt := 192) dX12_layChances_177 (by decide) rfl (by unfold fp_rng; omega) (fun h177 => ?_) (fun h177 => ?_)
          · first
            | (refine hnext _ _ _ _ _ (hf.trans f2.L) (fun t t0 t1 => ?_)
               rw [e192, hR t t0 t1, chF, if_neg (fun q => by omega)]
               omega)
            | (refine hnext _ _ _ _ _ (hf.trans f2.L) (fun t t0 t1 => ?_)
               rw [e192, hR t t0 t1, chF, if_neg (fun q => by split at h177 <;> omega)]
               omega)
            | (refine hnext _ _ _ _ _ ((hf.trans f2.L).trans ⟨fun c _ h9 => fp_up_ne h9, fun _ _ => rfl⟩) (fun t t0 t1 => ?_)
               rw [fp_up_at, chF]
               by_cases e : aGv g (chI g pg vs (m : Int) vs.length).2 x = t
               · rw [e, if_pos ⟨rfl, by split at h177 <;> omega⟩, e192, hR t t0 t1]; simp [fp_upf]
               · rw [if_neg (fun q => e q.1), fp_upf_ne (by omega), e192, hR t t0 t1]; omega)
          · refine S.aload_n (pc' := 181) dX12_layChances_180 rfl rfl rfl ?_
            refine S.getR (pc' := 184) dX12_layChances_181 rfl fX12_56 L_177 rf_177_32 ?_
            refine S.iload (pc' := 186) dX12_layChances_184 rfl rfl ?_
            refine S.dup2 (pc' := 187) dX12_layChances_186 rfl rfl rfl ?_
            refine S.lald (pc' := 188) dX12_layChances_187 rfl L_192 (by split at h177 <;> omega) (by split at h177 <;> omega) ?_
            refine S.lload (pc' := 190) dX12_layChances_188 rfl rfl ?_
            refine S.ladd (pc' := 191) dX12_layChances_190 rfl ?_
            refine S.last (pc' := 192) dX12_layChances_191 rfl L_192 (by split at h177 <;> omega) (by split at h177 <;> omega) ?_
            first
            | (refine hnext _ _ _ _ _ (hf.trans f2.L) (fun t t0 t1 => ?_)
               rw [e192, hR t t0 t1, chF, if_neg (fun q => by omega)]
               omega)
            | (refine hnext _ _ _ _ _ (hf.trans f2.L) (fun t t0 t1 => ?_)
               rw [e192, hR t t0 t1, chF, if_neg (fun q => by split at h177 <;> omega)]
               omega)
            | (refine hnext _ _ _ _ _ ((hf.trans f2.L).trans ⟨fun c _ h9 => fp_up_ne h9, fun _ _ => rfl⟩) (fun t t0 t1 => ?_)
               rw [fp_up_at, chF]
               by_cases e : aGv g (chI g pg vs (m : Int) vs.length).2 x = t
               · rw [e, if_pos ⟨rfl, by split at h177 <;> omega⟩, e192, hR t t0 t1]; simp [fp_upf]
               · rw [if_neg (fun q => e q.1), fp_upf_ne (by omega), e192, hR t t0 t1]; omega)
      refine S.iload_n (pc' := 59) dX12_layChances_58 rfl rfl rfl ?_
      refine S.iconst (pc' := 60) dX12_layChances_59 rfl ?_
      refine S.iload_n (pc' := 61) dX12_layChances_60 rfl rfl rfl ?_
      refine S.ishl (pc' := 62) dX12_layChances_61 rfl (fp_shl1 (by omega) (by omega)) ?_
      rw [hpow]
      refine S.icmp_ge (pc' := 65) (tgt := 198) dX12_layChances_62 (by decide) rfl (by unfold fp_rng; omega) (by unfold fp_rng; omega) (fun h62 => ?_) (fun h62 => ?_)
      · exfalso; omega
      · refine S.lconst (pc' := 66) (w := 1) dX12_layChances_65 rfl rfl ?_
        refine S.lstore (pc' := 68) (LL' := [_, _, _, _, _, _, _, _]) dX12_layChances_66 rfl (by decide) rfl rfl (by decide) ?_
        refine S.aload_n (pc' := 69) dX12_layChances_68 rfl rfl rfl ?_
        refine S.iconst (pc' := 70) dX12_layChances_69 rfl ?_
        refine S.sipush (pc' := 73) dX12_layChances_70 rfl (by decide) ?_
        refine S.callVv (pc' := 76) dX12_layChances_73 rfl cX12_265 (rk_X12_copies hp hP hg) rfl L_177 (by decide) rfl (Nat.le_of_ble_eq_true rfl) (fun M73 q73 => ?_)
        refine S.iconst (pc' := 77) dX12_layChances_76 rfl ?_
        refine S.istore (pc' := 79) (LL' := [_, _, _, _, _, _, _, _]) dX12_layChances_77 rfl (by decide) rfl rfl ?_
        exact ch_in (M := N) hg hP hvo hl (by omega) K156 (vs.length + 1) 0 _ _ (by omega) (by omega) q73.2 q73.1 (q73.2.md hd) (q73.2.mv hv)
    · have em : m = T := by omega
      subst em
      refine S.iload_n (pc' := 59) dX12_layChances_58 rfl rfl rfl ?_
      refine S.iconst (pc' := 60) dX12_layChances_59 rfl ?_
      refine S.iload_n (pc' := 61) dX12_layChances_60 rfl rfl rfl ?_
      refine S.ishl (pc' := 62) dX12_layChances_61 rfl (fp_shl1 (by omega) (by omega)) ?_
      rw [hpow]
      refine S.icmp_ge (pc' := 65) (tgt := 198) dX12_layChances_62 (by decide) rfl (by unfold fp_rng; omega) (by unfold fp_rng; omega) (fun h62 => ?_) (fun h62 => ?_)
      · refine S.vret dX12_layChances_198 rfl ?_
        exact K _ hf hR
      · exfalso; omega
end MCQ
end
section
/-! CHANCES laid, the reference -/
section MCR
variable {l : Launch} {G : fp_WG} {M N : fp_Mem} {g : aGd} {pg : aPg} {vs : List aVt}
theorem ch_z {Q : fp_Q} {x n : Int} {o4 o5 o6 o7 : Option Value} (K : ∀ (N : fp_Mem), (∀ a, a ≠ 192 → N a = M a) → (∀ j : Nat, j < 10 → N 192 j = 0) → fp_S l G 5 kX12_layChances 31 [some (rV G 177), some (iV x), some (iV n), some (iV 10), o4, o5, o6, o7] [] N Q) : ∀ (k : Nat) (i : Int) (N : fp_Mem), (10 - i).toNat < k → 0 ≤ i → i ≤ 10 → (∀ a, a ≠ 192 → N a = M a) → (∀ j : Nat, (j : Int) < i → N 192 j = 0) →
    fp_S l G 5 kX12_layChances 12 [some (rV G 177), some (iV x), some (iV n), some (iV i), o4, o5, o6, o7] [] N Q := by
  intro k
  induction k with
  | zero => intro i N hk; omega
  | succ k ih =>
    intro i N hk i0 i1 hf hz
    by_cases hi : i < 10
    · refine S.iload_n (pc' := 13) dX12_layChances_12 rfl rfl rfl ?_
      refine S.bipush (pc' := 15) dX12_layChances_13 rfl (by decide) ?_
      refine S.icmp_ge (pc' := 18) (tgt := 31) dX12_layChances_15 (by decide) rfl (by unfold fp_rng; omega) (by unfold fp_rng; omega) (fun h15 => ?_) (fun h15 => ?_)
      · exfalso; omega
      · refine S.aload_n (pc' := 19) dX12_layChances_18 rfl rfl rfl ?_
        refine S.getR (pc' := 22) dX12_layChances_19 rfl fX12_56 L_177 rf_177_32 ?_
        refine S.iload_n (pc' := 23) dX12_layChances_22 rfl rfl rfl ?_
        refine S.lconst (pc' := 24) (w := 0) dX12_layChances_23 rfl rfl ?_
        refine S.last (pc' := 25) dX12_layChances_24 rfl L_192 (by omega) (by omega) ?_
        refine S.iinc (pc' := 28) (LL' := [_, _, _, _, _, _, _, _]) dX12_layChances_25 rfl (by decide) rfl rfl rfl ?_
        refine S.goto (pc' := 12) dX12_layChances_28 (by decide) ?_
        refine ih (i + 1) _ (by omega) (by omega) (by omega) (fun a ha => by rw [fp_up_ne ha]; exact hf a ha) (fun j hj => ?_)
        rw [fp_up_at]
        by_cases e : j = i.toNat
        · subst e; simp [fp_upf]
        · rw [fp_upf_ne e]; exact hz j (by omega)
    · have e : i = 10 := by omega
      subst e
      refine S.iload_n (pc' := 13) dX12_layChances_12 rfl rfl rfl ?_
      refine S.bipush (pc' := 15) dX12_layChances_13 rfl (by decide) ?_
      refine S.icmp_ge (pc' := 18) (tgt := 31) dX12_layChances_15 (by decide) rfl (by unfold fp_rng; omega) (by unfold fp_rng; omega) (fun h15 => ?_) (fun h15 => ?_)
      · exact K _ hf (fun j hj => hz j (by omega))
      · exfalso; omega
theorem ch_w {Q : fp_Q} {x : Int} {n : Nat} {o4 o5 o6 o7 : Option Value} (hn : n ≤ 12) (K : fp_S l G 5 kX12_layChances 56 [some (rV G 177), some (iV x), some (iV (n : Int)), some (iV (n : Int)), o4, o5, o6, o7] [] (fp_up M 177 33 (10 ^ n)) Q) : ∀ (k i : Nat), n - i < k → i ≤ n →
    fp_S l G 5 kX12_layChances 33 [some (rV G 177), some (iV x), some (iV (n : Int)), some (iV (i : Int)), o4, o5, o6, o7] [] (fp_up M 177 33 (10 ^ i)) Q := by
  intro k
  induction k with
  | zero => intro i hk; omega
  | succ k ih =>
    intro i hk i1
    by_cases hi : i < n
    · have e : fp_up M 177 33 (10 ^ i) 177 33 = 10 ^ i := rfl
      refine S.iload_n (pc' := 34) dX12_layChances_33 rfl rfl rfl ?_
      refine S.iload_n (pc' := 35) dX12_layChances_34 rfl rfl rfl ?_
      refine S.icmp_ge (pc' := 38) (tgt := 56) dX12_layChances_35 (by decide) rfl (by unfold fp_rng; omega) (by unfold fp_rng; omega) (fun h35 => ?_) (fun h35 => ?_)
      · exfalso; omega
      · refine S.aload_n (pc' := 39) dX12_layChances_38 rfl rfl rfl ?_
        refine S.dup (pc' := 40) dX12_layChances_39 rfl rfl ?_
        refine S.getJ (pc' := 43) dX12_layChances_40 rfl fX12_289 L_177 ?_
        refine S.ldc2 (pc' := 46) (v := 10) dX12_layChances_43 rfl lX12_212 (by decide) ?_
        refine S.lmul (pc' := 47) dX12_layChances_46 rfl ?_
        rw [e, show (10 : Int) ^ i * 10 = 10 ^ (i + 1) from (Int.pow_succ 10 i).symm]
        refine S.putJ (pc' := 50) dX12_layChances_47 rfl fX12_289 L_177 ?_
        rw [fp_up_up]
        refine S.iinc (pc' := 53) (LL' := [_, _, _, _, _, _, _, _]) dX12_layChances_50 rfl (by decide) rfl rfl rfl ?_
        refine S.goto (pc' := 33) dX12_layChances_53 (by decide) ?_
        rw [show ((i : Int) + 1) = ((i + 1 : Nat) : Int) by omega]
        exact ih (i + 1) (by omega) (by omega)
    · have e : i = n := by omega
      subst e
      refine S.iload_n (pc' := 34) dX12_layChances_33 rfl rfl rfl ?_
      refine S.iload_n (pc' := 35) dX12_layChances_34 rfl rfl rfl ?_
      refine S.icmp_ge (pc' := 38) (tgt := 56) dX12_layChances_35 (by decide) rfl (by unfold fp_rng; omega) (by unfold fp_rng; omega) (fun h35 => ?_) (fun h35 => ?_)
      · exact K
      · exfalso; omega
def frJ (M N : fp_Mem) : Prop := (∀ c, c ≠ 177 → c ≠ 178 → c ≠ 192 → N c = M c) ∧ (∀ j, j ≠ 33 → N 177 j = M 177 j) ∧ ∀ j : Nat, (j < 360 ∨ 410 ≤ j) → N 178 j = M 178 j
theorem rk_X12_layChances {x : Int} (hg : gOk g) (hP : pgOk g pg) (hvo : vsOk g vs) (hl : vs.length ≤ 10) (hx : 0 ≤ x ∧ x < g.2.1) (hd0 : mdIs M g) (hv0 : mvIs M vs) (hp0 : mpIs M 0 g pg) : fp_Ok l G 5 kX12_layChances [rV G 177, iV x] M (qV fun N => frJ M N ∧ N 177 33 = 10 ^ vs.length ∧ ∀ t : Int, 0 ≤ t → t < 10 → N 192 t.toNat = chF g pg vs x (2 ^ vs.length) t) := by
  refine fp_Ok.of (r := 6) rfl (Nat.le_of_ble_eq_true rfl) rfl ?_
  have h95 : M 178 95 = (vs.length : Int) := hv0.1
  have h31 : ∀ (N : fp_Mem), (∀ a, a ≠ 192 → N a = fp_up M 177 33 (10 ^ 0) a) → (∀ j : Nat, j < 10 → N 192 j = 0) → fp_S l G 5 kX12_layChances 31 [some (rV G 177), some (iV x), some (iV (vs.length : Int)), some (iV 10), none, none, none, none] [] N (qV fun N => frJ M N ∧ N 177 33 = 10 ^ vs.length ∧ ∀ t : Int, 0 ≤ t → t < 10 → N 192 t.toNat = chF g pg vs x (2 ^ vs.length) t) := by
    intro N a1 b1
    have eN : N = fp_up N 177 33 (10 ^ 0) := by
      have : N 177 33 = 10 ^ 0 := by rw [a1 177 (by decide)]; rfl
      rw [← this]; exact (fp_up_self N 177 33).symm
    have fM : frJ M (fp_up N 177 33 (10 ^ vs.length)) := by
      refine ⟨fun c h7 _ h9 => by rw [fp_up_ne h7, a1 c h9, fp_up_ne h7], fun j hj => by rw [fp_up_at, fp_upf_ne hj, a1 177 (by decide), fp_up_at, fp_upf_ne hj], fun j _ => by rw [fp_up_ne (by decide), a1 178 (by decide), fp_up_ne (by decide)]⟩
    have hd1 : mdIs (fp_up N 177 33 (10 ^ vs.length)) g := by
      unfold mdIs md_ok at *
      rw [fM.2.1 4 (by decide), fM.2.1 5 (by decide), fM.2.1 6 (by decide), fM.1 179 (by decide) (by decide) (by decide), fM.1 180 (by decide) (by decide) (by decide), fM.1 181 (by decide) (by decide) (by decide)]
      exact hd0
    have hv1 : mvIs (fp_up N 177 33 (10 ^ vs.length)) vs := hv0.kept (fun j h1 h2 => fM.2.2 j (by omega))
    have hp1 : mpIs (fp_up N 177 33 (10 ^ vs.length)) 0 g pg := hp0.kept hg hP (by omega) (fun j h1 h2 => fM.2.2 j (by omega))
    have h56 : fp_S l G 5 kX12_layChances 56 [some (rV G 177), some (iV x), some (iV (vs.length : Int)), some (iV (vs.length : Int)), none, none, none, none] [] (fp_up N 177 33 (10 ^ vs.length)) (qV fun N => frJ M N ∧ N 177 33 = 10 ^ vs.length ∧ ∀ t : Int, 0 ≤ t → t < 10 → N 192 t.toNat = chF g pg vs x (2 ^ vs.length) t) := by
      refine S.iconst (pc' := 57) dX12_layChances_56 rfl ?_
      refine S.istore_n (pc' := 58) (LL' := [_, _, _, _, _, _, _, _]) dX12_layChances_57 rfl (by decide) rfl rfl rfl ?_
      exact ch_out (M := fp_up N 177 33 (10 ^ vs.length)) rfl hg hP hvo hl hx hd1 hv1 hp1 (fun O fO rO => ⟨⟨fun c h7 h8 h9 => (fO.1 c h8 h9).trans (fM.1 c h7 h8 h9), fun j hj => by rw [fO.1 177 (by decide) (by decide)]; exact fM.2.1 j hj, fun j hj => (fO.2 j hj).trans (fM.2.2 j hj)⟩, by rw [fO.1 177 (by decide) (by decide)]; rfl, rO⟩) (2 ^ vs.length + 1) 0 _ _ _ _ _ (Nat.lt_succ_of_le (Nat.sub_le _ _)) (Nat.zero_le _) (frL.refl _) (fun t t0 t1 => by rw [fp_up_ne (by decide), b1 _ (by omega)]; rfl)
    refine S.eqM eN ?_
    refine S.iconst (pc' := 32) dX12_layChances_31 rfl ?_
    refine S.istore_n (pc' := 33) (LL' := [_, _, _, _, _, _, _, _]) dX12_layChances_32 rfl (by decide) rfl rfl rfl ?_
    exact ch_w (by omega) h56 (vs.length + 1) 0 (by omega) (by omega)
  refine S.aload_n (pc' := 1) dX12_layChances_0 rfl rfl rfl ?_
  refine S.callVe (pc' := 4) dX12_layChances_1 rfl cX12_225 ok_X12_visits rfl L_177 (by decide) rfl (Nat.le_of_ble_eq_true rfl) ?_
  rw [h95]
  refine S.istore_n (pc' := 5) (LL' := [_, _, _, _, _, _, _, _]) dX12_layChances_4 rfl (by decide) rfl rfl rfl ?_
  refine S.aload_n (pc' := 6) dX12_layChances_5 rfl rfl rfl ?_
  refine S.lconst (pc' := 7) (w := 1) dX12_layChances_6 rfl rfl ?_
  refine S.putJ (pc' := 10) dX12_layChances_7 rfl fX12_289 L_177 ?_
  refine S.iconst (pc' := 11) dX12_layChances_10 rfl ?_
  refine S.istore_n (pc' := 12) (LL' := [_, _, _, _, _, _, _, _]) dX12_layChances_11 rfl (by decide) rfl rfl rfl ?_
  exact ch_z (M := fp_up M 177 33 (10 ^ 0)) h31 11 0 _ (by omega) (by omega) (by omega) (fun _ _ => rfl) (fun j hj => by omega)
end MCR
end
