/-! WHAT LIES IN A LINE, told in a text: the reference -/
def itA (A : fp_Mem) (x n mk v hi : Int) : fp_Mem := fp_up (fp_up (fp_up (fp_up A 177 17 mk) 182 (10 + 9 * x).toNat (n + 1)) 182 (10 + 9 * x + (n + 1)).toNat v) 177 15 hi
def laI (M : fp_Mem) (x kd : Int) (L : List Int) (mk : Int) (A : fp_Mem) : Prop := ((∀ a, a ≠ 177 → a ≠ 182 → a ≠ 185 → A a = M a) ∧ ∀ j, j ≠ 15 → j ≠ 17 → A 177 j = M 177 j) ∧ A 185 = fp_upf (M 185) x.toNat kd ∧ A 177 17 = mk ∧ (A 182 (10 + 9 * x).toNat = (L.length : Int) ∧ (∀ i : Int, 0 ≤ i → i < (L.length : Int) → A 182 (10 + 9 * x + 1 + i).toNat = L.getD i.toNat 0) ∧ ∀ j : Nat, ((j : Int) < 10 + 9 * x ∨ 10 + 9 * x + 8 < (j : Int)) → A 182 j = M 182 j) ∧ (-1 ≤ A 177 15 ∧ A 177 15 ≤ 9) ∧ ∀ n, 0 ≤ n → (A 177 15 < n ↔ (M 177 15 < n ∧ ∀ t ∈ L, t < n))
theorem laI.T {M A : fp_Mem} {x kd mk : Int} {L tp : List Int} (h : laI M x kd L mk A) (hm : mtT M tp) : mtT A tp := ⟨by rw [h.1.2 19 (by decide) (by decide)]; exact hm.1, fun i i0 i1 => by rw [h.1.1 186 (by decide) (by decide) (by decide)]; exact hm.2 i i0 i1⟩
theorem la_step {M A : fp_Mem} {x kd mk mk' v : Int} {L : List Int} (h : laI M x kd L mk A) (hx : 0 ≤ x ∧ x < 3) (hv : 0 ≤ v ∧ v < 10) (hL : L.length < 8) : laI M x kd (L ++ [v]) mk' (itA A x (L.length : Int) mk' v (mx v (A 177 15))) := by
  obtain ⟨⟨h1, h2⟩, h3, h4, ⟨h5, h6, h7⟩, h8, h9⟩ := h
  have e2 : itA A x (L.length : Int) mk' v (mx v (A 177 15)) 182 = fp_upf (fp_upf (A 182) (10 + 9 * x).toNat ((L.length : Int) + 1)) (10 + 9 * x + ((L.length : Int) + 1)).toNat v := rfl
  refine ⟨⟨fun a a1 a2 a3 => ?_, fun j j1 j2 => ?_⟩, h3, rfl, ⟨?_, fun i i0 i1 => ?_, fun j hj => ?_⟩, ?_, fun n n0 => ?_⟩
  · unfold itA
    rw [fp_up_ne a1, fp_up_ne a2, fp_up_ne a2, fp_up_ne a1]; exact h1 a a1 a2 a3
  · unfold itA
    rw [fp_up_at, fp_upf_ne j1, fp_up_ne (by decide), fp_up_ne (by decide), fp_up_at, fp_upf_ne j2]; exact h2 j j1 j2
  · rw [e2, fp_upf_ne (by omega), List.length_append, List.length_singleton]
    simp [fp_upf]
  · rw [List.length_append, List.length_singleton] at i1
    rw [e2, fp_appD]
    by_cases e : i < (L.length : Int)
    · rw [if_pos (by omega), fp_upf_ne (by omega), fp_upf_ne (by omega)]; exact h6 i i0 e
    · rw [if_neg (by omega), if_pos (by omega), show (10 + 9 * x + 1 + i).toNat = (10 + 9 * x + ((L.length : Int) + 1)).toNat by omega]
      simp [fp_upf]
  · rw [e2, fp_upf_ne (by omega), fp_upf_ne (by omega)]; exact h7 j hj
  · show -1 ≤ mx v (A 177 15) ∧ mx v (A 177 15) ≤ 9
    unfold mx; split <;> omega
  · show mx v (A 177 15) < n ↔ _
    rw [mx_lt, h9 n n0]
    constructor
    · rintro ⟨a, b, c⟩
      refine ⟨b, fun t ht => ?_⟩
      rcases List.mem_append.mp ht with q | q
      · exact c t q
      · rw [List.mem_singleton] at q; subst q; exact a
    · rintro ⟨b, c⟩
      exact ⟨c v (List.mem_append.mpr (Or.inr (List.mem_singleton.mpr rfl))), b, fun t ht => c t (List.mem_append.mpr (Or.inl ht))⟩
def toL : Int ⊕ (Int × List Int × Int) → Int ⊕ Int
  | .inl h => .inl h
  | .inr q => .inr q.1
section MLI
variable {l : Launch} {G : fp_WG} {M N A : fp_Mem} {tp : List Int} {r r' : Int ⊕ Int} {D : pD} {o1 o2 : Option Value}
theorem ln_207 {P : fp_Mem → Prop} {x : Int} (a : aT tp A N r) (h12 : A 177 12 = x) (K : ∀ N', aT tp (fp_up A 177 12 (x + 1)) N' r → P N') : fp_S l G 3 kX12_readALine 207 [some (rV G 177), o1, o2] [] N (qV P) := by
  have e12 : N 177 12 = x := by rw [a.rd (by omega)]; exact h12
  refine S.aload_n (pc' := 208) dX12_readALine_207 rfl rfl rfl ?_
  refine S.dup (pc' := 209) dX12_readALine_208 rfl rfl ?_
  refine S.getI (pc' := 212) dX12_readALine_209 rfl fX12_146 L_177 ?_
  refine S.iconst (pc' := 213) dX12_readALine_212 rfl ?_
  refine S.iadd (pc' := 214) dX12_readALine_213 rfl ?_
  rw [e12]
  refine S.putI (pc' := 217) dX12_readALine_214 rfl fX12_146 L_177 ?_
  refine S.vret dX12_readALine_217 rfl ?_
  exact K _ (a.up (by omega))
theorem ln_60B {Q : fp_Q} {h : Int} (b : mtB N h) (K : fp_S l G 3 kX12_readALine 207 [some (rV G 177), o1, o2] [] N Q) : fp_S l G 3 kX12_readALine 60 [some (rV G 177), o1, o2] [] N Q := by
  have b1 := b.1
  refine S.aload_n (pc' := 61) dX12_readALine_60 rfl rfl rfl ?_
  refine S.getI (pc' := 64) dX12_readALine_61 rfl fX12_98 L_177 ?_
  refine S.if_ne (pc' := 67) (tgt := 207) dX12_readALine_64 (by decide) rfl (by unfold fp_rng; omega) (fun h64 => ?_) (fun h64 => ?_)
  · exact K
  · exfalso; omega
theorem ln_125B {Q : fp_Q} {h : Int} (b : mtB N h) (K : fp_S l G 3 kX12_readALine 207 [some (rV G 177), o1, o2] [] N Q) : fp_S l G 3 kX12_readALine 125 [some (rV G 177), o1, o2] [] N Q := by
  have b1 := b.1
  refine S.aload_n (pc' := 126) dX12_readALine_125 rfl rfl rfl ?_
  refine S.getI (pc' := 129) dX12_readALine_126 rfl fX12_98 L_177 ?_
  refine S.if_ne (pc' := 132) (tgt := 200) dX12_readALine_129 (by decide) rfl (by unfold fp_rng; omega) (fun h129 => ?_) (fun h129 => ?_)
  · refine S.aload_n (pc' := 201) dX12_readALine_200 rfl rfl rfl ?_
    refine S.callVw (pc' := 204) dX12_readALine_201 rfl cX12_136 (mt_step1 b1) rfl L_177 (by decide) rfl (Nat.le_of_ble_eq_true rfl) ?_
    refine S.goto (pc' := 60) dX12_readALine_204 (by decide) ?_
    exact ln_60B b K
  · exfalso; omega
theorem ln_98B {Q : fp_Q} {h : Int} (b : mtB N h) (K : fp_S l G 3 kX12_readALine 207 [some (rV G 177), o1, o2] [] N Q) : fp_S l G 3 kX12_readALine 98 [some (rV G 177), o1, o2] [] N Q := by
  have b1 := b.1
  refine S.aload_n (pc' := 99) dX12_readALine_98 rfl rfl rfl ?_
  refine S.getI (pc' := 102) dX12_readALine_99 rfl fX12_98 L_177 ?_
  refine S.if_ne (pc' := 105) (tgt := 125) dX12_readALine_102 (by decide) rfl (by unfold fp_rng; omega) (fun h102 => ?_) (fun h102 => ?_)
  · exact ln_125B b K
  · exfalso; omega
theorem ln_91B {Q : fp_Q} {h : Int} (b : mtB N h) (K : fp_S l G 3 kX12_readALine 207 [some (rV G 177), o1, o2] [] N Q) : fp_S l G 3 kX12_readALine 91 [some (rV G 177), o1, o2] [] N Q := by
  refine S.aload_n (pc' := 92) dX12_readALine_91 rfl rfl rfl ?_
  refine S.iconst (pc' := 93) dX12_readALine_92 rfl ?_
  refine S.bipush (pc' := 95) dX12_readALine_93 rfl (by decide) ?_
  refine S.callVw (pc' := 98) dX12_readALine_95 rfl cX12_132 (mt_looks1 b.1) rfl L_177 (by decide) rfl (Nat.le_of_ble_eq_true rfl) ?_
  exact ln_98B b K
theorem aT.no {s w : Int} (a : aT tp A N (.inr s)) (hw : 1 ≤ w ∧ w ≤ 6) : aT tp A (fp_up (fp_up N 177 21 w) 177 22 (tkS tp s)) (.inl (tkS tp s)) := ⟨sm_out a.1, ⟨hw, rfl⟩⟩
theorem ln_loop {x kd : Int} (ht : tpOk tp) (hm : mtT M tp) (hx : 0 ≤ x ∧ x < 3) (h12 : M 177 12 = x) : ∀ (k : Nat) (s : Int) (L : List Int) (mk : Int) (A N : fp_Mem), L.length + k = 9 → L.length ≤ 8 → aT tp A N (.inr s) → laI M x kd L mk A → (0 ≤ mk ∧ mk < 1024) →
    fp_S l G 3 kX12_readALine 60 [some (rV G 177), o1, some (iV (10 + 9 * x))] [] N (qV fun N' => ∃ A' r L' mk', aT tp (fp_up A' 177 12 (x + 1)) N' r ∧ laI M x kd L' mk' A' ∧ toL (pIt tp k s L mk) = stR tp r ∧ ∀ q, pIt tp k s L mk = .inr q → q.2 = (L', mk')) := by
  intro k
  induction k with
  | zero =>
    intro s L mk A N hk hk8 ha hI hmk
    exfalso
    omega
  | succ k ih =>
    intro s L mk A N hk hk8 ha hI hmk
    have e12 : A 177 12 = x := by rw [hI.1.2 12 (by decide) (by decide)]; exact h12
    obtain ⟨hs, hg, ho⟩ := ha.2
    have hkk := tkK_in tp (tkS tp s)
    rcases ho with ho | ⟨hno, hb⟩
    · obtain ⟨o21, ok, ov⟩ := ho
      by_cases h2 : tkK tp (tkS tp s) = 2
      · have hv := tkV_in (tkS_le hs.2).2 h2 ok
        have hv' : 0 ≤ num tp s ∧ num tp s ≤ 99 := hv
        have e26 := ov h2
        have e182 : N 182 = A 182 := ha.1.1 182 (by decide)
        have hlen : N 182 (10 + 9 * x).toNat = (L.length : Int) := by rw [e182]; exact hI.2.2.2.1.1
        have e17 : N 177 17 = mk := by rw [ha.rd (by omega)]; exact hI.2.2.1
        have e15 : N 177 15 = A 177 15 := ha.rd (by omega)
        have h15 := hI.2.2.2.2.1
        have hbad : ¬ itOk tp (tkS tp s) L mk → pIt tp (k + 1) s L mk = .inl (tkS tp s) := by
          intro q
          unfold pIt
          rw [if_neg (fun z => z ok), if_neg (by omega), if_neg q]
        have K207 : ∀ (O : fp_Mem), ¬ itOk tp (tkS tp s) L mk → aT tp A O (.inl (tkS tp s)) → fp_S l G 3 kX12_readALine 207 [some (rV G 177), o1, some (iV (10 + 9 * x))] [] O (qV fun N' => ∃ A' r L' mk', aT tp (fp_up A' 177 12 (x + 1)) N' r ∧ laI M x kd L' mk' A' ∧ toL (pIt tp (k + 1) s L mk) = stR tp r ∧ ∀ q, pIt tp (k + 1) s L mk = .inr q → q.2 = (L', mk')) := by
          intro O q a
          refine ln_207 a e12 (fun N' a' => ⟨A, _, L, mk, a', hI, by rw [hbad q]; rfl, fun z e => by rw [hbad q] at e; cases e⟩)
        by_cases h8 : L.length < 8
        · have hok : nmOk tp s 0 9 → ∀ O, O = N → fp_S l G 3 kX12_readALine 98 [some (rV G 177), o1, some (iV (10 + 9 * x))] [] O (qV fun N' => ∃ A' r L' mk', aT tp (fp_up A' 177 12 (x + 1)) N' r ∧ laI M x kd L' mk' A' ∧ toL (pIt tp (k + 1) s L mk) = stR tp r ∧ ∀ q, pIt tp (k + 1) s L mk = .inr q → q.2 = (L', mk')) := by
            intro hnm O eO
            subst eO
            have hv10 : num tp s ≤ 9 := hnm.2.2.2
            have hp2 : (0 : Int) ≤ 2 ^ (num tp s).toNat := Int.le_of_lt (Int.pow_pos (by decide))
            have hp3 : (2 : Int) ^ (num tp s).toNat < 2 ^ 10 := by
              have q : ∀ n : Nat, n < 10 → (2 : Int) ^ n < 2 ^ 10 := by decide +kernel
              exact q _ (by omega)
            have hdn : 0 ≤ mk / 2 ^ (num tp s).toNat := Int.ediv_nonneg hmk.1 hp2
            have hbit := fp_bitv (v := mk) (i := num tp s) hmk.1
            by_cases hbt : mk.toNat.testBit (num tp s).toNat = true
            · rw [if_pos hbt] at hbit
              have a := ha.no (w := 4) (by omega)
              refine S.aload_n (pc' := 99) dX12_readALine_98 rfl rfl rfl ?_
              refine S.getI (pc' := 102) dX12_readALine_99 rfl fX12_98 L_177 ?_
              rw [o21]
              refine S.if_ne (pc' := 105) (tgt := 125) dX12_readALine_102 (by decide) rfl (by unfold fp_rng; omega) (fun h102 => ?_) (fun h102 => ?_)
              · first
                | exact absurd rfl h102
                | exact absurd rfl h117
                | (rw [hg.1]; exact ln_125B a.2 (K207 _ (fun z => z.2.2.1 hbt) a))
              · refine S.aload_n (pc' := 106) dX12_readALine_105 rfl rfl rfl ?_
                refine S.getI (pc' := 109) dX12_readALine_106 rfl fX12_153 L_177 ?_
                refine S.aload_n (pc' := 110) dX12_readALine_109 rfl rfl rfl ?_
                refine S.getI (pc' := 113) dX12_readALine_110 rfl fX12_117 L_177 ?_
                rw [e17, e26]
                refine S.ishr (pc' := 114) dX12_readALine_113 rfl (fp_shrv (by omega) (by omega)) ?_
                refine S.iconst (pc' := 115) dX12_readALine_114 rfl ?_
                refine S.iand (pc' := 116) dX12_readALine_115 rfl (fp_iand hdn (by decide)) ?_
                rw [hbit]
                refine S.iconst (pc' := 117) dX12_readALine_116 rfl ?_
                refine S.icmp_ne (pc' := 120) (tgt := 125) dX12_readALine_117 (by decide) rfl (by unfold fp_rng; omega) (by unfold fp_rng; omega) (fun h117 => ?_) (fun h117 => ?_)
                · first
                  | exact absurd rfl h102
                  | exact absurd rfl h117
                  | (rw [hg.1]; exact ln_125B a.2 (K207 _ (fun z => z.2.2.1 hbt) a))
                · refine S.aload_n (pc' := 121) dX12_readALine_120 rfl rfl rfl ?_
                  refine S.iconst (pc' := 122) dX12_readALine_121 rfl ?_
                  refine S.callVw (pc' := 125) dX12_readALine_122 rfl cX12_128 (mt_fails0 o21) rfl L_177 (by decide) rfl (Nat.le_of_ble_eq_true rfl) ?_
                  first
                  | exact absurd rfl h102
                  | exact absurd rfl h117
                  | (rw [hg.1]; exact ln_125B a.2 (K207 _ (fun z => z.2.2.1 hbt) a))
            · rw [if_neg hbt] at hbit
              have hpit : pIt tp (k + 1) s L mk = pIt tp k (nxt tp s) (L ++ [num tp s]) (fp_or mk (2 ^ (num tp s).toNat)) := by
                rw [pIt, if_neg (fun z => z ok), if_neg (by omega), if_pos ⟨h2, by show num tp s < 10; omega, hbt, h8⟩]
              rw [hpit]
              have hI2 := la_step (mk' := fp_or mk (2 ^ (num tp s).toNat)) hI hx (show 0 ≤ num tp s ∧ num tp s < 10 by omega) h8
              have h200 : ∀ O2, aT tp (itA A x (L.length : Int) (fp_or mk (2 ^ (num tp s).toNat)) (num tp s) (mx (num tp s) (A 177 15))) O2 (.inr s) → mtO tp O2 s → fp_S l G 3 kX12_readALine 200 [some (rV G 177), o1, some (iV (10 + 9 * x))] [] O2 (qV fun N' => ∃ A' r L' mk', aT tp (fp_up A' 177 12 (x + 1)) N' r ∧ laI M x kd L' mk' A' ∧ toL (pIt tp k (nxt tp s) (L ++ [num tp s]) (fp_or mk (2 ^ (num tp s).toNat))) = stR tp r ∧ ∀ q, pIt tp k (nxt tp s) (L ++ [num tp s]) (fp_or mk (2 ^ (num tp s).toNat)) = .inr q → q.2 = (L', mk')) := by
                intro O2 a2 o2
                refine S.aload_n (pc' := 201) dX12_readALine_200 rfl rfl rfl ?_
                refine S.callVv (pc' := 204) dX12_readALine_201 rfl cX12_136 (mt_st ht a2 o2 (hI2.T hm)) rfl L_177 (by decide) rfl (Nat.le_of_ble_eq_true rfl) (fun M201 q201 => ?_)
                refine S.goto (pc' := 60) dX12_readALine_204 (by decide) ?_
                exact ih _ _ _ _ _ (by rw [List.length_append, List.length_singleton]; omega) (by rw [List.length_append, List.length_singleton]; omega) q201 hI2 ⟨fp_or_nn _ _, fp_or_lt (n := 10) hmk.2 hp3⟩
              have x1 : ∀ z, fp_up O 177 17 z 182 (10 + 9 * x).toNat = (L.length : Int) := fun z => hlen
              have x2 : ∀ z, fp_up (fp_up O 177 17 z) 182 (10 + 9 * x).toNat ((L.length : Int) + 1) 182 (10 + 9 * x).toNat = (L.length : Int) + 1 := fun z => by rw [fp_up_at]; simp [fp_upf]
              have x3 : ∀ z, fp_up (fp_up O 177 17 z) 182 (10 + 9 * x).toNat ((L.length : Int) + 1) 177 26 = num tp s := fun z => e26
              have x4 : ∀ z y, fp_up (fp_up (fp_up O 177 17 z) 182 (10 + 9 * x).toNat ((L.length : Int) + 1)) 182 (10 + 9 * x + ((L.length : Int) + 1)).toNat y 177 26 = num tp s := fun z y => e26
              have x5 : ∀ z y, fp_up (fp_up (fp_up O 177 17 z) 182 (10 + 9 * x).toNat ((L.length : Int) + 1)) 182 (10 + 9 * x + ((L.length : Int) + 1)).toNat y 177 15 = A 177 15 := fun z y => e15
              have a4 : ∀ z, aT tp (itA A x (L.length : Int) (fp_or mk (2 ^ (num tp s).toNat)) (num tp s) z) (fp_up (fp_up (fp_up (fp_up O 177 17 (fp_or mk (2 ^ (num tp s).toNat))) 182 (10 + 9 * x).toNat ((L.length : Int) + 1)) 182 (10 + 9 * x + ((L.length : Int) + 1)).toNat (num tp s)) 177 15 z) (.inr s) := fun z => (((ha.up (by omega)).up (by omega)).up (by omega)).up (by omega)
              have h125 : fp_S l G 3 kX12_readALine 125 [some (rV G 177), o1, some (iV (10 + 9 * x))] [] O (qV fun N' => ∃ A' r L' mk', aT tp (fp_up A' 177 12 (x + 1)) N' r ∧ laI M x kd L' mk' A' ∧ toL (pIt tp k (nxt tp s) (L ++ [num tp s]) (fp_or mk (2 ^ (num tp s).toNat))) = stR tp r ∧ ∀ q, pIt tp k (nxt tp s) (L ++ [num tp s]) (fp_or mk (2 ^ (num tp s).toNat)) = .inr q → q.2 = (L', mk')) := by
                refine S.aload_n (pc' := 126) dX12_readALine_125 rfl rfl rfl ?_
                refine S.getI (pc' := 129) dX12_readALine_126 rfl fX12_98 L_177 ?_
                rw [o21]
                refine S.if_ne (pc' := 132) (tgt := 200) dX12_readALine_129 (by decide) rfl (by unfold fp_rng; omega) (fun h129 => ?_) (fun h129 => ?_)
                · first
                  | exact absurd rfl h129
                  | exact h200 _ (by rw [show mx (num tp s) (A 177 15) = num tp s from if_pos (by omega)]; exact a4 _) ⟨o21, ok, ov⟩
                  | exact h200 _ (by rw [show mx (num tp s) (A 177 15) = A 177 15 from if_neg (by omega)]; exact a4 _) ⟨o21, ok, ov⟩
                · refine S.aload_n (pc' := 133) dX12_readALine_132 rfl rfl rfl ?_
                  refine S.dup (pc' := 134) dX12_readALine_133 rfl rfl ?_
                  refine S.getI (pc' := 137) dX12_readALine_134 rfl fX12_153 L_177 ?_
                  refine S.iconst (pc' := 138) dX12_readALine_137 rfl ?_
                  refine S.aload_n (pc' := 139) dX12_readALine_138 rfl rfl rfl ?_
                  refine S.getI (pc' := 142) dX12_readALine_139 rfl fX12_117 L_177 ?_
                  rw [e17, e26]
                  refine S.ishl (pc' := 143) dX12_readALine_142 rfl (fp_shl1 (by omega) (by omega)) ?_
                  refine S.ior (pc' := 144) dX12_readALine_143 rfl (fp_ior hmk.1 hp2) ?_
                  refine S.putI (pc' := 147) dX12_readALine_144 rfl fX12_153 L_177 ?_
                  refine S.aload_n (pc' := 148) dX12_readALine_147 rfl rfl rfl ?_
                  refine S.getR (pc' := 151) dX12_readALine_148 rfl fX12_26 L_177 rf_177_7 ?_
                  refine S.iload_n (pc' := 152) dX12_readALine_151 rfl rfl rfl ?_
                  refine S.dup2 (pc' := 153) dX12_readALine_152 rfl rfl rfl ?_
                  refine S.iald (pc' := 154) dX12_readALine_153 rfl L_182 (by omega) (by omega) ?_
                  rw [x1]
                  refine S.iconst (pc' := 155) dX12_readALine_154 rfl ?_
                  refine S.iadd (pc' := 156) dX12_readALine_155 rfl ?_
                  refine S.iast (pc' := 157) dX12_readALine_156 rfl L_182 (by omega) (by omega) ?_
                  refine S.aload_n (pc' := 158) dX12_readALine_157 rfl rfl rfl ?_
                  refine S.getR (pc' := 161) dX12_readALine_158 rfl fX12_26 L_177 rf_177_7 ?_
                  refine S.iload_n (pc' := 162) dX12_readALine_161 rfl rfl rfl ?_
                  refine S.aload_n (pc' := 163) dX12_readALine_162 rfl rfl rfl ?_
                  refine S.getR (pc' := 166) dX12_readALine_163 rfl fX12_26 L_177 rf_177_7 ?_
                  refine S.iload_n (pc' := 167) dX12_readALine_166 rfl rfl rfl ?_
                  refine S.iald (pc' := 168) dX12_readALine_167 rfl L_182 (by omega) (by omega) ?_
                  rw [x2]
                  refine S.iadd (pc' := 169) dX12_readALine_168 rfl ?_
                  refine S.aload_n (pc' := 170) dX12_readALine_169 rfl rfl rfl ?_
                  refine S.getI (pc' := 173) dX12_readALine_170 rfl fX12_117 L_177 ?_
                  rw [x3]
                  refine S.iast (pc' := 174) dX12_readALine_173 rfl L_182 (by omega) (by omega) ?_
                  refine S.aload_n (pc' := 175) dX12_readALine_174 rfl rfl rfl ?_
                  refine S.aload_n (pc' := 176) dX12_readALine_175 rfl rfl rfl ?_
                  refine S.getI (pc' := 179) dX12_readALine_176 rfl fX12_117 L_177 ?_
                  refine S.aload_n (pc' := 180) dX12_readALine_179 rfl rfl rfl ?_
                  refine S.getI (pc' := 183) dX12_readALine_180 rfl fX12_156 L_177 ?_
                  rw [x4, x5]
                  refine S.icmp_le (pc' := 186) (tgt := 193) dX12_readALine_183 (by decide) rfl (by unfold fp_rng; omega) (by unfold fp_rng; omega) (fun h183 => ?_) (fun h183 => ?_)
                  · refine S.aload_n (pc' := 194) dX12_readALine_193 rfl rfl rfl ?_
                    refine S.getI (pc' := 197) dX12_readALine_194 rfl fX12_156 L_177 ?_
                    first | rw [x4] | rw [x5]
                    refine S.putI (pc' := 200) dX12_readALine_197 rfl fX12_156 L_177 ?_
                    first
                    | exact absurd rfl h129
                    | exact h200 _ (by rw [show mx (num tp s) (A 177 15) = num tp s from if_pos (by omega)]; exact a4 _) ⟨o21, ok, ov⟩
                    | exact h200 _ (by rw [show mx (num tp s) (A 177 15) = A 177 15 from if_neg (by omega)]; exact a4 _) ⟨o21, ok, ov⟩
                  · refine S.aload_n (pc' := 187) dX12_readALine_186 rfl rfl rfl ?_
                    refine S.getI (pc' := 190) dX12_readALine_187 rfl fX12_117 L_177 ?_
                    refine S.goto (pc' := 197) dX12_readALine_190 (by decide) ?_
                    first | rw [x4] | rw [x5]
                    refine S.putI (pc' := 200) dX12_readALine_197 rfl fX12_156 L_177 ?_
                    first
                    | exact absurd rfl h129
                    | exact h200 _ (by rw [show mx (num tp s) (A 177 15) = num tp s from if_pos (by omega)]; exact a4 _) ⟨o21, ok, ov⟩
                    | exact h200 _ (by rw [show mx (num tp s) (A 177 15) = A 177 15 from if_neg (by omega)]; exact a4 _) ⟨o21, ok, ov⟩
              refine S.aload_n (pc' := 99) dX12_readALine_98 rfl rfl rfl ?_
              refine S.getI (pc' := 102) dX12_readALine_99 rfl fX12_98 L_177 ?_
              rw [o21]
              refine S.if_ne (pc' := 105) (tgt := 125) dX12_readALine_102 (by decide) rfl (by unfold fp_rng; omega) (fun h102 => ?_) (fun h102 => ?_)
              · first
                | exact absurd rfl h102
                | exact h125
              · refine S.aload_n (pc' := 106) dX12_readALine_105 rfl rfl rfl ?_
                refine S.getI (pc' := 109) dX12_readALine_106 rfl fX12_153 L_177 ?_
                refine S.aload_n (pc' := 110) dX12_readALine_109 rfl rfl rfl ?_
                refine S.getI (pc' := 113) dX12_readALine_110 rfl fX12_117 L_177 ?_
                rw [e17, e26]
                refine S.ishr (pc' := 114) dX12_readALine_113 rfl (fp_shrv (by omega) (by omega)) ?_
                refine S.iconst (pc' := 115) dX12_readALine_114 rfl ?_
                refine S.iand (pc' := 116) dX12_readALine_115 rfl (fp_iand hdn (by decide)) ?_
                rw [hbit]
                refine S.iconst (pc' := 117) dX12_readALine_116 rfl ?_
                refine S.icmp_ne (pc' := 120) (tgt := 125) dX12_readALine_117 (by decide) rfl (by unfold fp_rng; omega) (by unfold fp_rng; omega) (fun h117 => ?_) (fun h117 => ?_)
                · first
                  | exact absurd rfl h102
                  | exact h125
                · exact absurd h117 (by decide)
          have hno98 : ¬ nmOk tp s 0 9 → ∀ w, (1 ≤ w ∧ w ≤ 6) → fp_S l G 3 kX12_readALine 98 [some (rV G 177), o1, some (iV (10 + 9 * x))] [] (fp_up (fp_up N 177 21 w) 177 22 (tkS tp s)) (qV fun N' => ∃ A' r L' mk', aT tp (fp_up A' 177 12 (x + 1)) N' r ∧ laI M x kd L' mk' A' ∧ toL (pIt tp (k + 1) s L mk) = stR tp r ∧ ∀ q, pIt tp (k + 1) s L mk = .inr q → q.2 = (L', mk')) := by
            intro q w hw
            have a := ha.no hw
            exact ln_98B a.2 (K207 _ (fun z => q ⟨ok, h2, hv.1, by have := z.2.1; omega⟩) a)
          refine S.aload_n (pc' := 61) dX12_readALine_60 rfl rfl rfl ?_
          refine S.getI (pc' := 64) dX12_readALine_61 rfl fX12_98 L_177 ?_
          rw [o21]
          refine S.if_ne (pc' := 67) (tgt := 207) dX12_readALine_64 (by decide) rfl (by unfold fp_rng; omega) (fun h64 => ?_) (fun h64 => ?_)
          · first | exact absurd rfl h64 | exact absurd rfl h72
          · refine S.aload_n (pc' := 68) dX12_readALine_67 rfl rfl rfl ?_
            refine S.getI (pc' := 71) dX12_readALine_68 rfl fX12_107 L_177 ?_
            refine S.iconst (pc' := 72) dX12_readALine_71 rfl ?_
            rw [hg.2.2, h2]
            refine S.icmp_ne (pc' := 75) (tgt := 207) dX12_readALine_72 (by decide) rfl (by unfold fp_rng; omega) (by unfold fp_rng; omega) (fun h72 => ?_) (fun h72 => ?_)
            · first | exact absurd rfl h64 | exact absurd rfl h72
            · refine S.aload_n (pc' := 76) dX12_readALine_75 rfl rfl rfl ?_
              refine S.getR (pc' := 79) dX12_readALine_76 rfl fX12_26 L_177 rf_177_7 ?_
              refine S.iload_n (pc' := 80) dX12_readALine_79 rfl rfl rfl ?_
              refine S.iald (pc' := 81) dX12_readALine_80 rfl L_182 (by omega) (by omega) ?_
              refine S.bipush (pc' := 83) dX12_readALine_81 rfl (by decide) ?_
              rw [hlen]
              refine S.icmp_ne (pc' := 86) (tgt := 91) dX12_readALine_83 (by decide) rfl (by unfold fp_rng; omega) (by unfold fp_rng; omega) (fun h83 => ?_) (fun h83 => ?_)
              · refine S.aload_n (pc' := 92) dX12_readALine_91 rfl rfl rfl ?_
                refine S.iconst (pc' := 93) dX12_readALine_92 rfl ?_
                refine S.bipush (pc' := 95) dX12_readALine_93 rfl (by decide) ?_
                refine S.callVv (pc' := 98) dX12_readALine_95 rfl cX12_132 (mt_looks hs.2 hg ⟨o21, ok, ov⟩ (by unfold fp_rng; omega) (by unfold fp_rng; omega)) rfl L_177 (by decide) rfl (Nat.le_of_ble_eq_true rfl) (fun M95 q95 => ?_)
                rcases q95 with ⟨q, e⟩ | ⟨q, w, hw, rfl⟩
                · exact hok q _ e
                · exact hno98 q w hw
              · exfalso; omega
        · have a := ha.no (w := 5) (by omega)
          refine S.aload_n (pc' := 61) dX12_readALine_60 rfl rfl rfl ?_
          refine S.getI (pc' := 64) dX12_readALine_61 rfl fX12_98 L_177 ?_
          rw [o21]
          refine S.if_ne (pc' := 67) (tgt := 207) dX12_readALine_64 (by decide) rfl (by unfold fp_rng; omega) (fun h64 => ?_) (fun h64 => ?_)
          · first | exact absurd rfl h64 | exact absurd rfl h72
          · refine S.aload_n (pc' := 68) dX12_readALine_67 rfl rfl rfl ?_
            refine S.getI (pc' := 71) dX12_readALine_68 rfl fX12_107 L_177 ?_
            refine S.iconst (pc' := 72) dX12_readALine_71 rfl ?_
            rw [hg.2.2, h2]
            refine S.icmp_ne (pc' := 75) (tgt := 207) dX12_readALine_72 (by decide) rfl (by unfold fp_rng; omega) (by unfold fp_rng; omega) (fun h72 => ?_) (fun h72 => ?_)
            · first | exact absurd rfl h64 | exact absurd rfl h72
            · refine S.aload_n (pc' := 76) dX12_readALine_75 rfl rfl rfl ?_
              refine S.getR (pc' := 79) dX12_readALine_76 rfl fX12_26 L_177 rf_177_7 ?_
              refine S.iload_n (pc' := 80) dX12_readALine_79 rfl rfl rfl ?_
              refine S.iald (pc' := 81) dX12_readALine_80 rfl L_182 (by omega) (by omega) ?_
              refine S.bipush (pc' := 83) dX12_readALine_81 rfl (by decide) ?_
              rw [hlen]
              refine S.icmp_ne (pc' := 86) (tgt := 91) dX12_readALine_83 (by decide) rfl (by unfold fp_rng; omega) (by unfold fp_rng; omega) (fun h83 => ?_) (fun h83 => ?_)
              · first
                | (exfalso; omega)
                | (rw [hg.1]; exact ln_91B a.2 (K207 _ (fun z => h8 z.2.2.2) a))
              · refine S.aload_n (pc' := 87) dX12_readALine_86 rfl rfl rfl ?_
                refine S.iconst (pc' := 88) dX12_readALine_87 rfl ?_
                refine S.callVw (pc' := 91) dX12_readALine_88 rfl cX12_128 (mt_fails0 o21) rfl L_177 (by decide) rfl (Nat.le_of_ble_eq_true rfl) ?_
                first
                | (exfalso; omega)
                | (rw [hg.1]; exact ln_91B a.2 (K207 _ (fun z => h8 z.2.2.2) a))
      · have hend : toL (pIt tp (k + 1) s L mk) = stR tp (.inr s) ∧ ∀ q, pIt tp (k + 1) s L mk = .inr q → q.2 = (L, mk) := by
          unfold pIt stR
          simp only
          rw [if_neg (fun z => z ok)]
          by_cases h3 : tkK tp (tkS tp s) = 3
          · rw [if_pos h3, if_pos ⟨ok, h3⟩]
            exact ⟨rfl, fun q e => by cases e; rfl⟩
          · rw [if_neg h3, if_neg (fun q : itOk tp (tkS tp s) L mk => h2 q.1), if_neg (fun q : spOk tp s => h3 q.2)]
            exact ⟨rfl, fun q e => by cases e⟩
        refine S.aload_n (pc' := 61) dX12_readALine_60 rfl rfl rfl ?_
        refine S.getI (pc' := 64) dX12_readALine_61 rfl fX12_98 L_177 ?_
        rw [o21]
        refine S.if_ne (pc' := 67) (tgt := 207) dX12_readALine_64 (by decide) rfl (by unfold fp_rng; omega) (fun h64 => ?_) (fun h64 => ?_)
        · first
          | exact absurd rfl h64
          | exact ln_207 ha e12 (fun N' a' => ⟨A, _, L, mk, a', hI, hend.1, hend.2⟩)
        · refine S.aload_n (pc' := 68) dX12_readALine_67 rfl rfl rfl ?_
          refine S.getI (pc' := 71) dX12_readALine_68 rfl fX12_107 L_177 ?_
          refine S.iconst (pc' := 72) dX12_readALine_71 rfl ?_
          rw [hg.2.2]
          refine S.icmp_ne (pc' := 75) (tgt := 207) dX12_readALine_72 (by decide) rfl (by unfold fp_rng; omega) (by unfold fp_rng; omega) (fun h72 => ?_) (fun h72 => ?_)
          · first
            | exact absurd rfl h64
            | exact ln_207 ha e12 (fun N' a' => ⟨A, _, L, mk, a', hI, hend.1, hend.2⟩)
          · exfalso; omega
    · have hend : toL (pIt tp (k + 1) s L mk) = stR tp (.inr s) ∧ ∀ q, pIt tp (k + 1) s L mk = .inr q → q.2 = (L, mk) := by
        unfold pIt stR
        simp only
        rw [if_pos hno, if_neg (fun q => hno q.1)]
        exact ⟨rfl, fun q e => by cases e⟩
      exact ln_60B hb (ln_207 ha e12 (fun N' a' => ⟨A, _, L, mk, a', hI, hend.1, hend.2⟩))
end MLI
