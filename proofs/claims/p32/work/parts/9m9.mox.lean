/-! orders: the reference, exactly: the call (p32 alone) -/
theorem oS_cnt {L : List Int} : ∀ k : Nat, ((oS L k).length : Int) = cntL L k
  | 0 => rfl
  | k + 1 => by
    have ih := oS_cnt (L := L) k
    rw [oS, cntL]
    by_cases h : (k : Int) ∈ L
    · rw [if_pos h, if_pos h, List.length_append, List.length_singleton]; omega
    · rw [if_neg h, if_neg h]; omega
theorem o_next {P dn rest : List (List Int)} {p q : List Int} (hs : P.Pairwise (fun p q => p.length = q.length ∧ oLv p < oLv q)) (e : P = dn ++ p :: rest) (hq : q ∈ P) (hlt : oLv p < oLv q) (hn : ∀ r, r ∈ P → oLv r ≤ oLv p ∨ oLv q ≤ oLv r) : ∃ rest', rest = q :: rest' := by
  subst e
  have h1 := List.pairwise_append.mp hs
  have h2 := List.pairwise_cons.mp h1.2.1
  have hr : q ∈ rest := by
    rcases List.mem_append.mp hq with c | c
    · have h3 := h1.2.2 q c p List.mem_cons_self
      omega
    · rcases List.mem_cons.mp c with c2 | c2
      · rw [c2] at hlt; omega
      · exact c2
  cases rest with
  | nil => exact absurd hr List.not_mem_nil
  | cons r rest' =>
    rcases List.mem_cons.mp hr with c | c
    · exact ⟨rest', by rw [c]⟩
    · have h3 := h2.1 r List.mem_cons_self
      have h4 := (List.pairwise_cons.mp h2.2).1 q c
      have h5 := hn r (List.mem_append.mpr (Or.inr (List.mem_cons_of_mem _ List.mem_cons_self)))
      omega
theorem o_last {P dn rest : List (List Int)} {p : List Int} (hs : P.Pairwise (fun p q => p.length = q.length ∧ oLv p < oLv q)) (e : P = dn ++ p :: rest) (hn : ∀ r, r ∈ P → oLv r ≤ oLv p) : rest = [] := by
  subst e
  have h1 := List.pairwise_append.mp hs
  have h2 := List.pairwise_cons.mp h1.2.1
  cases rest with
  | nil => rfl
  | cons r rest' =>
    have h3 := h2.1 r List.mem_cons_self
    have h5 := hn r (List.mem_append.mpr (Or.inr (List.mem_cons_of_mem _ List.mem_cons_self)))
    omega
/-- the first row that fits, among those that were tried -/
def oFr (f : List Int → Bool) (dn : List (List Int)) (many m : Int) (R : Nat → Int) : Prop := many = (dn.countP f : Nat) ∧ ∀ p, dn.find? f = some p → ∀ i : Int, 0 ≤ i → i < m → R i.toNat = p.getD i.toNat 0
theorem oFr.none {f : List Int → Bool} {dn : List (List Int)} {many m : Int} {R : Nat → Int} (h : oFr f dn many m R) : many = 0 ↔ dn.find? f = none := by
  rw [h.1, List.find?_eq_none]
  constructor
  · intro q p hp hf
    exact List.countP_eq_zero.mp (by omega) p hp hf
  · intro q
    rw [List.countP_eq_zero.mpr q]
    rfl
theorem oFr.skip {f : List Int → Bool} {dn : List (List Int)} {many m : Int} {R R' : Nat → Int} {p : List Int} (h : oFr f dn many m R) (hf : ¬ f p = true) (hR : R' = R) : oFr f (dn ++ [p]) many m R' := by
  refine ⟨?_, fun q hq => ?_⟩
  · rw [List.countP_append, List.countP_cons, if_neg hf, List.countP_nil, h.1]; omega
  · rw [List.find?_append] at hq
    rw [hR]
    cases e : dn.find? f with
    | some p9 => rw [e] at hq; exact h.2 q (by rw [e]; exact hq)
    | none =>
      rw [e] at hq
      have h9 : [p].find? f = some q := hq
      have h8 := List.find?_some h9
      have h7 := List.mem_of_find?_eq_some h9
      rw [List.mem_singleton] at h7
      rw [h7] at h8
      exact absurd h8 hf
theorem oFr.hit {f : List Int → Bool} {dn : List (List Int)} {many m : Int} {R R' : Nat → Int} {p : List Int} (h : oFr f dn many m R) (hf : f p = true) (hR : (many ≠ 0 → R' = R) ∧ (many = 0 → ∀ i : Int, 0 ≤ i → i < m → R' i.toNat = p.getD i.toNat 0)) : oFr f (dn ++ [p]) (many + 1) m R' := by
  have hn := h.none
  refine ⟨?_, fun q hq => ?_⟩
  · rw [List.countP_append, List.countP_cons, if_pos hf, List.countP_nil, h.1]; omega
  · rw [List.find?_append] at hq
    cases e : dn.find? f with
    | some p9 =>
      have h0 : many ≠ 0 := fun c => by have h9 := hn.mp c; rw [e] at h9; cases h9
      rw [hR.1 h0]
      rw [e] at hq; exact h.2 q (by rw [e]; exact hq)
    | none =>
      rw [e] at hq
      have h9 : [p].find? f = some q := hq
      have h7 := List.mem_of_find?_eq_some h9
      rw [List.mem_singleton] at h7
      rw [h7]
      exact hR.2 (hn.mpr e)
/-- the i-th of the row that was found -/
def oPick (L : List Int) (i : Int) : Option (List Int) → Int
  | none => -4
  | some p => if i < L.length then p.getD i.toNat 0 else -4
theorem oAt_pick {g : aGd} {K : Int} {L nt : List Int} {i : Int} : oAt g K L nt i = oPick L i ((oRows g L).find? (fun p => oFit K (oW g K) p nt)) := by
  unfold oAt
  cases (oRows g L).find? (fun p => oFit K (oW g K) p nt) <;> rfl
section MXO
variable {l : Launch} {G : fp_WG} {M N : fp_Mem} {tp : List Int} {fl : Int} {g : aGd} {pg : aPg} {vs : List aVt} {nt : List Int} {im : aIm} {sh : aSh} {tn : Int}
theorem frY.md (h : frY M N) (hd : mdIs M g) : mdIs N g := by
  unfold mdIs md_ok at *
  rw [h.1 177 (by decide) (by decide) (by decide), h.1 179 (by decide) (by decide) (by decide), h.1 180 (by decide) (by decide) (by decide), h.1 181 (by decide) (by decide) (by decide)]
  exact hd
abbrev oQ (M : fp_Mem) (tp : List Int) (fl : Int) (g : aGd) (pg : aPg) (vs : List aVt) (nt : List Int) (im : aIm) (sh : aSh) (tn x w : Int) : fp_Q := qI fun z N => z = A_orders g pg nt x w ∧ MS N tp fl g pg vs nt im sh tn ∧ frD M N
theorem mm_orders {x w : Int} (hc : MS M tp fl g pg vs nt im sh tn) (ho : OK g pg vs nt im sh) (hx : fp_rng x) (hw : fp_rng w) : fp_Ok l G 3 kX12_orders [rV G 177, iV x, iV w] M (qI fun z N => z = A_orders g pg nt x w ∧ MS N tp fl g pg vs nt im sh tn ∧ frD M N) := by
  have hcs := hc
  obtain ⟨-, hd, hcl, hv, hn, -⟩ := hc
  have hg := ho.1
  have hP := ho.2.1
  have hno := ho.2.2.2.1
  have e4 : M 177 4 = g.1 := hd.1
  have e5 : M 177 5 = g.2.1 := hd.2.1
  have hg1 := hg.1
  have hg2 := hg.2.1
  have hok := hd.2.2.2.2.2.2.2.2
  have hno9 : ∀ t ∈ nt, 0 ≤ t ∧ t ≤ 9 := fun t ht => by have := hno.1 t ht; omega
  have hw' := hw
  unfold fp_rng at hw'
  show fp_Ok l G 3 kX12_orders [rV G 177, iV x, iV w] M (oQ M tp fl g pg vs nt im sh tn x w)
  refine fp_Ok.of (r := 5) rfl (Nat.le_of_ble_eq_true rfl) rfl ?_
  have h28 : (0 ≤ x ∧ x < g.2.1) → (w = 0 ∨ (10 ≤ w ∧ w ≤ 17)) → fp_S l G 3 kX12_orders 28 [some (rV G 177), some (iV x), some (iV w), none, none, none, none, none] [] M (oQ M tp fl g pg vs nt im sh tn x w) := by
    intro hxx hww
    have hx3 : 0 ≤ x ∧ x < 3 := by omega
    have hlen : M 178 (0 + 10 + 9 * x).toNat = (pg.2.2 x).length := (hcl.2.2 x hxx.1 hx3.2).1
    obtain ⟨l1, l2, l3, l4⟩ := hP.2.1 x hxx.1 hx3.2
    have hin : oIn g (pg.2.2 x) := ⟨l2, fun t ht => ⟨(l4 t ht).1, (l4 t ht).2.1⟩, hg1.2⟩
    have eA : A_orders g pg nt x w = if 7 < ((pg.2.2 x).length : Int) then -2 else if w = 0 then oCt g (g.2.2.2.2.2 x) (pg.2.2 x) nt else oAt g (g.2.2.2.2.2 x) (pg.2.2 x) nt (w - 10) := by
      unfold A_orders
      rw [if_pos ⟨hxx, by omega⟩]
    generalize hm : ((pg.2.2 x).length : Int) = m at *
    by_cases h7 : m ≤ 7
    · rw [if_neg (by omega)] at eA
      obtain ⟨ff, hff⟩ : ∃ ff : List Int → Bool, ff = fun p => oFit (g.2.2.2.2.2 x) (oW g (g.2.2.2.2.2 x)) p nt := ⟨_, rfl⟩
      have hct : oCt g (g.2.2.2.2.2 x) (pg.2.2 x) nt = ((oRows g (pg.2.2 x)).countP ff : Nat) := by unfold oCt; rw [hff]
      have hat : oAt g (g.2.2.2.2.2 x) (pg.2.2 x) nt (w - 10) = oPick (pg.2.2 x) (w - 10) ((oRows g (pg.2.2 x)).find? ff) := by rw [oAt_pick, hff]
      have hall : (oRows g (pg.2.2 x)).length ≤ 5040 := by
        unfold oRows
        rw [pm_len hin.sp.length_eq]
        exact fct_7 (by omega)
      have h158 : ∀ (N : fp_Mem) (n many more : Int) (o7 : Option Value), oFr ff (oRows g (pg.2.2 x)) many m (N 195) → frY M N → fp_S l G 3 kX12_orders 158 [some (rV G 177), some (iV x), some (iV w), some (iV m), some (iV n), some (iV many), some (iV more), o7] [] N (oQ M tp fl g pg vs nt im sh tn x w) := by
        intro N n many more o7 hmn f1
        have hnone := hmn.none
        have hm1 := hmn.1
        have hcl9 := List.countP_le_length (p := ff) (l := oRows g (pg.2.2 x))
        rw [hct, hat, ← hm1] at eA
        have hA : w = 0 → many = A_orders g pg nt x w := fun e => by rw [eA, if_pos e]
        have hB : w ≠ 0 → (many = 0 ∨ m ≤ w - 10) → -4 = A_orders g pg nt x w := fun e e2 => by
          rw [eA, if_neg e]
          cases e9 : (oRows g (pg.2.2 x)).find? ff with
          | none => rfl
          | some p9 =>
            have h0 : many ≠ 0 := fun c => by have h9 := hnone.mp c; rw [e9] at h9; cases h9
            show _ = ite _ _ _
            rw [if_neg (by omega)]
        have hC : w ≠ 0 → many ≠ 0 → w - 10 < m → N 195 (w - 10).toNat = A_orders g pg nt x w := fun e e2 e3 => by
          rw [eA, if_neg e]
          cases e9 : (oRows g (pg.2.2 x)).find? ff with
          | none => exact absurd (hnone.mpr e9) e2
          | some p9 =>
            show _ = ite _ _ _
            rw [if_pos (by omega)]
            exact hmn.2 p9 e9 _ (by omega) e3
        refine S.iload_n (pc' := 159) dX12_orders_158 rfl rfl rfl ?_
        refine S.if_ne (pc' := 162) (tgt := 167) dX12_orders_159 (by decide) rfl (by unfold fp_rng; omega) (fun h159 => ?_) (fun h159 => ?_)
        · refine S.iload (pc' := 169) dX12_orders_167 rfl rfl ?_
          refine S.if_eq (pc' := 172) (tgt := 180) dX12_orders_169 (by decide) rfl (by unfold fp_rng; omega) (fun h169 => ?_) (fun h169 => ?_)
          · refine S.bipush (pc' := 182) dX12_orders_180 rfl (by decide) ?_
            refine S.goto (pc' := 194) dX12_orders_182 (by decide) ?_
            refine S.iret dX12_orders_194 rfl ?_
            refine ⟨?_, hcs.yy ho f1, f1.d⟩
            first
            | exact hA (by omega)
            | exact hB (by omega) (by omega)
            | exact hC (by omega) (by omega) (by omega)
          · refine S.iload_n (pc' := 173) dX12_orders_172 rfl rfl rfl ?_
            refine S.bipush (pc' := 175) dX12_orders_173 rfl (by decide) ?_
            refine S.isub (pc' := 176) dX12_orders_175 rfl ?_
            refine S.iload_n (pc' := 177) dX12_orders_176 rfl rfl rfl ?_
            refine S.icmp_lt (pc' := 180) (tgt := 185) dX12_orders_177 (by decide) rfl (by unfold fp_rng; omega) (by unfold fp_rng; omega) (fun h177 => ?_) (fun h177 => ?_)
            · refine S.aload_n (pc' := 186) dX12_orders_185 rfl rfl rfl ?_
              refine S.getR (pc' := 189) dX12_orders_186 rfl fX12_66 L_177 rf_177_36 ?_
              refine S.iload_n (pc' := 190) dX12_orders_189 rfl rfl rfl ?_
              refine S.bipush (pc' := 192) dX12_orders_190 rfl (by decide) ?_
              refine S.isub (pc' := 193) dX12_orders_192 rfl ?_
              refine S.iald (pc' := 194) dX12_orders_193 rfl L_195 (by omega) (by omega) ?_
              refine S.iret dX12_orders_194 rfl ?_
              refine ⟨?_, hcs.yy ho f1, f1.d⟩
              first
              | exact hA (by omega)
              | exact hB (by omega) (by omega)
              | exact hC (by omega) (by omega) (by omega)
            · refine S.bipush (pc' := 182) dX12_orders_180 rfl (by decide) ?_
              refine S.goto (pc' := 194) dX12_orders_182 (by decide) ?_
              refine S.iret dX12_orders_194 rfl ?_
              refine ⟨?_, hcs.yy ho f1, f1.d⟩
              first
              | exact hA (by omega)
              | exact hB (by omega) (by omega)
              | exact hC (by omega) (by omega) (by omega)
        · refine S.iload (pc' := 164) dX12_orders_162 rfl rfl ?_
          refine S.goto (pc' := 194) dX12_orders_164 (by decide) ?_
          refine S.iret dX12_orders_194 rfl ?_
          refine ⟨?_, hcs.yy ho f1, f1.d⟩
          first
          | exact hA (by omega)
          | exact hB (by omega) (by omega)
          | exact hC (by omega) (by omega) (by omega)
      have hLoop : ∀ (r : Nat) (n many : Int) (dn rest : List (List Int)) (N : fp_Mem) (o7 : Option Value), rest.length < r → frY M N → rOk (N 194) m → oRows g (pg.2.2 x) = dn ++ sg (N 194) 0 m.toNat :: rest → oFr ff dn many m (N 195) → fp_S l G 3 kX12_orders 97 [some (rV G 177), some (iV x), some (iV w), some (iV m), some (iV n), some (iV many), some (iV 1), o7] [] N (oQ M tp fl g pg vs nt im sh tn x w) := by
        intro r
        induction r with
        | zero => intro n many dn rest N o7 hr; omega
        | succ r ih =>
          intro n many dn rest N o7 hr hf hR hrows hfr
          have hcl9 := List.countP_le_length (p := ff) (l := dn)
          have hlr : (oRows g (pg.2.2 x)).length = dn.length + (rest.length + 1) := by rw [hrows, List.length_append, List.length_cons]
          have hmn : 0 ≤ many ∧ many ≤ 5040 := by
            have h9 := hfr.1
            omega
          have hperm : List.Perm (sg (N 194) 0 m.toNat) (pg.2.2 x) := (hin.mem _).mp (by rw [hrows]; exact List.mem_append.mpr (Or.inr List.mem_cons_self))
          have h97e : ∀ (n many : Int) (O : fp_Mem) (o7 : Option Value), oFr ff (oRows g (pg.2.2 x)) many m (O 195) → frY M O → fp_S l G 3 kX12_orders 97 [some (rV G 177), some (iV x), some (iV w), some (iV m), some (iV n), some (iV many), some (iV 0), o7] [] O (oQ M tp fl g pg vs nt im sh tn x w) := by
            intro n many O o7 hmm fO
            refine S.iload (pc' := 99) dX12_orders_97 rfl rfl ?_
            refine S.if_eq (pc' := 102) (tgt := 158) dX12_orders_99 (by decide) rfl (by unfold fp_rng; omega) (fun h99 => ?_) (fun h99 => ?_)
            · exact h158 _ _ _ _ _ hmm fO
            · exact absurd rfl h99
          have h148 : ∀ (O : fp_Mem) (many : Int) (o7 : Option Value), frY M O → O 194 = N 194 → oFr ff (dn ++ [sg (N 194) 0 m.toNat]) many m (O 195) → fp_S l G 3 kX12_orders 148 [some (rV G 177), some (iV x), some (iV w), some (iV m), some (iV n), some (iV many), some (iV 1), o7] [] O (oQ M tp fl g pg vs nt im sh tn x w) := by
            intro O many o7 f1 e1 hmn1
            refine S.aload_n (pc' := 149) dX12_orders_148 rfl rfl rfl ?_
            refine S.iload_n (pc' := 150) dX12_orders_149 rfl rfl rfl ?_
            refine S.callVi (pc' := 153) dX12_orders_150 rfl cX12_315 (xk_X12_nextRow (by omega) (by rw [e1]; exact hR)) rfl L_177 (by decide) rfl (Nat.le_of_ble_eq_true rfl) (fun z150 M150 q150 => ?_)
            obtain ⟨f2, hz⟩ := q150
            have f3 : frY M M150 := f1.trans ⟨fun c _ a2 _ => f2 c a2, fun j _ => by rw [f2 178 (by decide)]⟩
            have e195 : M150 195 = O 195 := f2 195 (by decide)
            rw [e1] at hz
            refine S.istore (pc' := 155) (LL' := [_, _, _, _, _, _, _, _]) dX12_orders_153 rfl (by decide) rfl rfl ?_
            refine S.goto (pc' := 97) dX12_orders_155 (by decide) ?_
            rcases hz with ⟨rfl, hz⟩ | ⟨rfl, r1, r2, r3, r4⟩
            · have er := o_last hin.sorted hrows (fun q hq => hz q (((hin.mem q).mp hq).trans hperm.symm))
              rw [er] at hrows
              exact h97e _ _ _ _ (by rw [e195, hrows]; exact hmn1) f3
            · obtain ⟨rest', er⟩ := o_next hin.sorted hrows ((hin.mem _).mpr (r2.trans hperm)) r3 (fun q hq => r4 q (((hin.mem q).mp hq).trans hperm.symm))
              rw [er] at hrows hr
              rw [List.length_cons] at hr
              exact ih _ _ (dn ++ [sg (N 194) 0 m.toNat]) rest' _ _ (by omega) f3 r1 (by rw [hrows, List.append_assoc]; rfl) (by rw [e195]; exact hmn1)
          have hnN : mnRow (N 178) nt := hn.kept (fun j j0 j1 => hf.2 j (by omega))
          have hget : ∀ k : Int, 0 ≤ k → k < m → (sg (N 194) 0 m.toNat).getD k.toNat 0 = N 194 k.toNat := fun k k0 k1 => by
            rw [sg_getD (by omega), Nat.zero_add]
          have h114 : ff (sg (N 194) 0 m.toNat) = true → ∀ (rr : Nat) (i : Int) (O : fp_Mem), (8 - i).toNat < rr → 0 ≤ i → i ≤ m → frY M O → O 194 = N 194 → (many ≠ 0 → O 195 = N 195) → (many = 0 → ∀ k : Int, 0 ≤ k → k < i → O 195 k.toNat = N 194 k.toNat) → fp_S l G 3 kX12_orders 114 [some (rV G 177), some (iV x), some (iV w), some (iV m), some (iV n), some (iV many), some (iV 1), some (iV i)] [] O (oQ M tp fl g pg vs nt im sh tn x w) := by
            intro hfit rr
            induction rr with
            | zero => intro i O hr; omega
            | succ rr ihh =>
              intro i O hr2 i0 i1 f1 e1 w1 w2
              refine S.iload (pc' := 116) dX12_orders_114 rfl rfl ?_
              refine S.iload_n (pc' := 117) dX12_orders_116 rfl rfl rfl ?_
              refine S.icmp_ge (pc' := 120) (tgt := 145) dX12_orders_117 (by decide) rfl (by unfold fp_rng; omega) (by unfold fp_rng; omega) (fun h117 => ?_) (fun h117 => ?_)
              · refine S.iinc (pc' := 148) (LL' := [_, _, _, _, _, _, _, _]) dX12_orders_145 rfl (by decide) rfl rfl rfl ?_
                refine h148 _ _ _ f1 e1 (hfr.hit hfit ⟨w1, fun c k k0 k1 => ?_⟩)
                rw [hget k k0 k1]
                exact w2 c k k0 (by omega)
              · refine S.iload (pc' := 122) dX12_orders_120 rfl rfl ?_
                refine S.if_ne (pc' := 125) (tgt := 145) dX12_orders_122 (by decide) rfl (by unfold fp_rng; omega) (fun h122 => ?_) (fun h122 => ?_)
                · refine S.iinc (pc' := 148) (LL' := [_, _, _, _, _, _, _, _]) dX12_orders_145 rfl (by decide) rfl rfl rfl ?_
                  refine h148 _ _ _ f1 e1 (hfr.hit hfit ⟨w1, fun c k k0 k1 => ?_⟩)
                  rw [hget k k0 k1]
                  exact w2 c k k0 (by omega)
                · refine S.aload_n (pc' := 126) dX12_orders_125 rfl rfl rfl ?_
                  refine S.getR (pc' := 129) dX12_orders_126 rfl fX12_66 L_177 rf_177_36 ?_
                  refine S.iload (pc' := 131) dX12_orders_129 rfl rfl ?_
                  refine S.aload_n (pc' := 132) dX12_orders_131 rfl rfl rfl ?_
                  refine S.getR (pc' := 135) dX12_orders_132 rfl fX12_63 L_177 rf_177_35 ?_
                  refine S.iload (pc' := 137) dX12_orders_135 rfl rfl ?_
                  refine S.iald (pc' := 138) dX12_orders_137 rfl L_194 (by omega) (by omega) ?_
                  refine S.iast (pc' := 139) dX12_orders_138 rfl L_195 (by omega) (by omega) ?_
                  refine S.iinc (pc' := 142) (LL' := [_, _, _, _, _, _, _, _]) dX12_orders_139 rfl (by decide) rfl rfl rfl ?_
                  refine S.goto (pc' := 114) dX12_orders_142 (by decide) ?_
                  refine ihh _ _ (by omega) (by omega) (by omega) (f1.trans ⟨fun c _ _ a3 => fp_up_ne a3, fun j _ => by rw [fp_up_ne (by decide)]⟩) (by rw [fp_up_ne (by decide)]; exact e1) (fun c => by omega) (fun c k k0 k1 => ?_)
                  rw [fp_up_at]
                  by_cases e : k = i
                  · rw [e, fp_upf_at, e1]
                  · rw [fp_upf_ne (by omega)]; exact w2 c k k0 (by omega)
          refine S.iload (pc' := 99) dX12_orders_97 rfl rfl ?_
          refine S.if_eq (pc' := 102) (tgt := 158) dX12_orders_99 (by decide) rfl (by unfold fp_rng; omega) (fun h99 => ?_) (fun h99 => ?_)
          · exact absurd h99 (by decide)
          · refine S.aload_n (pc' := 103) dX12_orders_102 rfl rfl rfl ?_
            refine S.iload_n (pc' := 104) dX12_orders_103 rfl rfl rfl ?_
            refine S.iload_n (pc' := 105) dX12_orders_104 rfl rfl rfl ?_
            refine S.callVi (pc' := 108) dX12_orders_105 rfl cX12_312 (xk_X12_fitsRow hg hxx (by omega) (hf.md hd) rfl (fun t ht => by have h9 := l4 t (hperm.subset ht); exact ⟨h9.1, h9.2.1⟩) (hperm.symm.nodup l2) hnN hno9) rfl L_177 (by decide) rfl (Nat.le_of_ble_eq_true rfl) (fun z105 M105 q105 => ?_)
            obtain ⟨z1, f1⟩ := q105
            have e195 : M105 195 = N 195 := f1.1 195 (by decide)
            have ez : ff (sg (N 194) 0 m.toNat) = oFit (g.2.2.2.2.2 x) (oW g (g.2.2.2.2.2 x)) (sg (N 194) 0 m.toNat) nt := by rw [hff]
            rw [← ez] at z1
            refine S.if_eq (pc' := 111) (tgt := 148) dX12_orders_108 (by decide) rfl (by unfold fp_rng; omega) (fun h108 => ?_) (fun h108 => ?_)
            · exact h148 _ _ _ (hf.trans f1.y) (f1.1 194 (by decide)) (hfr.skip (z1.resolve_left (fun e => by omega)).2 e195)
            · refine S.iconst (pc' := 112) dX12_orders_111 rfl ?_
              refine S.istore (pc' := 114) (LL' := [_, _, _, _, _, _, _, _]) dX12_orders_112 rfl (by decide) rfl rfl ?_
              exact h114 (z1.resolve_right (fun e => by omega)).2 9 0 _ (by omega) (by omega) (by omega) (hf.trans f1.y) (f1.1 194 (by decide)) (fun _ => e195) (fun _ k k0 k1 => by omega)
      have hcnt := cntL_len (n := g.1.toNat) (pg.2.2 x) l2 (fun t ht => by have := l4 t ht; omega)
      have hBuild : ∀ (r k : Nat) (N : fp_Mem), g.1.toNat - k < r → (k : Int) ≤ g.1 → (∀ c, c ≠ 194 → N c = M c) → (∀ a : Nat, (a : Int) < cntL (pg.2.2 x) k → N 194 a = (oS (pg.2.2 x) k).getD a 0) → fp_S l G 3 kX12_orders 50 [some (rV G 177), some (iV x), some (iV w), some (iV m), some (iV (cntL (pg.2.2 x) k)), some (iV (k : Int)), none, none] [] N (oQ M tp fl g pg vs nt im sh tn x w) := by
        intro r
        induction r with
        | zero => intro k N hr; omega
        | succ r ih =>
          intro k N hr hk hf h1
          have n4 : N 177 4 = g.1 := by rw [hf 177 (by decide)]; exact e4
          have hci := cntL_in (pg.2.2 x) k (g.1.toNat - k)
          rw [show k + (g.1.toNat - k) = g.1.toNat by omega, hcnt] at hci
          have hoc := oS_cnt (L := pg.2.2 x) k
          by_cases hlt : (k : Int) < g.1
          · have hw1 := hP.1 (k : Int) (by omega) hlt
            have ek : N 178 ((k : Int)).toNat = pg.1 (k : Int) := by
              rw [hf 178 (by decide)]
              have := hcl.1 (k : Int) (by omega) hlt
              rw [Int.zero_add] at this
              exact this
            have hmem : (k : Int) ∈ pg.2.2 x ↔ pg.1 (k : Int) = 10 + x := by
              constructor
              · intro q; exact (l4 _ q).2.2
              · intro q
                have := (hP.2.2 (k : Int) (by omega) hlt (by omega)).1
                rw [q, show 10 + x - 10 = x by omega] at this
                exact this
            have hci2 := cntL_in (pg.2.2 x) (k + 1) (g.1.toNat - (k + 1))
            rw [show k + 1 + (g.1.toNat - (k + 1)) = g.1.toNat by omega, hcnt] at hci2
            have es : cntL (pg.2.2 x) (k + 1) = cntL (pg.2.2 x) k + if (k : Int) ∈ pg.2.2 x then 1 else 0 := rfl
            have eo : oS (pg.2.2 x) (k + 1) = if (k : Int) ∈ pg.2.2 x then oS (pg.2.2 x) k ++ [(k : Int)] else oS (pg.2.2 x) k := rfl
            have hi := ih (k + 1)
            by_cases hinn : pg.1 (k : Int) = 10 + x
            · rw [if_pos (hmem.mpr hinn)] at es eo
              rw [es, eo] at hi
              rw [es] at hci2
              have h85 : fp_S l G 3 kX12_orders 85 [some (rV G 177), some (iV x), some (iV w), some (iV m), some (iV (cntL (pg.2.2 x) k + 1)), some (iV (k : Int)), none, none] [] (fp_up N 194 (cntL (pg.2.2 x) k).toNat (k : Int)) (oQ M tp fl g pg vs nt im sh tn x w) := by
                refine S.iinc (pc' := 88) (LL' := [_, _, _, _, _, _, _, _]) dX12_orders_85 rfl (by decide) rfl rfl rfl ?_
                refine S.goto (pc' := 50) dX12_orders_88 (by decide) ?_
                rw [show ((k : Int) + 1) = ((k + 1 : Nat) : Int) by omega]
                refine hi _ (by omega) (by omega) (fun c hc => by rw [fp_up_ne hc]; exact hf c hc) (fun a ha => ?_)
                rw [fp_up_at, fp_appD]
                by_cases e : a = (cntL (pg.2.2 x) k).toNat
                · rw [e, fp_upf_at, if_neg (by omega), if_pos (by omega)]
                · rw [fp_upf_ne e, if_pos (by omega)]; exact h1 a (by omega)
              refine S.iload (pc' := 52) dX12_orders_50 rfl rfl ?_
              refine S.aload_n (pc' := 53) dX12_orders_52 rfl rfl rfl ?_
              refine S.getI (pc' := 56) dX12_orders_53 rfl fX12_181 L_177 ?_
              rw [n4]
              refine S.icmp_ge (pc' := 59) (tgt := 91) dX12_orders_56 (by decide) rfl (by unfold fp_rng; omega) (by unfold fp_rng; omega) (fun h56 => ?_) (fun h56 => ?_)
              · exfalso; omega
              · refine S.aload_n (pc' := 60) dX12_orders_59 rfl rfl rfl ?_
                refine S.getR (pc' := 63) dX12_orders_60 rfl fX12_7 L_177 rf_177_0 ?_
                refine S.iload (pc' := 65) dX12_orders_63 rfl rfl ?_
                refine S.iald (pc' := 66) dX12_orders_65 rfl L_178 (by omega) (by omega) ?_
                rw [ek]
                refine S.bipush (pc' := 68) dX12_orders_66 rfl (by decide) ?_
                refine S.iload_n (pc' := 69) dX12_orders_68 rfl rfl rfl ?_
                refine S.iadd (pc' := 70) dX12_orders_69 rfl ?_
                refine S.icmp_ne (pc' := 73) (tgt := 85) dX12_orders_70 (by decide) rfl (by unfold fp_rng; omega) (by unfold fp_rng; omega) (fun h70 => ?_) (fun h70 => ?_)
                · first
                  | (exfalso; omega)
                  | exact h85
                · refine S.aload_n (pc' := 74) dX12_orders_73 rfl rfl rfl ?_
                  refine S.getR (pc' := 77) dX12_orders_74 rfl fX12_63 L_177 rf_177_35 ?_
                  refine S.iload (pc' := 79) dX12_orders_77 rfl rfl ?_
                  refine S.iload (pc' := 81) dX12_orders_79 rfl rfl ?_
                  refine S.iast (pc' := 82) dX12_orders_81 rfl L_194 (by omega) (by omega) ?_
                  refine S.iinc (pc' := 85) (LL' := [_, _, _, _, _, _, _, _]) dX12_orders_82 rfl (by decide) rfl rfl rfl ?_
                  first
                  | (exfalso; omega)
                  | exact h85
            · rw [if_neg (fun q => hinn (hmem.mp q))] at es eo
              rw [Int.add_zero] at es
              rw [es, eo] at hi
              refine S.iload (pc' := 52) dX12_orders_50 rfl rfl ?_
              refine S.aload_n (pc' := 53) dX12_orders_52 rfl rfl rfl ?_
              refine S.getI (pc' := 56) dX12_orders_53 rfl fX12_181 L_177 ?_
              rw [n4]
              refine S.icmp_ge (pc' := 59) (tgt := 91) dX12_orders_56 (by decide) rfl (by unfold fp_rng; omega) (by unfold fp_rng; omega) (fun h56 => ?_) (fun h56 => ?_)
              · exfalso; omega
              · refine S.aload_n (pc' := 60) dX12_orders_59 rfl rfl rfl ?_
                refine S.getR (pc' := 63) dX12_orders_60 rfl fX12_7 L_177 rf_177_0 ?_
                refine S.iload (pc' := 65) dX12_orders_63 rfl rfl ?_
                refine S.iald (pc' := 66) dX12_orders_65 rfl L_178 (by omega) (by omega) ?_
                rw [ek]
                refine S.bipush (pc' := 68) dX12_orders_66 rfl (by decide) ?_
                refine S.iload_n (pc' := 69) dX12_orders_68 rfl rfl rfl ?_
                refine S.iadd (pc' := 70) dX12_orders_69 rfl ?_
                refine S.icmp_ne (pc' := 73) (tgt := 85) dX12_orders_70 (by decide) rfl (by unfold fp_rng; omega) (by unfold fp_rng; omega) (fun h70 => ?_) (fun h70 => ?_)
                · refine S.iinc (pc' := 88) (LL' := [_, _, _, _, _, _, _, _]) dX12_orders_85 rfl (by decide) rfl rfl rfl ?_
                  refine S.goto (pc' := 50) dX12_orders_88 (by decide) ?_
                  rw [show ((k : Int) + 1) = ((k + 1 : Nat) : Int) by omega]
                  exact hi N (by omega) (by omega) hf h1
                · exfalso; omega
          · have ek : k = g.1.toNat := by omega
            rw [ek, hcnt] at hoc
            rw [ek, hcnt, hm] at h1
            have erow : sg (N 194) 0 m.toNat = oS (pg.2.2 x) g.1.toNat := by
              refine List.ext_getElem (by rw [sg_len]; omega) (fun a a1 a2 => ?_)
              rw [sg_len] at a1
              have h9 := h1 a (by omega)
              have h8 := sg_getD (f := N 194) (a := 0) a1
              rw [Nat.zero_add, h9, List.getD_eq_getElem?_getD, List.getD_eq_getElem?_getD, List.getElem?_eq_getElem a2, List.getElem?_eq_getElem (by rw [sg_len]; exact a1)] at h8
              exact h8
            have hRR : rOk (N 194) m := rOk_of (by rw [erow]; exact hin.d9) (by rw [erow]; exact oS_nodup _)
            obtain ⟨rest, hrest⟩ := pm_head hin.sp.length_eq
            have hrows : oRows g (pg.2.2 x) = [] ++ sg (N 194) 0 m.toNat :: rest := by
              rw [erow, List.nil_append]
              exact hrest
            refine S.iload (pc' := 52) dX12_orders_50 rfl rfl ?_
            refine S.aload_n (pc' := 53) dX12_orders_52 rfl rfl rfl ?_
            refine S.getI (pc' := 56) dX12_orders_53 rfl fX12_181 L_177 ?_
            rw [n4]
            refine S.icmp_ge (pc' := 59) (tgt := 91) dX12_orders_56 (by decide) rfl (by unfold fp_rng; omega) (by unfold fp_rng; omega) (fun h56 => ?_) (fun h56 => ?_)
            · refine S.iconst (pc' := 92) dX12_orders_91 rfl ?_
              refine S.istore (pc' := 94) (LL' := [_, _, _, _, _, _, _, _]) dX12_orders_92 rfl (by decide) rfl rfl ?_
              refine S.iconst (pc' := 95) dX12_orders_94 rfl ?_
              refine S.istore (pc' := 97) (LL' := [_, _, _, _, _, _, _, _]) dX12_orders_95 rfl (by decide) rfl rfl ?_
              exact hLoop _ _ 0 [] rest N _ (Nat.lt_succ_self _) ⟨fun c _ a2 _ => hf c a2, fun j _ => by rw [hf 178 (by decide)]⟩ hRR hrows ⟨rfl, fun p hp => by rw [List.find?_nil] at hp; cases hp⟩
            · exfalso; omega
      refine S.aload_n (pc' := 29) dX12_orders_28 rfl rfl rfl ?_
      refine S.iconst (pc' := 30) dX12_orders_29 rfl ?_
      refine S.iload_n (pc' := 31) dX12_orders_30 rfl rfl rfl ?_
      refine S.callVe (pc' := 34) dX12_orders_31 rfl cX12_198 (ok_X12_lie (by omega) (by omega) hx3) rfl L_177 (by decide) rfl (Nat.le_of_ble_eq_true rfl) ?_
      rw [hlen]
      refine S.istore_n (pc' := 35) (LL' := [_, _, _, _, _, _, _, _]) dX12_orders_34 rfl (by decide) rfl rfl rfl ?_
      refine S.iload_n (pc' := 36) dX12_orders_35 rfl rfl rfl ?_
      refine S.bipush (pc' := 38) dX12_orders_36 rfl (by decide) ?_
      refine S.icmp_le (pc' := 41) (tgt := 44) dX12_orders_38 (by decide) rfl (by unfold fp_rng; omega) (by unfold fp_rng; omega) (fun h38 => ?_) (fun h38 => ?_)
      · refine S.iconst (pc' := 45) dX12_orders_44 rfl ?_
        refine S.istore (pc' := 47) (LL' := [_, _, _, _, _, _, _, _]) dX12_orders_45 rfl (by decide) rfl rfl ?_
        refine S.iconst (pc' := 48) dX12_orders_47 rfl ?_
        refine S.istore (pc' := 50) (LL' := [_, _, _, _, _, _, _, _]) dX12_orders_48 rfl (by decide) rfl rfl ?_
        exact hBuild _ 0 M (Nat.lt_succ_self _) (by omega) (fun _ _ => rfl) (fun a ha => by have : cntL (pg.2.2 x) 0 = 0 := rfl; omega)
      · exfalso; omega
    · rw [if_pos (by omega)] at eA
      refine S.aload_n (pc' := 29) dX12_orders_28 rfl rfl rfl ?_
      refine S.iconst (pc' := 30) dX12_orders_29 rfl ?_
      refine S.iload_n (pc' := 31) dX12_orders_30 rfl rfl rfl ?_
      refine S.callVe (pc' := 34) dX12_orders_31 rfl cX12_198 (ok_X12_lie (by omega) (by omega) hx3) rfl L_177 (by decide) rfl (Nat.le_of_ble_eq_true rfl) ?_
      rw [hlen]
      refine S.istore_n (pc' := 35) (LL' := [_, _, _, _, _, _, _, _]) dX12_orders_34 rfl (by decide) rfl rfl rfl ?_
      refine S.iload_n (pc' := 36) dX12_orders_35 rfl rfl rfl ?_
      refine S.bipush (pc' := 38) dX12_orders_36 rfl (by decide) ?_
      refine S.icmp_le (pc' := 41) (tgt := 44) dX12_orders_38 (by decide) rfl (by unfold fp_rng; omega) (by unfold fp_rng; omega) (fun h38 => ?_) (fun h38 => ?_)
      · exfalso; omega
      · refine S.bipush (pc' := 43) dX12_orders_41 rfl (by decide) ?_
        refine S.iret dX12_orders_43 rfl ?_
        exact ⟨eA.symm, hcs, frD.refl _⟩
  refine S.aload_n (pc' := 1) dX12_orders_0 rfl rfl rfl ?_
  refine S.iload_n (pc' := 2) dX12_orders_1 rfl rfl rfl ?_
  refine S.callVi (pc' := 5) dX12_orders_2 rfl cX12_219 (bk_X12_isLine) rfl L_177 (by decide) rfl (Nat.le_of_ble_eq_true rfl) (fun z2 M2 q2 => ?_)
  obtain ⟨b2, rfl⟩ := q2
  refine S.if_eq (pc' := 8) (tgt := 26) dX12_orders_5 (by decide) rfl (by unfold fp_rng; omega) (fun h5 => ?_) (fun h5 => ?_)
  · refine S.iconst (pc' := 27) dX12_orders_26 rfl ?_
    refine S.iret dX12_orders_27 rfl ?_
    refine ⟨?_, hcs, frD.refl _⟩
    unfold A_orders
    rw [if_neg (by omega)]
  · refine S.iload_n (pc' := 9) dX12_orders_8 rfl rfl rfl ?_
    refine S.if_eq (pc' := 12) (tgt := 28) dX12_orders_9 (by decide) rfl hw (fun h9 => ?_) (fun h9 => ?_)
    · exact h28 (by omega) (by omega)
    · refine S.iload_n (pc' := 13) dX12_orders_12 rfl rfl rfl ?_
      refine S.i2l (pc' := 14) dX12_orders_13 rfl hw ?_
      refine S.ldc2 (pc' := 17) (v := 10) dX12_orders_14 rfl lX12_212 (by decide) ?_
      refine S.ldc2 (pc' := 20) (v := 17) dX12_orders_17 rfl lX12_310 (by decide) ?_
      refine S.callSi (pc' := 23) dX12_orders_20 rfl cX12_94 (bk_X12_in) rfl (by decide) rfl (Nat.le_of_ble_eq_true rfl) (fun z20 M20 q20 => ?_)
      obtain ⟨b20, rfl⟩ := q20
      refine S.if_ne (pc' := 26) (tgt := 28) dX12_orders_23 (by decide) rfl (by unfold fp_rng; omega) (fun h23 => ?_) (fun h23 => ?_)
      · exact h28 (by omega) (by omega)
      · refine S.iconst (pc' := 27) dX12_orders_26 rfl ?_
        refine S.iret dX12_orders_27 rfl ?_
        refine ⟨?_, hcs, frD.refl _⟩
        unfold A_orders
        rw [if_neg (by omega)]
end MXO
