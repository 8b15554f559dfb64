/-! CHANCES: all rows, the reference -/
def chF (g : aGd) (pg : aPg) (vs : List aVt) (x : Int) : Nat → Int → Int
  | 0, _ => 0
  | m + 1, t => chF g pg vs x m t + (if aGv g (chI g pg vs m vs.length).2 x = t ∧ 0 < (chI g pg vs m vs.length).1 then (chI g pg vs m vs.length).1 else 0)
def frL (M N : fp_Mem) : Prop := (∀ c, c ≠ 178 → c ≠ 192 → N c = M c) ∧ ∀ j : Nat, (j < 360 ∨ 410 ≤ j) → N 178 j = M 178 j
theorem frL.refl (M : fp_Mem) : frL M M := ⟨fun _ _ _ => rfl, fun _ _ => rfl⟩
theorem frL.trans {M N O : fp_Mem} (h1 : frL M N) (h2 : frL N O) : frL M O := ⟨fun c hc h9 => (h2.1 c hc h9).trans (h1.1 c hc h9), fun j hj => (h2.2 j hj).trans (h1.2 j hj)⟩
theorem frT.L {M N : fp_Mem} (h : frT M N) : frL M N := ⟨fun c hc _ => h.1 c hc, h.2⟩
theorem frL.md {M N : fp_Mem} {g : aGd} (h : frL M N) (hd : mdIs M g) : mdIs N g := by
  unfold mdIs md_ok at *
  rw [h.1 177 (by decide) (by decide), h.1 179 (by decide) (by decide), h.1 180 (by decide) (by decide), h.1 181 (by decide) (by decide)]
  exact hd
theorem frL.mv {M N : fp_Mem} {vs : List aVt} (h : frL M N) (hd : mvIs M vs) : mvIs N vs := hd.kept (fun j h1 h2 => h.2 j (by omega))
theorem frL.mp0 {M N : fp_Mem} {g : aGd} {pg : aPg} (h : frL M N) (hg : gOk g) (hP : pgOk g pg) (hd : mpIs M 0 g pg) : mpIs N 0 g pg := hd.kept hg hP (by omega) (fun j h1 h2 => h.2 j (by omega))
section MCQ
variable {l : Launch} {G : fp_WG} {M N : fp_Mem} {g : aGd} {pg : aPg} {vs : List aVt}
theorem ch_out {x : Int} {T : Nat} (hT : T = 2 ^ vs.length) {P : fp_Mem → Prop} (hg : gOk g) (hP : pgOk g pg) (hvo : vsOk g vs) (hl : vs.length ≤ 10) (hx : 0 ≤ x ∧ x < g.2.1) (hd0 : mdIs M g) (hv0 : mvIs M vs) (hp0 : mpIs M 0 g pg) (K : ∀ N, frL M N → (∀ t : Int, 0 ≤ t → t < 10 → N 192 t.toNat = chF g pg vs x T t) → P N) : ∀ (r m : Nat) (N : fp_Mem) (o4 o5 o6 o7 : Option Value), T - m < r → m ≤ T → frL M N → (∀ t : Int, 0 ≤ t → t < 10 → N 192 t.toNat = chF g pg vs x m t) →
    fp_S l G 5 kX12_layChances 58 [some (rV G 177), some (iV x), some (iV (vs.length : Int)), some (iV (m : Int)), o4, o5, o6, o7] [] N (qV P) := by
  have h1024 : T ≤ 1024 := by
    rw [hT]
    have q : ∀ n : Nat, n < 11 → 2 ^ n ≤ 1024 := by decide +kernel
    exact q _ (by omega)
  have hpow : (2 : Int) ^ ((vs.length : Int)).toNat = (T : Int) := by rw [Int.toNat_natCast, hT]; norm_cast
  clear hT
  intro r
  induction r with
  | zero => intro m N o4 o5 o6 o7 hr; omega
  | succ r ih =>
    intro m N o4 o5 o6 o7 hr hm hf hR
    have hd := hf.md hd0
    have hv := hf.mv hv0
    have hp := hf.mp0 hg hP hp0
    by_cases he : m < T
    · have K156 : ∀ (N2 : fp_Mem) (o6 o7 : Option Value), frT N N2 → mpIs N2 360 g (chI g pg vs (m : Int) vs.length).2 → fp_S l G 5 kX12_layChances 156 [some (rV G 177), some (iV x), some (iV (vs.length : Int)), some (iV (m : Int)), some (jV (chI g pg vs (m : Int) vs.length).1), none, o6, o7] [] N2 (qV P) := by
        intro N2 o6 o7 f2 p2
        obtain ⟨⟨w0, w1⟩, wP⟩ := chI_in (m := (m : Int)) hg hP hvo vs.length
        have w2 := pow10_le hl
        have hgv := aGv_in wP hg hx
        have hg1 := hg.1
        have e192 : N2 192 = N 192 := f2.1 192 (by decide)
        have hnext : ∀ (O : fp_Mem) (o4 o5 o6 o7 : Option Value), frL M O → (∀ t : Int, 0 ≤ t → t < 10 → O 192 t.toNat = chF g pg vs x (m + 1) t) → fp_S l G 5 kX12_layChances 192 [some (rV G 177), some (iV x), some (iV (vs.length : Int)), some (iV (m : Int)), o4, o5, o6, o7] [] O (qV P) := by
          intro O o4 o5 o6 o7 fO rO
          refine S.iinc (pc' := 195) (LL' := [_, _, _, _, _, _, _, _]) dX12_layChances_192 rfl (by decide) rfl rfl rfl ?_
          refine S.goto (pc' := 58) dX12_layChances_195 (by decide) ?_
          rw [show ((m : Int) + 1) = ((m + 1 : Nat) : Int) by omega]
          exact ih (m + 1) _ _ _ _ _ (by omega) (by omega) fO rO
        refine S.aload_n (pc' := 157) dX12_layChances_156 rfl rfl rfl ?_
        refine S.sipush (pc' := 160) dX12_layChances_157 rfl (by decide) ?_
        refine S.iload_n (pc' := 161) dX12_layChances_160 rfl rfl rfl ?_
        refine S.callVe (pc' := 164) dX12_layChances_161 rfl cX12_222 (rk_X12_gives (a := 360) (by omega) p2 (f2.md hd) wP hg hx) rfl L_177 (by decide) rfl (Nat.le_of_ble_eq_true rfl) ?_
        refine S.istore (pc' := 166) (LL' := [_, _, _, _, _, _, _, _]) dX12_layChances_164 rfl (by decide) rfl rfl ?_
        refine S.iload (pc' := 168) dX12_layChances_166 rfl rfl ?_
        refine S.bipush (pc' := 170) dX12_layChances_168 rfl (by decide) ?_
        refine S.icmp_eq (pc' := 173) (tgt := 192) dX12_layChances_170 (by decide) rfl (by unfold fp_rng; omega) (by unfold fp_rng; omega) (fun h170 => ?_) (fun h170 => ?_)
        · first
          | (refine hnext _ _ _ _ _ (hf.trans f2.L) (fun t t0 t1 => ?_)
             rw [e192, hR t t0 t1, chF, if_neg (fun q => by omega)]
             omega)
          | (refine hnext _ _ _ _ _ (hf.trans f2.L) (fun t t0 t1 => ?_)
             rw [e192, hR t t0 t1, chF, if_neg (fun q => by split at h177 <;> omega)]
             omega)
          | (refine hnext _ _ _ _ _ ((hf.trans f2.L).trans ⟨fun c _ h9 => fp_up_ne h9, fun _ _ => rfl⟩) (fun t t0 t1 => ?_)
             rw [fp_up_at, chF]
             by_cases e : aGv g (chI g pg vs (m : Int) vs.length).2 x = t
             · rw [e, if_pos ⟨rfl, by split at h177 <;> omega⟩, e192, hR t t0 t1]; simp [fp_upf]
             · rw [if_neg (fun q => e q.1), fp_upf_ne (by omega), e192, hR t t0 t1]; omega)
        · refine S.lload (pc' := 175) dX12_layChances_173 rfl rfl ?_
          refine S.lconst (pc' := 176) (w := 0) dX12_layChances_175 rfl rfl ?_
          refine S.lcmp (pc' := 177) dX12_layChances_176 rfl (by unfold fp_lng; omega) (by unfold fp_lng; omega) ?_
          refine S.if_le (pc' := 180) (tgt := 192) dX12_layChances_177 (by decide) rfl (by unfold fp_rng; omega) (fun h177 => ?_) (fun h177 => ?_)
          · first
            | (refine hnext _ _ _ _ _ (hf.trans f2.L) (fun t t0 t1 => ?_)
               rw [e192, hR t t0 t1, chF, if_neg (fun q => by omega)]
               omega)
            | (refine hnext _ _ _ _ _ (hf.trans f2.L) (fun t t0 t1 => ?_)
               rw [e192, hR t t0 t1, chF, if_neg (fun q => by split at h177 <;> omega)]
               omega)
            | (refine hnext _ _ _ _ _ ((hf.trans f2.L).trans ⟨fun c _ h9 => fp_up_ne h9, fun _ _ => rfl⟩) (fun t t0 t1 => ?_)
               rw [fp_up_at, chF]
               by_cases e : aGv g (chI g pg vs (m : Int) vs.length).2 x = t
               · rw [e, if_pos ⟨rfl, by split at h177 <;> omega⟩, e192, hR t t0 t1]; simp [fp_upf]
               · rw [if_neg (fun q => e q.1), fp_upf_ne (by omega), e192, hR t t0 t1]; omega)
          · refine S.aload_n (pc' := 181) dX12_layChances_180 rfl rfl rfl ?_
            refine S.getR (pc' := 184) dX12_layChances_181 rfl fX12_56 L_177 rf_177_32 ?_
            refine S.iload (pc' := 186) dX12_layChances_184 rfl rfl ?_
            refine S.dup2 (pc' := 187) dX12_layChances_186 rfl rfl rfl ?_
            refine S.lald (pc' := 188) dX12_layChances_187 rfl L_192 (by split at h177 <;> omega) (by split at h177 <;> omega) ?_
            refine S.lload (pc' := 190) dX12_layChances_188 rfl rfl ?_
            refine S.ladd (pc' := 191) dX12_layChances_190 rfl ?_
            refine S.last (pc' := 192) dX12_layChances_191 rfl L_192 (by split at h177 <;> omega) (by split at h177 <;> omega) ?_
            first
            | (refine hnext _ _ _ _ _ (hf.trans f2.L) (fun t t0 t1 => ?_)
               rw [e192, hR t t0 t1, chF, if_neg (fun q => by omega)]
               omega)
            | (refine hnext _ _ _ _ _ (hf.trans f2.L) (fun t t0 t1 => ?_)
               rw [e192, hR t t0 t1, chF, if_neg (fun q => by split at h177 <;> omega)]
               omega)
            | (refine hnext _ _ _ _ _ ((hf.trans f2.L).trans ⟨fun c _ h9 => fp_up_ne h9, fun _ _ => rfl⟩) (fun t t0 t1 => ?_)
               rw [fp_up_at, chF]
               by_cases e : aGv g (chI g pg vs (m : Int) vs.length).2 x = t
               · rw [e, if_pos ⟨rfl, by split at h177 <;> omega⟩, e192, hR t t0 t1]; simp [fp_upf]
               · rw [if_neg (fun q => e q.1), fp_upf_ne (by omega), e192, hR t t0 t1]; omega)
      refine S.iload_n (pc' := 59) dX12_layChances_58 rfl rfl rfl ?_
      refine S.iconst (pc' := 60) dX12_layChances_59 rfl ?_
      refine S.iload_n (pc' := 61) dX12_layChances_60 rfl rfl rfl ?_
      refine S.ishl (pc' := 62) dX12_layChances_61 rfl (fp_shl1 (by omega) (by omega)) ?_
      rw [hpow]
      refine S.icmp_ge (pc' := 65) (tgt := 198) dX12_layChances_62 (by decide) rfl (by unfold fp_rng; omega) (by unfold fp_rng; omega) (fun h62 => ?_) (fun h62 => ?_)
      · exfalso; omega
      · refine S.lconst (pc' := 66) (w := 1) dX12_layChances_65 rfl rfl ?_
        refine S.lstore (pc' := 68) (LL' := [_, _, _, _, _, _, _, _]) dX12_layChances_66 rfl (by decide) rfl rfl (by decide) ?_
        refine S.aload_n (pc' := 69) dX12_layChances_68 rfl rfl rfl ?_
        refine S.iconst (pc' := 70) dX12_layChances_69 rfl ?_
        refine S.sipush (pc' := 73) dX12_layChances_70 rfl (by decide) ?_
        refine S.callVv (pc' := 76) dX12_layChances_73 rfl cX12_265 (rk_X12_copies hp hP hg) rfl L_177 (by decide) rfl (Nat.le_of_ble_eq_true rfl) (fun M73 q73 => ?_)
        refine S.iconst (pc' := 77) dX12_layChances_76 rfl ?_
        refine S.istore (pc' := 79) (LL' := [_, _, _, _, _, _, _, _]) dX12_layChances_77 rfl (by decide) rfl rfl ?_
        exact ch_in (M := N) hg hP hvo hl (by omega) K156 (vs.length + 1) 0 _ _ (by omega) (by omega) q73.2 q73.1 (q73.2.md hd) (q73.2.mv hv)
    · have em : m = T := by omega
      subst em
      refine S.iload_n (pc' := 59) dX12_layChances_58 rfl rfl rfl ?_
      refine S.iconst (pc' := 60) dX12_layChances_59 rfl ?_
      refine S.iload_n (pc' := 61) dX12_layChances_60 rfl rfl rfl ?_
      refine S.ishl (pc' := 62) dX12_layChances_61 rfl (fp_shl1 (by omega) (by omega)) ?_
      rw [hpow]
      refine S.icmp_ge (pc' := 65) (tgt := 198) dX12_layChances_62 (by decide) rfl (by unfold fp_rng; omega) (by unfold fp_rng; omega) (fun h62 => ?_) (fun h62 => ?_)
      · refine S.vret dX12_layChances_198 rfl ?_
        exact K _ hf hR
      · exfalso; omega
end MCQ
