/-! A TEXT, whole: the class -/
section TX2
variable {l : Launch} {G : fp_WG} {M N : fp_Mem} {tp : List Int} {D : pD} {g0 : aGd}
/-- how settling ends -/
def seP (tp : List Int) (D : pD) (M N : fp_Mem) : Prop := seF M N ∧ ((stOk D ∧ N 2 3 = 0 ∧ seR D M N D.1.2.1 0) ∨ (¬ stOk D ∧ flt N (tp.length : Int)))
theorem se_vis {A : fp_Mem} {o : Option Value} {x : Int} (hm : rdT M tp) (hd : rdD M D) (hD : dOk D) (hA : seI tp D M A D.1.2.1 0) : fp_S l G 2 kX6_settle 59 [some (rV G 2), some (iV x), o] [] A (qV fun N => seP tp D M N) := by
  obtain ⟨hf, hc⟩ := hA
  have hg2 := hD.1.2.1
  have hvA : vsIs A 12 D.2.2.2.2.2 := hd.2.2.1.kept (fun a q1 q2 => hf.1 a (by omega) (by omega) (by omega))
  have h30 : A 3 0 = D.1.1 ∧ A 3 1 = D.1.2.1 := by rw [hf.1 3 (by decide) (by decide) (by decide)]; exact ⟨hd.1.1, hd.1.2.1⟩
  have h26 : A 2 6 = (tp.length : Int) := by rw [hf.2 6 (by decide) (by decide)]; exact hm.2.1
  have hst : svI tp D (A 2 3 = 0 ∧ seR D M A D.1.2.1 0) A A 0 := by
    refine ⟨fun _ _ => rfl, fun _ _ _ => rfl, ?_⟩
    rcases hc with hc | ⟨⟨y, t, hy, ht, hn⟩, hc⟩
    · exact Or.inl ⟨hc, hc.1, fun j j0 j1 => absurd j1 (by omega)⟩
    · exact Or.inr ⟨fun s => hn (s.1 y t hy.1 hy.2 ht), hc⟩
  refine S.iconst (pc' := 60) dX6_settle_59 rfl ?_
  refine S.istore_n (pc' := 61) (LL' := [_, _, _]) dX6_settle_60 rfl (by decide) rfl rfl rfl ?_
  refine (sv_loop (P := (A 2 3 = 0 ∧ seR D M A D.1.2.1 0)) h30 h26 hvA hD _ 0 A _ rfl (by omega) (by omega) hst).wV (fun O hO => ?_)
  obtain ⟨b1, b2, b3⟩ := hO
  have hfO : seF M O := ⟨fun a q2 q8 q9 => by rw [b1 a q2]; exact hf.1 a q2 q8 q9, fun j q3 q4 => by rw [b2 j q3 q4]; exact hf.2 j q3 q4⟩
  refine ⟨hfO, ?_⟩
  rcases b3 with ⟨⟨k0, k1⟩, k2, k3⟩ | b3
  · refine Or.inl ⟨⟨fun x t x0 x1 ht => ?_, fun v hv => ?_⟩, k2, ?_⟩
    · by_cases e : x < D.1.2.1
      · exact (k1.1 x t x0 e ht).1
      · rw [(hD.2.2.1 x x0 x1).2.2.1 (by omega)] at ht
        exact (List.not_mem_nil ht).elim
    · obtain ⟨j, hj, rfl⟩ := List.getElem_of_mem hv
      have := k3 (j : Int) (by omega) (by omega)
      rw [Int.toNat_natCast, List.getD_eq_getElem?_getD, List.getElem?_eq_getElem hj] at this
      exact this
    · unfold seR at *
      rw [b1 8 (by decide), b1 9 (by decide)]
      exact k1
  · exact Or.inr b3
theorem rk_X6_settle (hm : rdT M tp) (h3 : M 2 3 = 0) (hd : rdD M D) (hD : dOk D) : fp_Ok l G 2 kX6_settle [rV G 2] M (qV fun N => seP tp D M N) := by
  refine fp_Ok.of (r := 2) rfl (Nat.le_of_ble_eq_true rfl) rfl ?_
  have hg2 := hD.1.2.1
  refine S.iconst (pc' := 1) dX6_settle_0 rfl ?_
  refine S.istore_n (pc' := 2) (LL' := [_, _, _]) dX6_settle_1 rfl (by decide) rfl rfl rfl ?_
  refine se_out hm hd hD (fun A o hA => ?_) _ 0 _ _ rfl (by omega) (by omega) ⟨seF.refl M, Or.inl ⟨h3, fun y t y0 y1 => absurd y1 (by omega), fun t ht => by simp at ht, fun t t0 t1 _ _ => ⟨rfl, hd.2.1.2.2.1 t t0 t1⟩⟩⟩
  exact se_vis hm hd hD hA
/-- the rows of a text that was taken -/
def pPg (D : pD) : aPg := (fun t => if t ∈ D.2.2.1 0 then 10 else if t ∈ D.2.2.1 1 then 11 else if t ∈ D.2.2.1 2 then 12 else D.2.1 t, D.2.1, D.2.2.1)
def rtP (tp : List Int) (M N : fp_Mem) (z : Int) : Prop := fR M N ∧ rdI N ∧ ((∃ h, pText tp (tp.length + 1) 0 0 pD0 = .inl h ∧ flt N h) ∨ ∃ q, pText tp (tp.length + 1) 0 0 pD0 = .inr q ∧ z = q.1 ∧ dOk q.2 ∧ ((stOk q.2 ∧ N 2 3 = 0 ∧ gdIs N 3 q.2.1 ∧ clIs N 7 q.2.1 (pPg q.2) ∧ vsIs N 12 q.2.2.2.2.2.2) ∨ (¬ stOk q.2 ∧ flt N (tp.length : Int))))
theorem se_gd (hd : rdG M g0) (hi : rdI M) (hg : gOk g0) : gdIs M 3 g0 := by
  obtain ⟨d1, d2, d3, d4, d5, d6⟩ := hd
  obtain ⟨i1, i2, i3, i4, i5, i6⟩ := hi
  refine ⟨d1, d2, d3, d4, i2, d5, i4, d6, ⟨by rw [d1]; exact hg.1, by rw [d2]; exact hg.2.1, by rw [d3]; exact hg.2.2.1, fun i a b => ?_, fun i a b => i3 i a b, fun i a b => i5 i a b⟩⟩
  have := i1 i a b
  exact ⟨this.1, by show M 4 i.toNat ≤ 100; omega⟩
end TX2
