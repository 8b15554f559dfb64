/-! THE STATE STAYS ONE THAT CAN BE -/
section OKA
variable {g : aGd} {pg : aPg} {vs : List aVt} {nt : List Int} {im : aIm} {sh : aSh}
theorem OK.put {p t x : Int} (h : OK g pg vs nt im sh) : OK g (A_put g pg p t x).2 vs nt im sh := ⟨h.1, A_put_ok h.1 h.2.1, h.2.2⟩
theorem OK.draw {p x : Int} (h : OK g pg vs nt im sh) : OK g (A_draw g pg p x).2 vs nt im sh := ⟨h.1, A_draw_ok h.1 h.2.1, h.2.2⟩
theorem OK.slip {t x i : Int} (h : OK g pg vs nt im sh) : OK g (A_slip g pg t x i).2 vs nt im sh := ⟨h.1, A_slip_ok h.1 h.2.1, h.2.2⟩
theorem OK.come {d p x t : Int} (h : OK g pg vs nt im sh) : OK g pg (A_come g vs d p x t).2 nt im sh := ⟨h.1, h.2.1, A_come_ok h.2.2.1, h.2.2.2⟩
theorem OK.read {tn k lane f n : Int} (h : OK g pg vs nt im sh) : OK g pg (A_read g vs sh tn k lane f n).2.1 nt im sh := ⟨h.1, h.2.1, A_read_ok h.2.2.1, h.2.2.2⟩
theorem OK.cut {n : Int} (h : OK g pg vs nt im sh) : OK g pg (A_cut vs n).2 nt im sh := by
  refine ⟨h.1, h.2.1, ?_, h.2.2.2⟩
  unfold A_cut
  split
  · exact fun v hv => h.2.2.1 v (List.mem_of_mem_take hv)
  · exact h.2.2.1
theorem OK.go {n : Int} (h : OK g pg vs nt im sh) : OK g (A_go g pg vs n).2.1 (A_go g pg vs n).2.2 nt im sh := by
  unfold A_go
  split
  · exact ⟨h.1, aRun_ok h.1 h.2.1 h.2.2.1 _, fun v hv => h.2.2.1 v (List.mem_of_mem_drop hv), h.2.2.2⟩
  · exact h
theorem OK.noted {t : Int} (h : OK g pg vs nt im sh) : OK g pg vs (A_noted g nt t).2 im sh := by
  refine ⟨h.1, h.2.1, h.2.2.1, ?_, h.2.2.2.2⟩
  have hn := h.2.2.2.1
  unfold A_noted
  split
  · exact hn
  · rename_i ht
    split
    · exact hn
    · rename_i hm
      split
      · exact hn
      · refine ⟨fun q hq => ?_, ?_⟩
        · rcases List.mem_append.mp hq with q1 | q1
          · exact hn.1 q q1
          · rw [List.mem_singleton] at q1; subst q1; omega
        · rw [List.nodup_append]
          refine ⟨hn.2, by simp, fun a ha b hb => ?_⟩
          rw [List.mem_singleton] at hb
          subst hb
          exact fun e => hm (e ▸ ha)
theorem OK.forget (h : OK g pg vs nt im sh) : OK g pg vs [] im sh := ⟨h.1, h.2.1, h.2.2.1, ⟨fun _ q => (List.not_mem_nil q).elim, List.nodup_nil⟩, h.2.2.2.2⟩
theorem OK.keep {k : Int} (h : OK g pg vs nt im sh) : OK g pg vs nt (A_keep im k (pg, vs, nt)).2 sh := ⟨h.1, h.2.1, h.2.2.1, h.2.2.2.1, A_keep_ok h.2.2.2.2.1 ⟨h.2.1, h.2.2.1, h.2.2.2.1⟩, h.2.2.2.2.2⟩
theorem OK.back {k : Int} (h : OK g pg vs nt im sh) : OK g (A_back im k (pg, vs, nt)).2.1 (A_back im k (pg, vs, nt)).2.2.1 (A_back im k (pg, vs, nt)).2.2.2 im sh := by
  have q := A_back_ok (k := k) (x := (pg, vs, nt)) h.2.2.2.2.1 ⟨h.2.1, h.2.2.1, h.2.2.2.1⟩
  exact ⟨h.1, q.1, q.2.1, q.2.2, h.2.2.2.2⟩
theorem OK.sheet {k lane n : Int} (h : OK g pg vs nt im sh) : OK g pg vs nt im (A_sheet sh k lane n).2 := ⟨h.1, h.2.1, h.2.2.1, h.2.2.2.1, h.2.2.2.2.1, A_sheet_ok h.2.2.2.2.2⟩
theorem OK.lay {k i v : Int} (h : OK g pg vs nt im sh) (hv : fp_rng v) : OK g pg vs nt im (A_lay sh k i v).2 := ⟨h.1, h.2.1, h.2.2.1, h.2.2.2.1, h.2.2.2.2.1, A_lay_ok h.2.2.2.2.2 hv⟩
theorem OK.chance {v : Int} (h : OK g pg vs nt im sh) : OK (A_chance g v).2 pg vs nt im sh := by
  unfold A_chance
  split
  · rename_i hv
    obtain ⟨h1, h2, h3, h4, h5, h6⟩ := h
    exact ⟨⟨h1.1, h1.2.1, hv, h1.2.2.2⟩, h2, h3, h4, h5, h6⟩
  · exact h
end OKA
