/-! NAMES held against words; the kind of a LINE: the class -/
def wdB (tp : List Int) (h e : Int) (w : List Int) : Bool := decide (e - h = (w.length : Int)) && (List.range w.length).all fun i => decide (aBy tp (h + (i : Int)) = w.getD i 0)
theorem wdB_iff {tp : List Int} {h e : Int} {w : List Int} : wdB tp h e w = true ↔ wdIs tp h e w := by
  unfold wdB wdIs
  simp only [Bool.and_eq_true, decide_eq_true_eq, List.all_eq_true, List.mem_range]
  constructor
  · rintro ⟨h1, h2⟩
    refine ⟨h1, fun i i0 i1 => ?_⟩
    have := h2 i.toNat (by omega)
    rwa [Int.toNat_of_nonneg i0] at this
  · rintro ⟨h1, h2⟩
    refine ⟨h1, fun i hi => ?_⟩
    have := h2 (i : Int) (by omega) (by omega)
    rwa [Int.toNat_natCast] at this
def nmW (tp : List Int) (h : Int) (i : Nat) : Bool := decide (tkK tp h = 1) && wdB tp h (tkE tp h) (fp_wd i)
def aKd (tp : List Int) (h : Int) : Int := if nmW tp h 5 = true then 0 else if nmW tp h 6 = true then 1 else if nmW tp h 7 = true then 2 else -4
theorem aKd_in (tp : List Int) (h : Int) : aKd tp h = -4 ∨ (0 ≤ aKd tp h ∧ aKd tp h ≤ 2) := by
  unfold aKd
  repeat' split
  all_goals omega
section KND
variable {l : Launch} {G : fp_WG} {M : fp_Mem} {tp : List Int} {h : Int}
/-- the reader's TOKEN is the one at h -/
def tkAt (tp : List Int) (M : fp_Mem) (h : Int) : Prop := M 2 8 = tkK tp h ∧ M 2 9 = h ∧ M 2 7 = tkE tp h ∧ 0 ≤ h ∧ h ≤ (tp.length : Int)
theorem rk_word {a i : Nat} (hi : i < 8) (ht : tpOk tp) (hm : rdT M tp) (hk : tkAt tp M h) (hs : fp_St G a (fp_wd i)) : fp_Ok l G 4 kX6_isWord [rV G 2, .ref a] M (qE (if nmW tp h i = true then 1 else 0) M) := by
  obtain ⟨k1, k2, k3, k4, k5⟩ := hk
  have hE := tkE_le k5
  have hK := tkK_in tp h
  refine (rk_X6_isWord ht hm (by rw [k1]; unfold fp_rng; omega) k2 k3 k4 hE.1 hE.2.1 hs (fp_wd_ok i hi)).weaken (fun r X q => ?_)
  obtain ⟨z, e, q, rfl⟩ := q
  refine ⟨z, e, ?_, rfl⟩
  have hn : nmW tp h i = true ↔ (M 2 8 = 1 ∧ wdIs tp h (tkE tp h) (fp_wd i)) := by
    unfold nmW
    rw [Bool.and_eq_true, decide_eq_true_eq, wdB_iff, k1]
  rcases q with q | q
  · rw [if_pos (hn.mpr q.2)]; exact q.1
  · rw [if_neg (fun x => q.2 (hn.mp x))]; exact q.1
theorem rk_X6_kindRead (ht : tpOk tp) (hm : rdT M tp) (hk : tkAt tp M h) : fp_Ok l G 5 kX6_kindRead [rV G 2] M (qE (aKd tp h) M) := by
  refine fp_Ok.of (r := 0) rfl (Nat.le_of_ble_eq_true rfl) rfl ?_
  unfold aKd
  refine S.aload_n (pc' := 1) dX6_kindRead_0 rfl rfl rfl ?_
  refine S.ldcW (i := 5) (pc' := 3) dX6_kindRead_1 rfl (by decide) rfl rfl (fun a ha => ?_)
  refine S.callVe (pc' := 6) dX6_kindRead_3 rfl cX6_104 (rk_word (by decide) ht hm hk ha) rfl L_2 (by decide) rfl (Nat.le_of_ble_eq_true rfl) ?_
  refine S.if_eq (tgt := 11) (pc' := 9) dX6_kindRead_6 (by decide) rfl (by split <;> (unfold fp_rng; omega)) (fun q1 => ?_) (fun q1 => ?_)
  · have n1 : ¬ nmW tp h 5 = true := fun x => by rw [if_pos x] at q1; exact absurd q1 (by decide)
    rw [if_neg n1]
    refine S.aload_n (pc' := 12) dX6_kindRead_11 rfl rfl rfl ?_
    refine S.ldcW (i := 6) (pc' := 14) dX6_kindRead_12 rfl (by decide) rfl rfl (fun a2 ha2 => ?_)
    refine S.callVe (pc' := 17) dX6_kindRead_14 rfl cX6_104 (rk_word (by decide) ht hm hk ha2) rfl L_2 (by decide) rfl (Nat.le_of_ble_eq_true rfl) ?_
    refine S.if_eq (tgt := 22) (pc' := 20) dX6_kindRead_17 (by decide) rfl (by split <;> (unfold fp_rng; omega)) (fun q2 => ?_) (fun q2 => ?_)
    · have n2 : ¬ nmW tp h 6 = true := fun x => by rw [if_pos x] at q2; exact absurd q2 (by decide)
      rw [if_neg n2]
      refine S.aload_n (pc' := 23) dX6_kindRead_22 rfl rfl rfl ?_
      refine S.ldcW (i := 7) (pc' := 25) dX6_kindRead_23 rfl (by decide) rfl rfl (fun a3 ha3 => ?_)
      refine S.callVe (pc' := 28) dX6_kindRead_25 rfl cX6_104 (rk_word (by decide) ht hm hk ha3) rfl L_2 (by decide) rfl (Nat.le_of_ble_eq_true rfl) ?_
      refine S.if_eq (tgt := 35) (pc' := 31) dX6_kindRead_28 (by decide) rfl (by split <;> (unfold fp_rng; omega)) (fun q3 => ?_) (fun q3 => ?_)
      · have n3 : ¬ nmW tp h 7 = true := fun x => by rw [if_pos x] at q3; exact absurd q3 (by decide)
        rw [if_neg n3]
        refine S.bipush (pc' := 37) dX6_kindRead_35 rfl rfl ?_
        exact S.iret dX6_kindRead_37 rfl ⟨rfl, rfl⟩
      · have n3 : nmW tp h 7 = true := by
          by_cases x : nmW tp h 7 = true
          · exact x
          · rw [if_neg x] at q3; exact absurd rfl q3
        rw [if_pos n3]
        refine S.iconst (pc' := 32) dX6_kindRead_31 rfl ?_
        refine S.goto (pc' := 37) dX6_kindRead_32 (by decide) ?_
        exact S.iret dX6_kindRead_37 rfl ⟨rfl, rfl⟩
    · have n2 : nmW tp h 6 = true := by
        by_cases x : nmW tp h 6 = true
        · exact x
        · rw [if_neg x] at q2; exact absurd rfl q2
      rw [if_pos n2]
      refine S.iconst (pc' := 21) dX6_kindRead_20 rfl ?_
      exact S.iret dX6_kindRead_21 rfl ⟨rfl, rfl⟩
  · have n1 : nmW tp h 5 = true := by
      by_cases x : nmW tp h 5 = true
      · exact x
      · rw [if_neg x] at q1; exact absurd rfl q1
    rw [if_pos n1]
    refine S.iconst (pc' := 10) dX6_kindRead_9 rfl ?_
    exact S.iret dX6_kindRead_10 rfl ⟨rfl, rfl⟩
end KND
