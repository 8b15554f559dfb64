/-! BY PROGRAM (tools/mkctor.py): what each cell holds when both objects are made; the rows of the construction -/
def fp_iniL : List (List Int) := [[2, 0, 3, 19, 23, 28, 33, 35, 122, 134, 137, 142, 143], [], [4, 8, 13, 0, 0, 18], [0, 0, 10, 5, 6, 7], [], [], [], [9, 10, 11, 12], [-4, -4, -4, -4, -4, -4, -4, -4, -4, -4], [-4, -4, -4, -4, -4, -4, -4, -4, -4, -4], [], [], [0, 14, 15, 16, 17], [], [], [], [], [], [0, 0, 10, 20, 21, 22], [], [], [], [24, 25, 26, 27], [-4, -4, -4, -4, -4, -4, -4, -4, -4, -4], [-4, -4, -4, -4, -4, -4, -4, -4, -4, -4], [], [], [0, 29, 30, 31, 32], [], [], [], [], [0, 34], [], [36, 37, 38, 0, 39, 40, 41], [42, 47, 52, 57, 62, 67, 72, 77, 82, 87, 92, 97, 102], [107, 112, 117], [], [], [], [], [43, 44, 45, 46], [-4, -4, -4, -4, -4, -4, -4, -4, -4, -4], [-4, -4, -4, -4, -4, -4, -4, -4, -4, -4], [], [], [48, 49, 50, 51], [-4, -4, -4, -4, -4, -4, -4, -4, -4, -4], [-4, -4, -4, -4, -4, -4, -4, -4, -4, -4], [], [], [53, 54, 55, 56], [-4, -4, -4, -4, -4, -4, -4, -4, -4, -4], [-4, -4, -4, -4, -4, -4, -4, -4, -4, -4], [], [], [58, 59, 60, 61], [-4, -4, -4, -4, -4, -4, -4, -4, -4, -4], [-4, -4, -4, -4, -4, -4, -4, -4, -4, -4], [], [], [63, 64, 65, 66], [-4, -4, -4, -4, -4, -4, -4, -4, -4, -4], [-4, -4, -4, -4, -4, -4, -4, -4, -4, -4], [], [], [68, 69, 70, 71], [-4, -4, -4, -4, -4, -4, -4, -4, -4, -4], [-4, -4, -4, -4, -4, -4, -4, -4, -4, -4], [], [], [73, 74, 75, 76], [-4, -4, -4, -4, -4, -4, -4, -4, -4, -4], [-4, -4, -4, -4, -4, -4, -4, -4, -4, -4], [], [], [78, 79, 80, 81], [-4, -4, -4, -4, -4, -4, -4, -4, -4, -4], [-4, -4, -4, -4, -4, -4, -4, -4, -4, -4], [], [], [83, 84, 85, 86], [-4, -4, -4, -4, -4, -4, -4, -4, -4, -4], [-4, -4, -4, -4, -4, -4, -4, -4, -4, -4], [], [], [88, 89, 90, 91], [-4, -4, -4, -4, -4, -4, -4, -4, -4, -4], [-4, -4, -4, -4, -4, -4, -4, -4, -4, -4], [], [], [93, 94, 95, 96], [-4, -4, -4, -4, -4, -4, -4, -4, -4, -4], [-4, -4, -4, -4, -4, -4, -4, -4, -4, -4], [], [], [98, 99, 100, 101], [-4, -4, -4, -4, -4, -4, -4, -4, -4, -4], [-4, -4, -4, -4, -4, -4, -4, -4, -4, -4], [], [], [103, 104, 105, 106], [-4, -4, -4, -4, -4, -4, -4, -4, -4, -4], [-4, -4, -4, -4, -4, -4, -4, -4, -4, -4], [], [], [108, 109, 110, 111], [-4, -4, -4, -4, -4, -4, -4, -4, -4, -4], [-4, -4, -4, -4, -4, -4, -4, -4, -4, -4], [], [], [113, 114, 115, 116], [-4, -4, -4, -4, -4, -4, -4, -4, -4, -4], [-4, -4, -4, -4, -4, -4, -4, -4, -4, -4], [], [], [118, 119, 120, 121], [-4, -4, -4, -4, -4, -4, -4, -4, -4, -4], [-4, -4, -4, -4, -4, -4, -4, -4, -4, -4], [], [], [0, 0, 123, 124, 125, 133], [], [], [126, 127, 128, 129, 130, 131, 132], [], [], [], [], [], [], [], [], [0, 0, 135, 0, 136], [], [], [138, 139, 140, 141], [], [], [], [], [144, 157], [170, 172, 174, 176], [0, 145, 150, 155], [146, 147, 148, 149], [-4, -4, -4, -4, -4, -4, -4, -4, -4, -4], [-4, -4, -4, -4, -4, -4, -4, -4, -4, -4], [], [], [0, 151, 152, 153, 154], [], [], [], [], [0, 156], [], [0, 158, 163, 168], [159, 160, 161, 162], [-4, -4, -4, -4, -4, -4, -4, -4, -4, -4], [-4, -4, -4, -4, -4, -4, -4, -4, -4, -4], [], [], [0, 164, 165, 166, 167], [], [], [], [], [0, 169], [], [0, -4, 171], [], [0, -4, 173], [], [0, -4, 175], [], [0, -4, 177], [], [179, 180, 181, 182, 0, 0, 10, 183, 184, 185, 186, 0, 0, 0, 0, 0, 0, 0, 187, 0, 0, 0, 0, 0, 0, 0, 0, 188, 189, 190, 191, 192, 193, 0, 194, 195, 196, 197, 198, 199, 200, 201, 202, 203], [], [], [], [], [], [], [], [], [], [0, 5, 9, 12, 16, 22, 28, 34, 42], [116, 104, 105, 110, 103, 108, 105, 110, 101, 112, 117, 116, 100, 114, 97, 119, 99, 104, 97, 110, 99, 101, 101, 108, 100, 101, 115, 116, 108, 97, 116, 101, 115, 116, 108, 105, 103, 104, 116, 101, 115, 116], [], [], [], [], [], [], [], [], [], [], [], [-4, -4, -4, -4], [], []]
def fp_ini (k j : Nat) : Int := (fp_iniL.getD k []).getD j 0
theorem fp_ini_of {k j : Nat} {z : Int} {R : List Int} (h : fp_iniL.getD k [] = R) (e : R.getD j 0 = z) : fp_ini k j = z := by unfold fp_ini; rw [h]; exact e
/-- the memory in which just these slots are written -/
def fp_w (L : List (Nat × Nat)) : fp_Mem := fun k j => if (k, j) ∈ L then fp_ini k j else 0
def fp_lo (L : List (Nat × Nat)) (n : Nat) : Prop := ∀ q ∈ L, q.1 < n
theorem fp_lo.mono {L : List (Nat × Nat)} {n n' : Nat} (h : fp_lo L n) (e : n ≤ n') : fp_lo L n' := fun q hq => Nat.lt_of_lt_of_le (h q hq) e
theorem fp_lo.cons {L : List (Nat × Nat)} {n k j : Nat} (h : fp_lo L n) (e : k < n) : fp_lo ((k, j) :: L) n := by
  intro q hq
  rcases List.mem_cons.mp hq with rfl | hq
  · exact e
  · exact h q hq
theorem fp_w_new {L : List (Nat × Nat)} {n k : Nat} (h : fp_lo L n) (hk : n ≤ k) : fp_w L k = fun _ => 0 := by
  funext j
  unfold fp_w
  rw [if_neg (fun q => by have : k < n := h _ q; omega)]
theorem fp_w_up {L : List (Nat × Nat)} {k j : Nat} {z : Int} (h : fp_ini k j = z) : fp_up (fp_w L) k j z = fp_w ((k, j) :: L) := by
  funext a b
  unfold fp_up fp_upM fp_upf fp_w
  by_cases ha : a = k
  · subst ha
    by_cases hb : b = j
    · subst hb
      simp [h]
    · simp [hb]
  · simp [ha]
theorem fp_w_mem {L : List (Nat × Nat)} {k j : Nat} {z : Int} (h : fp_ini k j = z) (hm : (k, j) ∈ L) : fp_w L k j = z := by
  unfold fp_w
  rw [if_pos hm]; exact h
def fp_SW (l : Launch) (G : fp_WG) (d n cs ss mc ms nf : Nat) (Y : fp_MR) (pc : Nat) (LL : List (Option Value)) (st : List Value) (L : List (Nat × Nat)) (Q : fp_Q) : Prop := fp_lo L n → fp_SP l G d n cs ss mc ms nf Y pc LL st (fp_w L) Q
def fp_OkW (l : Launch) (G : fp_WG) (d n mc ms : Nat) (Y : fp_MR) (a : List Value) (L L' : List (Nat × Nat)) : Prop := fp_lo L n → fp_Okg l G d n mc ms Y a (fp_w L) (qV fun M' => M' = fp_w L' ∧ fp_lo L' (n + mc))
theorem fp_OkW.of {l : Launch} {G : fp_WG} {d n mc ms nf r : Nat} {Y : fp_MR} {a : List Value} {L L' : List (Nat × Nat)} {LL : List (Option Value)} (hpl : plainName Y.1.cls = true) (hle : (lg_sl a).length ≤ Y.2.2.1) (hLL : fp_ent a ++ List.replicate r none = LL) (hnf : n + mc = nf) (h : fp_SW l G d n 0 0 mc ms nf Y 0 LL [] L (qV fun M' => M' = fp_w L' ∧ fp_lo L' nf)) : fp_OkW l G d n mc ms Y a L L' := by
  subst hnf
  exact fun hlo => fp_Okg.of hpl hle hLL (h hlo)
section SWR
variable {l : Launch} {G : fp_WG} {d n cs ss mc ms nf n' cs' ss' : Nat} {Y : fp_MR} {pc pc' : Nat} {LL LL' : List (Option Value)} {st : List Value} {L : List (Nat × Nat)} {Q : fp_Q}
theorem SW.s {pc2 : Nat} {LL2 : List (Option Value)} {st2 : List Value} (f : fp_SP l G d n cs ss mc ms nf Y pc2 LL2 st2 (fp_w L) Q → fp_SP l G d n cs ss mc ms nf Y pc LL st (fp_w L) Q) (kk : fp_SW l G d n cs ss mc ms nf Y pc2 LL2 st2 L Q) : fp_SW l G d n cs ss mc ms nf Y pc LL st L Q := fun h => f (kk h)
theorem SW.ret (hd : decode Y.2.1 pc = .ok (.return_, 1)) (hr : Y.2.2.2 = none) : fp_SW l G d nf mc ms mc ms nf Y pc LL [] L (qV fun M' => M' = fp_w L ∧ fp_lo L nf) := fun h => SP.vret hd hr ⟨rfl, rfl, h⟩
theorem SW.newO {idx c N : Nat} (hd : decode Y.2.1 pc = .ok (.new idx, 3)) (hp : pc + 3 = pc') (hN : fp_New Y.1.cls idx c N) (hk : fp_lay n = (0, c)) (en : n + 1 = n') (ec : cs + 1 = cs') (es : ss + N = ss') (hcr : cs' ≤ mc) (hsr : ss' ≤ ms) (kk : fp_SW l G d n' cs' ss' mc ms nf Y pc' LL (rV G n :: st) L Q) : fp_SW l G d n cs ss mc ms nf Y pc LL st L Q := by
  subst en; subst ec; subst es
  exact fun h => SP.newO hd hp hN hk (fp_w_new h (Nat.le_refl _)) hcr hsr (kk (h.mono (Nat.le_succ _)))
theorem SW.newI {z : Int} {N : Nat} (hd : decode Y.2.1 pc = .ok (.newarray .int, 2)) (hp : pc + 2 = pc') (hk : fp_lay n = (1, N)) (hzN : z = N) (en : n + 1 = n') (ec : cs + 1 = cs') (es : ss + N = ss') (hcr : cs' ≤ mc) (hsr : ss' ≤ ms) (kk : fp_SW l G d n' cs' ss' mc ms nf Y pc' LL (rV G n :: st) L Q) : fp_SW l G d n cs ss mc ms nf Y pc LL (iV z :: st) L Q := by
  subst en; subst ec; subst es
  exact fun h => SP.newI hd hp hk (fp_w_new h (Nat.le_refl _)) hzN hcr hsr (kk (h.mono (Nat.le_succ _)))
theorem SW.newB {z : Int} {N : Nat} (hd : decode Y.2.1 pc = .ok (.newarray .byte, 2)) (hp : pc + 2 = pc') (hk : fp_lay n = (2, N)) (hzN : z = N) (en : n + 1 = n') (ec : cs + 1 = cs') (es : ss + N = ss') (hcr : cs' ≤ mc) (hsr : ss' ≤ ms) (kk : fp_SW l G d n' cs' ss' mc ms nf Y pc' LL (rV G n :: st) L Q) : fp_SW l G d n cs ss mc ms nf Y pc LL (iV z :: st) L Q := by
  subst en; subst ec; subst es
  exact fun h => SP.newB hd hp hk (fp_w_new h (Nat.le_refl _)) hzN hcr hsr (kk (h.mono (Nat.le_succ _)))
theorem SW.newZ {z : Int} {N : Nat} (hd : decode Y.2.1 pc = .ok (.newarray .boolean, 2)) (hp : pc + 2 = pc') (hk : fp_lay n = (3, N)) (hzN : z = N) (en : n + 1 = n') (ec : cs + 1 = cs') (es : ss + N = ss') (hcr : cs' ≤ mc) (hsr : ss' ≤ ms) (kk : fp_SW l G d n' cs' ss' mc ms nf Y pc' LL (rV G n :: st) L Q) : fp_SW l G d n cs ss mc ms nf Y pc LL (iV z :: st) L Q := by
  subst en; subst ec; subst es
  exact fun h => SP.newZ hd hp hk (fp_w_new h (Nat.le_refl _)) hzN hcr hsr (kk (h.mono (Nat.le_succ _)))
theorem SW.newJ {z : Int} {N : Nat} (hd : decode Y.2.1 pc = .ok (.newarray .long, 2)) (hp : pc + 2 = pc') (hk : fp_lay n = (4, N)) (hzN : z = N) (en : n + 1 = n') (ec : cs + 1 = cs') (es : ss + N = ss') (hcr : cs' ≤ mc) (hsr : ss' ≤ ms) (kk : fp_SW l G d n' cs' ss' mc ms nf Y pc' LL (rV G n :: st) L Q) : fp_SW l G d n cs ss mc ms nf Y pc LL (iV z :: st) L Q := by
  subst en; subst ec; subst es
  exact fun h => SP.newJ hd hp hk (fp_w_new h (Nat.le_refl _)) hzN hcr hsr (kk (h.mono (Nat.le_succ _)))
theorem SW.anewP {z : Int} {idx N : Nat} (hd : decode Y.2.1 pc = .ok (.anewarray idx, 3)) (hp : pc + 3 = pc') (hcl : Cond.classLink Y.1.cls idx RX5 ∈ lw_tbl) (hk : fp_lay n = (5, N)) (hzN : z = N) (en : n + 1 = n') (ec : cs + 1 = cs') (es : ss + N = ss') (hcr : cs' ≤ mc) (hsr : ss' ≤ ms) (kk : fp_SW l G d n' cs' ss' mc ms nf Y pc' LL (rV G n :: st) L Q) : fp_SW l G d n cs ss mc ms nf Y pc LL (iV z :: st) L Q := by
  subst en; subst ec; subst es
  exact fun h => SP.anewP hd hp hcl hk (fp_w_new h (Nat.le_refl _)) hzN hcr hsr (kk (h.mono (Nat.le_succ _)))
theorem SW.anewI {z : Int} {idx N : Nat} (hd : decode Y.2.1 pc = .ok (.anewarray idx, 3)) (hp : pc + 3 = pc') (hcl : Cond.classLink Y.1.cls idx RX2 ∈ lw_tbl) (hk : fp_lay n = (6, N)) (hzN : z = N) (en : n + 1 = n') (ec : cs + 1 = cs') (es : ss + N = ss') (hcr : cs' ≤ mc) (hsr : ss' ≤ ms) (kk : fp_SW l G d n' cs' ss' mc ms nf Y pc' LL (rV G n :: st) L Q) : fp_SW l G d n cs ss mc ms nf Y pc LL (iV z :: st) L Q := by
  subst en; subst ec; subst es
  exact fun h => SP.anewI hd hp hcl hk (fp_w_new h (Nat.le_refl _)) hzN hcr hsr (kk (h.mono (Nat.le_succ _)))
theorem SW.anewS {z : Int} {idx N : Nat} (hd : decode Y.2.1 pc = .ok (.anewarray idx, 3)) (hp : pc + 3 = pc') (hcl : Cond.classLink Y.1.cls idx RX9 ∈ lw_tbl) (hk : fp_lay n = (7, N)) (hzN : z = N) (en : n + 1 = n') (ec : cs + 1 = cs') (es : ss + N = ss') (hcr : cs' ≤ mc) (hsr : ss' ≤ ms) (kk : fp_SW l G d n' cs' ss' mc ms nf Y pc' LL (rV G n :: st) L Q) : fp_SW l G d n cs ss mc ms nf Y pc LL (iV z :: st) L Q := by
  subst en; subst ec; subst es
  exact fun h => SP.anewS hd hp hcl hk (fp_w_new h (Nat.le_refl _)) hzN hcr hsr (kk (h.mono (Nat.le_succ _)))
theorem SW.putR {idx c j k t : Nat} {ty : FieldType} {fin : Bool} (hd : decode Y.2.1 pc = .ok (.putfield idx, 3)) (hp : pc + 3 = pc') (hf : fp_F Y.1.cls idx c j 2 ty fin) (hk : fp_lay k = (0, c)) (hn : k < n) (hin : Y.1.name = "<init>") (hown : ∀ q, vwCl[c]? = some q → (q.2.1 j).1 = Y.1.cls) (hty : (∃ x, ty = .object x) ∨ ∃ x, ty = .array x) (hv : fp_ini k j = (t : Int) + 1) (kk : fp_SW l G d n cs ss mc ms nf Y pc' LL st ((k, j) :: L) Q) : fp_SW l G d n cs ss mc ms nf Y pc LL (rV G t :: rV G k :: st) L Q := by
  intro h
  obtain ⟨hfl, ht, q, hq, hpf, hfin⟩ := hf
  refine SP.put (z := (t : Int) + 1) (fin := fin) (ty := ty) hd hp hfl hk hn ⟨q, hq, hpf, ?_⟩ ?_ ?_ ?_ ?_
  · cases fin
    · exact Or.inl hfin
    · exact Or.inr ⟨hfin, hin, hown q hq⟩
  · rw [ht]; exact fp_ro_ref
  · rcases hty with ⟨x, rfl⟩ | ⟨x, rfl⟩ <;> rfl
  · rcases hty with ⟨x, rfl⟩ | ⟨x, rfl⟩ <;> rfl
  · rw [fp_w_up hv]; exact kk (h.cons hn)
theorem SW.putI {idx c j k : Nat} {z : Int} {fin : Bool} (hd : decode Y.2.1 pc = .ok (.putfield idx, 3)) (hp : pc + 3 = pc') (hf : fp_F Y.1.cls idx c j 0 .int fin) (hk : fp_lay k = (0, c)) (hn : k < n) (hin : Y.1.name = "<init>") (hown : ∀ q, vwCl[c]? = some q → (q.2.1 j).1 = Y.1.cls) (hv : fp_ini k j = z) (kk : fp_SW l G d n cs ss mc ms nf Y pc' LL st ((k, j) :: L) Q) : fp_SW l G d n cs ss mc ms nf Y pc LL (iV z :: rV G k :: st) L Q := by
  intro h
  obtain ⟨hfl, ht, q, hq, hpf, hfin⟩ := hf
  refine SP.put (z := z) (fin := fin) (ty := .int) hd hp hfl hk hn ⟨q, hq, hpf, ?_⟩ ?_ rfl rfl ?_
  · cases fin
    · exact Or.inl hfin
    · exact Or.inr ⟨hfin, hin, hown q hq⟩
  · rw [ht]; rfl
  · rw [fp_w_up hv]; exact kk (h.cons hn)
theorem SW.getR {idx c j k t : Nat} {ty : FieldType} {fin : Bool} (hd : decode Y.2.1 pc = .ok (.getfield idx, 3)) (hp : pc + 3 = pc') (hf : fp_F Y.1.cls idx c j 2 ty fin) (hk : fp_lay k = (0, c)) (hn : k < n) (hv : fp_ini k j = (t : Int) + 1) (hm : (k, j) ∈ L) (kk : fp_SW l G d n cs ss mc ms nf Y pc' LL (rV G t :: st) L Q) : fp_SW l G d n cs ss mc ms nf Y pc LL (rV G k :: st) L Q := by
  intro h
  obtain ⟨hfl, ht, -⟩ := hf
  refine SP.get hd hp hfl hk hn ?_
  have e : fp_fv (fp_b G) (fp_fty c j) (fp_w L k j) = rV G t := by
    rw [fp_w_mem hv hm, ht]; exact fp_ro_ref
  rw [e]
  exact kk h
theorem SW.iast {k len i : Nat} {z x : Int} (hd : decode Y.2.1 pc = .ok (.iastore, 1)) (hp : pc + 1 = pc') (hk : fp_lay k = (1, len)) (hn : k < n) (hi : z = (i : Int)) (h1 : i < len) (hv : fp_ini k i = x) (kk : fp_SW l G d n cs ss mc ms nf Y pc' LL st ((k, i) :: L) Q) : fp_SW l G d n cs ss mc ms nf Y pc LL (iV x :: iV z :: rV G k :: st) L Q := by
  subst hi
  intro h
  refine SP.iast hd hp hk hn (by omega) (by omega) ?_
  rw [Int.toNat_natCast, fp_w_up hv]
  exact kk (h.cons hn)
theorem SW.aastP {k len i t : Nat} {z : Int} (hd : decode Y.2.1 pc = .ok (.aastore, 1)) (hp : pc + 1 = pc') (hk : fp_lay k = (5, len)) (hn : k < n) (ht : fp_lay t = (0, 5)) (htn : t < n) (hi : z = (i : Int)) (h1 : i < len) (hv : fp_ini k i = (t : Int) + 1) (kk : fp_SW l G d n cs ss mc ms nf Y pc' LL st ((k, i) :: L) Q) : fp_SW l G d n cs ss mc ms nf Y pc LL (rV G t :: iV z :: rV G k :: st) L Q := by
  subst hi
  intro h
  refine SP.aastP hd hp hk hn ht htn h1 ?_
  rw [fp_w_up hv]
  exact kk (h.cons hn)
theorem SW.aastI {k len i t : Nat} {z : Int} (hd : decode Y.2.1 pc = .ok (.aastore, 1)) (hp : pc + 1 = pc') (hk : fp_lay k = (6, len)) (hn : k < n) (ht : fp_lay t = (0, 2)) (htn : t < n) (hi : z = (i : Int)) (h1 : i < len) (hv : fp_ini k i = (t : Int) + 1) (kk : fp_SW l G d n cs ss mc ms nf Y pc' LL st ((k, i) :: L) Q) : fp_SW l G d n cs ss mc ms nf Y pc LL (rV G t :: iV z :: rV G k :: st) L Q := by
  subst hi
  intro h
  refine SP.aastI hd hp hk hn ht htn h1 ?_
  rw [fp_w_up hv]
  exact kk (h.cons hn)
theorem SW.aastS {k len i t : Nat} {z : Int} (hd : decode Y.2.1 pc = .ok (.aastore, 1)) (hp : pc + 1 = pc') (hk : fp_lay k = (7, len)) (hn : k < n) (ht : fp_lay t = (0, 9)) (htn : t < n) (hi : z = (i : Int)) (h1 : i < len) (hv : fp_ini k i = (t : Int) + 1) (kk : fp_SW l G d n cs ss mc ms nf Y pc' LL st ((k, i) :: L) Q) : fp_SW l G d n cs ss mc ms nf Y pc LL (rV G t :: iV z :: rV G k :: st) L Q := by
  subst hi
  intro h
  refine SP.aastS hd hp hk hn ht htn h1 ?_
  rw [fp_w_up hv]
  exact kk (h.cons hn)
theorem SW.newM {idx : Nat} (hd : decode Y.2.1 pc = .ok (.multianewarray idx 2, 4)) (hp : pc + 4 = pc') (hcl : Cond.classLink Y.1.cls idx "[[I" ∈ lw_tbl) (hk : fp_lay n = (8, 7)) (hk1 : ∀ i, i < 7 → fp_lay (n + 1 + i) = (1, 8)) (en : n + 8 = n') (ec : cs + 8 = cs') (es : ss + 63 = ss') (hcr : cs' ≤ mc) (hsr : ss' ≤ ms) (hv : fp_iniL.getD n [] = (List.range 7).map fun i => ((n + 1 + i : Nat) : Int) + 1) (kk : fp_SW l G d n' cs' ss' mc ms nf Y pc' LL (rV G n :: st) ((n, 6) :: (n, 5) :: (n, 4) :: (n, 3) :: (n, 2) :: (n, 1) :: (n, 0) :: L) Q) : fp_SW l G d n cs ss mc ms nf Y pc LL (iV 8 :: iV 7 :: st) L Q := by
  subst en; subst ec; subst es
  intro h
  refine SP.newM hd hp hcl hk hk1 (fun i hi => fp_w_new h (by omega)) hcr hsr ?_
  have e : fp_upM (fp_w L) n (fun j => if j < 7 then ((n + 1 + j : Nat) : Int) + 1 else 0) = fp_w ((n, 6) :: (n, 5) :: (n, 4) :: (n, 3) :: (n, 2) :: (n, 1) :: (n, 0) :: L) := by
    funext a b
    unfold fp_upM
    by_cases ha : a = n
    · subst ha
      rw [if_pos rfl]
      by_cases hb : b < 7
      · rw [if_pos hb, fp_w_mem (z := ((a + 1 + b : Nat) : Int) + 1)]
        · refine fp_ini_of hv ?_
          rw [List.getD_eq_getElem?_getD, List.getElem?_map, List.getElem?_range hb]
          rfl
        · rcases (show b = 0 ∨ b = 1 ∨ b = 2 ∨ b = 3 ∨ b = 4 ∨ b = 5 ∨ b = 6 by omega) with rfl | rfl | rfl | rfl | rfl | rfl | rfl <;> simp
      · rw [if_neg hb]
        unfold fp_w
        rw [if_neg]
        intro hm
        simp only [List.mem_cons, Prod.mk.injEq, true_and] at hm
        rcases hm with h1 | h1 | h1 | h1 | h1 | h1 | h1 | h1
        any_goals omega
        exact absurd (h _ h1) (by simp)
    · rw [if_neg ha]
      unfold fp_w
      simp [ha]
  rw [e]
  exact kk (((((((((h.mono (Nat.le_add_right _ 8)).cons (by omega)).cons (by omega)).cons (by omega)).cons (by omega)).cons (by omega)).cons (by omega)).cons (by omega)))
theorem SW.callI {Z : fp_MR} {idx k d' mc1 ms1 : Nat} {L1 : List (Nat × Nat)} (hd : decode Y.2.1 pc = .ok (.invokespecial idx, 3)) (hp : pc + 3 = pc') (hlk : Cond.methodLink Y.1.cls idx Z.1 ∈ lw_tbl) (hZ : fp_Mok Z 0) (hV : Cond.instanceMethod Z.1 ∈ lw_tbl) (hzn : Z.1.name = "<init>") (hzr : Z.2.2.2 = none) (hdd : d' + 1 ≤ d) (en : n + mc1 = n') (ec : cs + mc1 = cs') (es : ss + ms1 = ss') (hcr : cs' ≤ mc) (hsr : ss' ≤ ms) (hst : (st.map fun v => v.category).sum ≤ 8) (ok : fp_OkW l G d' n mc1 ms1 Z [rV G k] L L1) (kk : fp_SW l G d n' cs' ss' mc ms nf Y pc' LL st L1 Q) : fp_SW l G d n cs ss mc ms nf Y pc LL (rV G k :: st) L Q := by
  subst en; subst ec; subst es
  intro h
  refine SP.callI (As := []) hd hp hlk hZ hV hzn hzr rfl hdd hcr hsr rfl hst (ok h) fun r M' hq => ?_
  obtain ⟨rfl, rfl, hlo⟩ := hq
  exact kk hlo
theorem SW.callIN {Z : fp_MR} {idx k d' mc1 ms1 : Nat} {host : String} {L1 : List (Nat × Nat)} (hd : decode Y.2.1 pc = .ok (.invokespecial idx, 3)) (hp : pc + 3 = pc') (hlk : Cond.methodLinkNest Y.1.cls idx Z.1 host ∈ lw_tbl) (hZ : fp_Mok Z 0) (hV : Cond.instanceMethod Z.1 ∈ lw_tbl) (hzn : Z.1.name = "<init>") (hzr : Z.2.2.2 = none) (hdd : d' + 1 ≤ d) (en : n + mc1 = n') (ec : cs + mc1 = cs') (es : ss + ms1 = ss') (hcr : cs' ≤ mc) (hsr : ss' ≤ ms) (hst : (st.map fun v => v.category).sum ≤ 8) (ok : fp_OkW l G d' n mc1 ms1 Z [rV G k] L L1) (kk : fp_SW l G d n' cs' ss' mc ms nf Y pc' LL st L1 Q) : fp_SW l G d n cs ss mc ms nf Y pc LL (rV G k :: st) L Q := by
  subst en; subst ec; subst es
  intro h
  refine SP.callIN (As := []) hd hp hlk hZ hV hzn hzr rfl hdd hcr hsr rfl hst (ok h) fun r M' hq => ?_
  obtain ⟨rfl, rfl, hlo⟩ := hq
  exact kk hlo
theorem SW.callF {Z : fp_MR} {idx k d' : Nat} {z : Int} {L1 : List (Nat × Nat)} (hd : decode Y.2.1 pc = .ok (.invokestatic idx, 3)) (hp : pc + 3 = pc') (hc : fp_CS Y.1.cls idx Z 2) (hdd : d' + 1 ≤ d) (hcr : cs ≤ mc) (hsr : ss ≤ ms) (hst : (st.map fun v => v.category).sum ≤ 8) (ok : fp_OkW l G d' n 0 0 Z [rV G k, iV z] L L1) (kk : fp_SW l G d n cs ss mc ms nf Y pc' LL st L1 Q) : fp_SW l G d n cs ss mc ms nf Y pc LL (iV z :: rV G k :: st) L Q := by
  obtain ⟨h1, h2, h3⟩ := hc
  intro h
  refine SP.callS (As := [rV G k, iV z]) hd hp h1 h2 h3 rfl hdd hcr hsr rfl hst (ok h) fun r M' hq => ?_
  obtain ⟨rfl, rfl, hlo⟩ := hq
  exact kk hlo
end SWR
theorem nL_7 : fp_New RL 7 11 14 := ⟨_, rfl, rfl, List.mem_of_getElem? (i := 98) (by decide +kernel), List.mem_of_getElem? (i := 99) (by decide +kernel), List.mem_of_getElem? (i := 79) (by decide +kernel)⟩
theorem kL_7 : Cond.classLink RL 7 RX11 ∈ lw_tbl := List.mem_of_getElem? (i := 98) (by decide +kernel)
theorem oX11_1 : Cond.methodLink RX11 1 Lib.objectInit ∈ lw_tbl := List.mem_of_getElem? (i := 103) (by decide +kernel)
theorem nX11_13 : fp_New RX11 13 6 13 := ⟨_, rfl, rfl, List.mem_of_getElem? (i := 106) (by decide +kernel), List.mem_of_getElem? (i := 107) (by decide +kernel), List.mem_of_getElem? (i := 80) (by decide +kernel)⟩
theorem kX11_13 : Cond.classLink RX11 13 RX6 ∈ lw_tbl := List.mem_of_getElem? (i := 106) (by decide +kernel)
theorem oX6_3 : Cond.methodLink RX6 3 Lib.objectInit ∈ lw_tbl := List.mem_of_getElem? (i := 111) (by decide +kernel)
theorem nX6_9 : fp_New RX6 9 1 6 := ⟨_, rfl, rfl, List.mem_of_getElem? (i := 112) (by decide +kernel), List.mem_of_getElem? (i := 113) (by decide +kernel), List.mem_of_getElem? (i := 81) (by decide +kernel)⟩
theorem kX6_9 : Cond.classLink RX6 9 RX1 ∈ lw_tbl := List.mem_of_getElem? (i := 112) (by decide +kernel)
theorem oX1_3 : Cond.methodLink RX1 3 Lib.objectInit ∈ lw_tbl := List.mem_of_getElem? (i := 117) (by decide +kernel)
theorem nX6_18 : fp_New RX6 18 5 4 := ⟨_, rfl, rfl, List.mem_of_getElem? (i := 156) (by decide +kernel), List.mem_of_getElem? (i := 157) (by decide +kernel), List.mem_of_getElem? (i := 82) (by decide +kernel)⟩
theorem kX6_18 : Cond.classLink RX6 18 RX5 ∈ lw_tbl := List.mem_of_getElem? (i := 156) (by decide +kernel)
theorem oX5_3 : Cond.methodLink RX5 3 Lib.objectInit ∈ lw_tbl := List.mem_of_getElem? (i := 161) (by decide +kernel)
theorem nX6_25 : fp_New RX6 25 10 5 := ⟨_, rfl, rfl, List.mem_of_getElem? (i := 191) (by decide +kernel), List.mem_of_getElem? (i := 192) (by decide +kernel), List.mem_of_getElem? (i := 84) (by decide +kernel)⟩
theorem kX6_25 : Cond.classLink RX6 25 RX10 ∈ lw_tbl := List.mem_of_getElem? (i := 191) (by decide +kernel)
theorem oX10_3 : Cond.methodLink RX10 3 Lib.objectInit ∈ lw_tbl := List.mem_of_getElem? (i := 196) (by decide +kernel)
theorem nX11_20 : fp_New RX11 20 1 6 := ⟨_, rfl, rfl, List.mem_of_getElem? (i := 267) (by decide +kernel), List.mem_of_getElem? (i := 113) (by decide +kernel), List.mem_of_getElem? (i := 81) (by decide +kernel)⟩
theorem kX11_20 : Cond.classLink RX11 20 RX1 ∈ lw_tbl := List.mem_of_getElem? (i := 267) (by decide +kernel)
theorem nX11_27 : fp_New RX11 27 5 4 := ⟨_, rfl, rfl, List.mem_of_getElem? (i := 269) (by decide +kernel), List.mem_of_getElem? (i := 157) (by decide +kernel), List.mem_of_getElem? (i := 82) (by decide +kernel)⟩
theorem kX11_27 : Cond.classLink RX11 27 RX5 ∈ lw_tbl := List.mem_of_getElem? (i := 269) (by decide +kernel)
theorem nX11_34 : fp_New RX11 34 10 5 := ⟨_, rfl, rfl, List.mem_of_getElem? (i := 271) (by decide +kernel), List.mem_of_getElem? (i := 192) (by decide +kernel), List.mem_of_getElem? (i := 84) (by decide +kernel)⟩
theorem kX11_34 : Cond.classLink RX11 34 RX10 ∈ lw_tbl := List.mem_of_getElem? (i := 271) (by decide +kernel)
theorem nX11_41 : fp_New RX11 41 3 2 := ⟨_, rfl, rfl, List.mem_of_getElem? (i := 273) (by decide +kernel), List.mem_of_getElem? (i := 274) (by decide +kernel), List.mem_of_getElem? (i := 85) (by decide +kernel)⟩
theorem kX11_41 : Cond.classLink RX11 41 RX3 ∈ lw_tbl := List.mem_of_getElem? (i := 273) (by decide +kernel)
theorem oX3_3 : Cond.methodLink RX3 3 Lib.objectInit ∈ lw_tbl := List.mem_of_getElem? (i := 278) (by decide +kernel)
theorem nX11_48 : fp_New RX11 48 8 7 := ⟨_, rfl, rfl, List.mem_of_getElem? (i := 289) (by decide +kernel), List.mem_of_getElem? (i := 290) (by decide +kernel), List.mem_of_getElem? (i := 86) (by decide +kernel)⟩
theorem kX11_48 : Cond.classLink RX11 48 RX8 ∈ lw_tbl := List.mem_of_getElem? (i := 289) (by decide +kernel)
theorem oX8_3 : Cond.methodLink RX8 3 Lib.objectInit ∈ lw_tbl := List.mem_of_getElem? (i := 294) (by decide +kernel)
theorem nX8_9 : fp_New RX8 9 5 4 := ⟨_, rfl, rfl, List.mem_of_getElem? (i := 295) (by decide +kernel), List.mem_of_getElem? (i := 157) (by decide +kernel), List.mem_of_getElem? (i := 82) (by decide +kernel)⟩
theorem kX8_9 : Cond.classLink RX8 9 RX5 ∈ lw_tbl := List.mem_of_getElem? (i := 295) (by decide +kernel)
theorem nX11_55 : fp_New RX11 55 0 6 := ⟨_, rfl, rfl, List.mem_of_getElem? (i := 325) (by decide +kernel), List.mem_of_getElem? (i := 326) (by decide +kernel), List.mem_of_getElem? (i := 87) (by decide +kernel)⟩
theorem kX11_55 : Cond.classLink RX11 55 RX0 ∈ lw_tbl := List.mem_of_getElem? (i := 325) (by decide +kernel)
theorem oX0_3 : Cond.methodLink RX0 3 Lib.objectInit ∈ lw_tbl := List.mem_of_getElem? (i := 330) (by decide +kernel)
theorem kX0_18 : Cond.classLink RX0 18 "[[I" ∈ lw_tbl := List.mem_of_getElem? (i := 331) (by decide +kernel)
theorem nX11_62 : fp_New RX11 62 4 5 := ⟨_, rfl, rfl, List.mem_of_getElem? (i := 353) (by decide +kernel), List.mem_of_getElem? (i := 354) (by decide +kernel), List.mem_of_getElem? (i := 88) (by decide +kernel)⟩
theorem kX11_62 : Cond.classLink RX11 62 RX4 ∈ lw_tbl := List.mem_of_getElem? (i := 353) (by decide +kernel)
theorem oX4_3 : Cond.methodLink RX4 3 Lib.objectInit ∈ lw_tbl := List.mem_of_getElem? (i := 358) (by decide +kernel)
theorem nX11_69 : fp_New RX11 69 7 5 := ⟨_, rfl, rfl, List.mem_of_getElem? (i := 376) (by decide +kernel), List.mem_of_getElem? (i := 377) (by decide +kernel), List.mem_of_getElem? (i := 89) (by decide +kernel)⟩
theorem kX11_69 : Cond.classLink RX11 69 RX7 ∈ lw_tbl := List.mem_of_getElem? (i := 376) (by decide +kernel)
theorem oX7_3 : Cond.methodLink RX7 3 Lib.objectInit ∈ lw_tbl := List.mem_of_getElem? (i := 381) (by decide +kernel)
theorem nX11_76 : fp_New RX11 76 2 4 := ⟨_, rfl, rfl, List.mem_of_getElem? (i := 400) (by decide +kernel), List.mem_of_getElem? (i := 404) (by decide +kernel), List.mem_of_getElem? (i := 90) (by decide +kernel)⟩
theorem kX11_76 : Cond.classLink RX11 76 RX2 ∈ lw_tbl := List.mem_of_getElem? (i := 400) (by decide +kernel)
theorem nX11_82 : fp_New RX11 82 9 3 := ⟨_, rfl, rfl, List.mem_of_getElem? (i := 402) (by decide +kernel), List.mem_of_getElem? (i := 431) (by decide +kernel), List.mem_of_getElem? (i := 91) (by decide +kernel)⟩
theorem kX11_82 : Cond.classLink RX11 82 RX9 ∈ lw_tbl := List.mem_of_getElem? (i := 402) (by decide +kernel)
theorem oX2_1 : Cond.methodLink RX2 1 Lib.objectInit ∈ lw_tbl := List.mem_of_getElem? (i := 408) (by decide +kernel)
theorem nX2_7 : fp_New RX2 7 5 4 := ⟨_, rfl, rfl, List.mem_of_getElem? (i := 409) (by decide +kernel), List.mem_of_getElem? (i := 157) (by decide +kernel), List.mem_of_getElem? (i := 82) (by decide +kernel)⟩
theorem kX2_7 : Cond.classLink RX2 7 RX5 ∈ lw_tbl := List.mem_of_getElem? (i := 409) (by decide +kernel)
theorem nX2_16 : fp_New RX2 16 10 5 := ⟨_, rfl, rfl, List.mem_of_getElem? (i := 411) (by decide +kernel), List.mem_of_getElem? (i := 192) (by decide +kernel), List.mem_of_getElem? (i := 84) (by decide +kernel)⟩
theorem kX2_16 : Cond.classLink RX2 16 RX10 ∈ lw_tbl := List.mem_of_getElem? (i := 411) (by decide +kernel)
theorem nX2_23 : fp_New RX2 23 3 2 := ⟨_, rfl, rfl, List.mem_of_getElem? (i := 413) (by decide +kernel), List.mem_of_getElem? (i := 274) (by decide +kernel), List.mem_of_getElem? (i := 85) (by decide +kernel)⟩
theorem kX2_23 : Cond.classLink RX2 23 RX3 ∈ lw_tbl := List.mem_of_getElem? (i := 413) (by decide +kernel)
theorem oX9_3 : Cond.methodLink RX9 3 Lib.objectInit ∈ lw_tbl := List.mem_of_getElem? (i := 435) (by decide +kernel)
theorem nL_10 : fp_New RL 10 12 45 := ⟨_, rfl, rfl, List.mem_of_getElem? (i := 1103) (by decide +kernel), List.mem_of_getElem? (i := 1104) (by decide +kernel), List.mem_of_getElem? (i := 92) (by decide +kernel)⟩
theorem kL_10 : Cond.classLink RL 10 RX12 ∈ lw_tbl := List.mem_of_getElem? (i := 1103) (by decide +kernel)
theorem oX12_1 : Cond.methodLink RX12 1 Lib.objectInit ∈ lw_tbl := List.mem_of_getElem? (i := 1108) (by decide +kernel)
