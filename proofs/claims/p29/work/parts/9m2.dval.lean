/-! duel: what the game is worth (p29 alone) -/
def dW (g : aGd) (t : Int) : Int := if t = 10 then 0 else g.2.2.2.1 t
def dV (g : aGd) (t p : Int) : Int := if t = 10 then 0 else g.2.2.2.2.1 t p
abbrev dSt : Type := List Int × Int × Int
def dSel (g : aGd) (kind : Int) (L : List Int) : Int := fp_giv kind (fun i => dW g (L.getD i.toNat 0)) L.length
abbrev dCan (d mv : Int) (s : dSt) : Prop := d = 1 → (0 < (if mv = 0 then s.2.1 else s.2.2) ∧ s.1.length < 8)
def dNext (g : aGd) (kind d mv : Int) (s : dSt) : dSt := if d = 1 then (s.1 ++ [10], (if mv = 0 then s.2.1 - 1 else s.2.1), (if mv = 0 then s.2.2 else s.2.2 - 1)) else if d = 0 ∧ s.1 ≠ [] then (s.1.eraseIdx (dSel g kind s.1).toNat, s.2) else s
def dGain (g : aGd) (kind p q d mv : Int) (s : dSt) : Int := if d = 0 ∧ s.1 ≠ [] then (if mv = 0 then dV g (s.1.getD (dSel g kind s.1).toNat 0) p else -(dV g (s.1.getD (dSel g kind s.1).toNat 0) q)) else 0
def dBet (mv : Int) (b : Option (Int × Int)) (m x : Int) : Option (Int × Int) := match b with
  | none => some (x, m)
  | some r => if (mv = 0 ∧ r.1 < x) ∨ (mv ≠ 0 ∧ x < r.1) then some (x, m) else some r
def dStp (g : aGd) (kind p q k : Int) (s : dSt) (V : dSt → Int) (b : Option (Int × Int)) (d : Int) : Option (Int × Int) := if dCan d (k % 2) s then dBet (k % 2) b d (dGain g kind p q d (k % 2) s + V (dNext g kind d (k % 2) s)) else b
def dUp (g : aGd) (kind p q k : Int) (s : dSt) (V : dSt → Int) : Nat → Option (Int × Int)
  | 0 => none
  | d + 1 => dStp g kind p q k s V (dUp g kind p q k s V d) (d : Int)
def dVal (g : aGd) (kind p q : Int) : Nat → Int → dSt → Int × Int
  | 0, _, _ => (0, 0)
  | n + 1, k, s => (dUp g kind p q k s (fun u => (dVal g kind p q n (k + 1) u).1) 3).getD (0, 0)
def dOkS (g : aGd) (s : dSt) : Prop := s.1.length ≤ 8 ∧ (∀ t, t ∈ s.1 → (0 ≤ t ∧ t < g.1) ∨ t = 10) ∧ (0 ≤ s.2.1 ∧ s.2.1 ≤ 2) ∧ (0 ≤ s.2.2 ∧ s.2.2 ≤ 2)
def A_duel (g : aGd) (pg : aPg) (x p q r n w : Int) : Int := if (((0 ≤ x ∧ x < g.2.1) ∧ (0 ≤ p ∧ p < 4) ∧ (0 ≤ q ∧ q < 4) ∧ p ≠ q) ∧ (0 ≤ r ∧ r ≤ 2) ∧ (1 ≤ n ∧ n ≤ 6) ∧ (0 ≤ w ∧ w ≤ 1)) then (if w = 0 then 1000 + (dVal g (g.2.2.2.2.2 x) p q n.toNat 0 (pg.2.2 x, r, r)).1 else (dVal g (g.2.2.2.2.2 x) p q n.toNat 0 (pg.2.2 x, r, r)).2) else -1
theorem dSel_in {g : aGd} {kind : Int} {L : List Int} (h : L ≠ []) : 0 ≤ dSel g kind L ∧ dSel g kind L < L.length := by
  have : 0 < L.length := List.length_pos_iff.mpr h
  exact fp_giv_in (by omega)
theorem dSel_mem {g : aGd} {kind : Int} {L : List Int} (h : L ≠ []) : L.getD (dSel g kind L).toNat 0 ∈ L := by
  have := dSel_in (g := g) (kind := kind) h
  exact fp_getD_mem (by omega)
theorem dV_in {g : aGd} {t p : Int} (hg : gOk g) (ht : (0 ≤ t ∧ t < g.1) ∨ t = 10) (hp : 0 ≤ p ∧ p < 4) : 0 ≤ dV g t p ∧ dV g t p ≤ 20 := by
  unfold dV
  split
  · omega
  · exact hg.2.2.2.2.1 t p (by omega) (by omega) hp.1 hp.2
theorem dGain_in {g : aGd} {kind p q d mv : Int} {s : dSt} (hg : gOk g) (hs : dOkS g s) (hp : 0 ≤ p ∧ p < 4) (hq : 0 ≤ q ∧ q < 4) : -20 ≤ dGain g kind p q d mv s ∧ dGain g kind p q d mv s ≤ 20 := by
  unfold dGain
  split
  · rename_i h
    have hm := hs.2.1 _ (dSel_mem (g := g) (kind := kind) h.2)
    have h1 := dV_in hg hm hp
    have h2 := dV_in hg hm hq
    split <;> omega
  · omega
theorem dNext_ok {g : aGd} {kind d mv : Int} {s : dSt} (hs : dOkS g s) (hc : dCan d mv s) : dOkS g (dNext g kind d mv s) := by
  obtain ⟨h1, h2, h3, h4⟩ := hs
  unfold dNext
  split
  · rename_i h
    have hc' := hc h
    refine ⟨?_, fun t ht => ?_, ?_, ?_⟩
    · show (s.1 ++ [10]).length ≤ 8
      rw [List.length_append]
      show s.1.length + 1 ≤ 8
      omega
    · rcases List.mem_append.mp ht with q | q
      · exact h2 t q
      · right; simpa using q
    · show 0 ≤ (if mv = 0 then s.2.1 - 1 else s.2.1) ∧ (if mv = 0 then s.2.1 - 1 else s.2.1) ≤ 2
      by_cases e : mv = 0
      · rw [if_pos e] at hc' ⊢; omega
      · rw [if_neg e]; exact h3
    · show 0 ≤ (if mv = 0 then s.2.2 else s.2.2 - 1) ∧ (if mv = 0 then s.2.2 else s.2.2 - 1) ≤ 2
      by_cases e : mv = 0
      · rw [if_pos e]; exact h4
      · rw [if_neg e] at hc' ⊢; omega
  · split
    · exact ⟨Nat.le_trans (List.length_eraseIdx_le _ _) h1, fun t ht => h2 t ((List.eraseIdx_sublist _ _).subset ht), h3, h4⟩
    · exact ⟨h1, h2, h3, h4⟩
theorem dBet_in {mv m x B : Int} {b : Option (Int × Int)} (hb : ∀ r, b = some r → -B ≤ r.1 ∧ r.1 ≤ B) (hx : -B ≤ x ∧ x ≤ B) : ∀ r, dBet mv b m x = some r → -B ≤ r.1 ∧ r.1 ≤ B := by
  intro r hr
  unfold dBet at hr
  split at hr
  · cases hr; exact hx
  · split at hr
    · cases hr; exact hx
    · exact hb r hr
theorem dUp_in {g : aGd} {kind p q k : Int} {s : dSt} {V : dSt → Int} {B : Int} (hg : gOk g) (hs : dOkS g s) (hp : 0 ≤ p ∧ p < 4) (hq : 0 ≤ q ∧ q < 4) (hV : ∀ u, dOkS g u → -B ≤ V u ∧ V u ≤ B) : ∀ (d : Nat) (r : Int × Int), dUp g kind p q k s V d = some r → -(B + 20) ≤ r.1 ∧ r.1 ≤ B + 20
  | 0, r, h => by simp [dUp] at h
  | d + 1, r, h => by
    have ih := dUp_in (kind := kind) (k := k) hg hs hp hq hV d
    rw [dUp] at h
    unfold dStp at h
    split at h
    · rename_i hc
      have h1 := dGain_in (kind := kind) (d := (d : Int)) (mv := k % 2) hg hs hp hq
      have h2 := hV _ (dNext_ok (kind := kind) hs hc)
      exact dBet_in ih (by omega) r h
    · exact ih r h
theorem dVal_in {g : aGd} {kind p q : Int} (hg : gOk g) (hp : 0 ≤ p ∧ p < 4) (hq : 0 ≤ q ∧ q < 4) : ∀ (n : Nat) (k : Int) (s : dSt), dOkS g s → -(20 * (n : Int)) ≤ (dVal g kind p q n k s).1 ∧ (dVal g kind p q n k s).1 ≤ 20 * n
  | 0, k, s, _ => by show -(20 * ((0 : Nat) : Int)) ≤ 0 ∧ (0 : Int) ≤ 20 * ((0 : Nat) : Int); omega
  | n + 1, k, s, hs => by
    rw [dVal]
    have ih := dVal_in (kind := kind) hg hp hq n (k + 1)
    have h := dUp_in (kind := kind) (k := k) (V := fun u => (dVal g kind p q n (k + 1) u).1) hg hs hp hq ih 3
    cases e : dUp g kind p q k s (fun u => (dVal g kind p q n (k + 1) u).1) 3 with
    | none => show -(20 * ((n + 1 : Nat) : Int)) ≤ 0 ∧ (0 : Int) ≤ 20 * ((n + 1 : Nat) : Int); omega
    | some r =>
      have := h r e
      show -(20 * ((n + 1 : Nat) : Int)) ≤ r.1 ∧ r.1 ≤ 20 * ((n + 1 : Nat) : Int)
      omega
theorem dStp_0 {g : aGd} {kind p q k : Int} {s : dSt} {V : dSt → Int} : dUp g kind p q k s V 1 = some (dGain g kind p q 0 (k % 2) s + V (dNext g kind 0 (k % 2) s), 0) := by
  rw [dUp, dUp]
  unfold dStp
  rw [if_pos (fun h => by simp at h)]
  rfl
theorem dStp_some {g : aGd} {kind p q k d : Int} {s : dSt} {V : dSt → Int} {b : Option (Int × Int)} (h : b ≠ none) : dStp g kind p q k s V b d ≠ none := by
  unfold dStp
  split
  · unfold dBet
    split
    · simp
    · split <;> simp
  · exact h
theorem dUp_some {g : aGd} {kind p q k : Int} {s : dSt} {V : dSt → Int} : ∀ d : Nat, dUp g kind p q k s V (d + 1) ≠ none
  | 0 => by rw [dStp_0]; simp
  | d + 1 => by rw [dUp]; exact dStp_some (dUp_some d)
/-- the game after the moves of a row read in threes: what it brought so far, and how it stands -/
def dPfx (g : aGd) (kind p q : Int) (s0 : dSt) : Nat → Int → Option (Int × dSt)
  | 0, _ => some (0, s0)
  | k + 1, v => match dPfx g kind p q s0 k (v / 3) with
    | none => none
    | some r => if dCan (v % 3) ((k : Int) % 2) r.2 then some (r.1 + dGain g kind p q (v % 3) ((k : Int) % 2) r.2, dNext g kind (v % 3) ((k : Int) % 2) r.2) else none
def dFld (g : aGd) (kind p q : Int) (s0 : dSt) (n k : Nat) (v : Int) : Int := match dPfx g kind p q s0 k v with
  | none => -9999
  | some r => r.1 + (dVal g kind p q (n - k) k r.2).1
theorem dPfx_ok {g : aGd} {kind p q : Int} {s0 : dSt} (hg : gOk g) (hs : dOkS g s0) (hp : 0 ≤ p ∧ p < 4) (hq : 0 ≤ q ∧ q < 4) : ∀ (k : Nat) (v : Int) (r : Int × dSt), dPfx g kind p q s0 k v = some r → (-(20 * (k : Int)) ≤ r.1 ∧ r.1 ≤ 20 * k) ∧ dOkS g r.2
  | 0, v, r, h => by
    rw [dPfx] at h
    cases h
    exact ⟨by show -(20 * ((0 : Nat) : Int)) ≤ 0 ∧ (0 : Int) ≤ 20 * ((0 : Nat) : Int); omega, hs⟩
  | k + 1, v, r, h => by
    rw [dPfx] at h
    cases e : dPfx g kind p q s0 k (v / 3) with
    | none => rw [e] at h; cases h
    | some r0 =>
      rw [e] at h
      have ih := dPfx_ok (kind := kind) hg hs hp hq k (v / 3) r0 e
      simp only at h
      split at h
      · rename_i hc
        cases h
        have h1 := dGain_in (kind := kind) (d := v % 3) (mv := (k : Int) % 2) hg ih.2 hp hq
        refine ⟨?_, dNext_ok ih.2 hc⟩
        show -(20 * ((k + 1 : Nat) : Int)) ≤ r0.1 + _ ∧ r0.1 + _ ≤ 20 * ((k + 1 : Nat) : Int)
        omega
      · cases h
theorem dFld_in {g : aGd} {kind p q : Int} {s0 : dSt} {n k : Nat} {v : Int} (hg : gOk g) (hs : dOkS g s0) (hp : 0 ≤ p ∧ p < 4) (hq : 0 ≤ q ∧ q < 4) (hn : n ≤ 6) (hk : k ≤ n) : -9999 ≤ dFld g kind p q s0 n k v ∧ dFld g kind p q s0 n k v ≤ 120 := by
  unfold dFld
  split
  · omega
  · rename_i r e
    have h1 := dPfx_ok (kind := kind) hg hs hp hq k v r e
    have h2 := dVal_in (kind := kind) hg hp hq (n - k) k r.2 h1.2
    omega
/-- one of three, as the reference folds them: -9999 is no move -/
def dTri (mv : Int) (b : Int × Int) (m x : Int) : Int × Int := if x ≠ -9999 ∧ (b.1 = -9999 ∨ ((mv = 0 ∧ b.1 < x) ∨ (mv ≠ 0 ∧ x < b.1))) then (x, m) else b
def dAs (sum : Int) : Option (Int × Int) → Int × Int
  | none => (-9999, 0)
  | some r => (sum + r.1, r.2)
theorem dTri_dead (mv m : Int) (b : Int × Int) : dTri mv b m (-9999) = b := by
  unfold dTri
  rw [if_neg (fun h => h.1 rfl)]
theorem dTri_step {g : aGd} {kind p q : Int} {s0 : dSt} {n k : Nat} {v : Int} {r : Int × dSt} (hg : gOk g) (hs : dOkS g s0) (hp : 0 ≤ p ∧ p < 4) (hq : 0 ≤ q ∧ q < 4) (hn : n ≤ 6) (hk : k < n) (e : dPfx g kind p q s0 k v = some r) {m : Nat} (hm : m < 3) : dTri ((k : Int) % 2) (dAs r.1 (dUp g kind p q k r.2 (fun u => (dVal g kind p q (n - (k + 1)) ((k : Int) + 1) u).1) m)) m (dFld g kind p q s0 n (k + 1) (3 * v + m)) = dAs r.1 (dUp g kind p q k r.2 (fun u => (dVal g kind p q (n - (k + 1)) ((k : Int) + 1) u).1) (m + 1)) := by
  have hr := dPfx_ok (kind := kind) hg hs hp hq k v r e
  have ev : (3 * v + (m : Int)) / 3 = v := by omega
  have em : (3 * v + (m : Int)) % 3 = m := by omega
  have hV : ∀ u, dOkS g u → -(20 * ((n - (k + 1) : Nat) : Int)) ≤ (dVal g kind p q (n - (k + 1)) ((k : Int) + 1) u).1 ∧ (dVal g kind p q (n - (k + 1)) ((k : Int) + 1) u).1 ≤ 20 * ((n - (k + 1) : Nat) : Int) := fun u hu => dVal_in hg hp hq _ _ u hu
  have hU := dUp_in (kind := kind) (k := (k : Int)) (V := fun u => (dVal g kind p q (n - (k + 1)) ((k : Int) + 1) u).1) hg hr.2 hp hq hV m
  have hfd : dFld g kind p q s0 n (k + 1) (3 * v + m) = if dCan (m : Int) ((k : Int) % 2) r.2 then r.1 + dGain g kind p q (m : Int) ((k : Int) % 2) r.2 + (dVal g kind p q (n - (k + 1)) ((k : Int) + 1) (dNext g kind (m : Int) ((k : Int) % 2) r.2)).1 else -9999 := by
    unfold dFld
    rw [dPfx, ev, em, e]
    simp only
    by_cases hc : dCan (m : Int) ((k : Int) % 2) r.2
    · rw [if_pos hc, if_pos hc]
      rfl
    · rw [if_neg hc, if_neg hc]
  generalize hVe : (fun u : dSt => (dVal g kind p q (n - (k + 1)) ((k : Int) + 1) u).1) = V at hU ⊢
  have hVa : ∀ u, (dVal g kind p q (n - (k + 1)) ((k : Int) + 1) u).1 = V u := fun u => by rw [← hVe]
  rw [hVa] at hfd
  simp only [hVa] at hV
  rw [hfd, dUp]
  unfold dStp
  by_cases hc : dCan (m : Int) ((k : Int) % 2) r.2
  · rw [if_pos hc, if_pos hc]
    have h1 := dGain_in (kind := kind) (d := (m : Int)) (mv := (k : Int) % 2) hg hr.2 hp hq
    have h2 := hV _ (dNext_ok (kind := kind) hr.2 hc)
    generalize dGain g kind p q (m : Int) ((k : Int) % 2) r.2 = ga at *
    generalize V (dNext g kind (m : Int) ((k : Int) % 2) r.2) = va at *
    cases eU : dUp g kind p q k r.2 V m with
    | none =>
      show dTri _ (-9999, 0) _ _ = (r.1 + (ga + va), (m : Int))
      unfold dTri
      rw [if_pos ⟨by omega, Or.inl rfl⟩, Int.add_assoc]
    | some y =>
      have hy := hU y eU
      show dTri _ (r.1 + y.1, y.2) _ _ = dAs r.1 (dBet _ (some y) _ _)
      unfold dTri dBet
      by_cases hb : ((k : Int) % 2 = 0 ∧ y.1 < ga + va) ∨ ((k : Int) % 2 ≠ 0 ∧ ga + va < y.1)
      · rw [if_pos (by simp only; omega)]
        simp only
        rw [if_pos hb, Int.add_assoc]
        rfl
      · rw [if_neg (by simp only; omega)]
        simp only
        rw [if_neg hb]
        rfl
  · rw [if_neg hc, if_neg hc]
    exact dTri_dead _ _ _
theorem dTri_none {g : aGd} {kind p q : Int} {s0 : dSt} {n k : Nat} {v : Int} (e : dPfx g kind p q s0 k v = none) {m : Nat} (hm : m < 3) : dFld g kind p q s0 n (k + 1) (3 * v + m) = -9999 := by
  have ev : (3 * v + (m : Int)) / 3 = v := by omega
  unfold dFld
  rw [dPfx, ev, e]
/-- the fold of one row of three: what it is at a start m -/
def dAcc (g : aGd) (kind p q : Int) (s0 : dSt) (n k : Nat) (v : Int) (m : Nat) : Int × Int := match dPfx g kind p q s0 k v with
  | none => (-9999, 0)
  | some r => dAs r.1 (dUp g kind p q k r.2 (fun u => (dVal g kind p q (n - (k + 1)) ((k : Int) + 1) u).1) m)
theorem dAcc_0 {g : aGd} {kind p q : Int} {s0 : dSt} {n k : Nat} {v : Int} : dAcc g kind p q s0 n k v 0 = (-9999, 0) := by
  unfold dAcc
  split <;> rfl
theorem dAcc_step {g : aGd} {kind p q : Int} {s0 : dSt} {n k : Nat} {v : Int} (hg : gOk g) (hs : dOkS g s0) (hp : 0 ≤ p ∧ p < 4) (hq : 0 ≤ q ∧ q < 4) (hn : n ≤ 6) (hk : k < n) {m : Nat} (hm : m < 3) : dTri ((k : Int) % 2) (dAcc g kind p q s0 n k v m) m (dFld g kind p q s0 n (k + 1) (3 * v + m)) = dAcc g kind p q s0 n k v (m + 1) := by
  unfold dAcc
  cases e : dPfx g kind p q s0 k v with
  | none =>
    simp only
    rw [dTri_none e hm, dTri_dead]
  | some r =>
    simp only
    exact dTri_step hg hs hp hq hn hk e hm
theorem dAcc_3 {g : aGd} {kind p q : Int} {s0 : dSt} {n k : Nat} {v : Int} (hk : k < n) : (dAcc g kind p q s0 n k v 3).1 = dFld g kind p q s0 n k v := by
  unfold dAcc dFld
  cases e : dPfx g kind p q s0 k v with
  | none => rfl
  | some r =>
    simp only
    obtain ⟨j, hj⟩ : ∃ j, n - k = j + 1 := ⟨n - k - 1, by omega⟩
    rw [hj, dVal, show n - (k + 1) = j by omega]
    cases eU : dUp g kind p q k r.2 (fun u => (dVal g kind p q j ((k : Int) + 1) u).1) 3 with
    | none => exact absurd eU (dUp_some 2)
    | some y => rfl
theorem dAcc_end {g : aGd} {kind p q : Int} {s0 : dSt} {n : Nat} {v : Int} (hn : 0 < n) : (dAcc g kind p q s0 n 0 v 3).2 = (dVal g kind p q n 0 s0).2 := by
  unfold dAcc
  rw [dPfx]
  simp only
  obtain ⟨j, rfl⟩ : ∃ j, n = j + 1 := ⟨n - 1, by omega⟩
  rw [dVal]
  show (dAs 0 (dUp g kind p q 0 s0 (fun u => (dVal g kind p q j (0 + 1) u).1) 3)).2 = _
  cases eU : dUp g kind p q 0 s0 (fun u => (dVal g kind p q j (0 + 1) u).1) 3 with
  | none => exact absurd eU (dUp_some 2)
  | some y => rfl
