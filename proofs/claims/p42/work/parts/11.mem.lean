/-! MEMORY: cell number, slot or element, its value as an integer; a reference is 0 (null) or the cell's number and 1. -/
abbrev fp_Mem : Type := Nat → Nat → Int
/-- the law's script (its cell), the state at the law's entry, class numbers, slots, array classes, the script's length and contents -/
abbrev fp_WG : Type := Nat × State × (Nat → ClassId) × (Nat → Nat → Nat) × (Nat → ClassId) × Nat × (Nat → Int32)
abbrev fp_b (G : fp_WG) : Nat := G.2.1.heap.size
abbrev iV (z : Int) : Value := .int (Int32.ofInt z)
abbrev jV (z : Int) : Value := .long (Int64.ofInt z)
abbrev rV (G : fp_WG) (k : Nat) : Value := .ref (fp_b G + k)
def fp_lay (k : Nat) : Nat × Nat := fp_layL.getD k (1, 0)
def fp_ref (k j : Nat) : Nat := (fp_refL.getD k []).getD j 0
def fp_fty (c j : Nat) : Nat := (fp_ftyL.getD c []).getD j 0
def fp_ro (b : Nat) (z : Int) : Option Nat := if z ≤ 0 then none else some (b + (z - 1).toNat)
def fp_fv (b t : Nat) (z : Int) : Value := if t = 0 then iV z else if t = 1 then jV z else va_rf (fp_ro b z)
def fp_arrc (b t n : Nat) (f : Nat → Int) : vp_A :=
  if t ≤ 3 then (n, .inl fun j => Int32.ofInt (f j)) else if t = 4 then (n, .inr (.inl fun j => Int64.ofInt (f j))) else (n, .inr (.inr (.inr (.inr fun j => fp_ro b (f j)))))
def fp_cell (G : fp_WG) (k : Nat) (f : Nat → Int) (H : Heap) : Prop :=
  if (fp_lay k).1 = 0 then ∃ r : vw_C, vwCl[(fp_lay k).2]? = some r ∧ t_OB (fp_b G + k) (G.2.2.1 (fp_lay k).2) r.2.2 (G.2.2.2.1 (fp_lay k).2) H (fun j => fp_fv (fp_b G) (fp_fty (fp_lay k).2 j) (f j))
  else H[fp_b G + k]? = some (vp_cell (G.2.2.2.2.1 (fp_lay k).1) (fp_arrc (fp_b G) (fp_lay k).1 (fp_lay k).2 f))
def fp_Rep (G : fp_WG) (n : Nat) (M : fp_Mem) (H : Heap) : Prop := H.size = fp_b G + n ∧ (∀ k, k < n → fp_cell G k (M k) H) ∧ ∀ q, q < fp_b G → H[q]? = G.2.1.heap[q]?
def fp_upf (f : Nat → Int) (i : Nat) (z : Int) : Nat → Int := fun j => if j = i then z else f j
def fp_upM (M : fp_Mem) (k : Nat) (f : Nat → Int) : fp_Mem := fun a => if a = k then f else M a
abbrev fp_up (M : fp_Mem) (k i : Nat) (z : Int) : fp_Mem := fp_upM M k (fp_upf (M k) i z)
theorem fp_cell_kept {G : fp_WG} {k : Nat} {f : Nat → Int} {H H1 : Heap} (h : fp_cell G k f H) (hq : H1[fp_b G + k]? = H[fp_b G + k]?) : fp_cell G k f H1 := by
  unfold fp_cell at h ⊢
  split
  · rename_i h0
    rw [if_pos h0] at h
    obtain ⟨r, h1, h2⟩ := h
    exact ⟨r, h1, h2.kept hq⟩
  · rename_i h0
    rw [if_neg h0] at h
    rw [hq]; exact h
theorem fp_cell_congr {G : fp_WG} {k : Nat} {f g : Nat → Int} {H : Heap} (h : fp_cell G k f H) (e : ∀ j, f j = g j) : fp_cell G k g H := by
  have : f = g := funext e
  subst this; exact h
theorem fp_Rep.set {G : fp_WG} {n k : Nat} {M : fp_Mem} {f : Nat → Int} {H H1 : Heap} (h : fp_Rep G n M H) (hk : k < n) (hz : H1.size = H.size) (ho : ∀ q, q ≠ fp_b G + k → H1[q]? = H[q]?) (hc : fp_cell G k f H1) : fp_Rep G n (fp_upM M k f) H1 := by
  obtain ⟨h1, h2, h3⟩ := h
  refine ⟨by rw [hz]; exact h1, fun a ha => ?_, fun q hq => ?_⟩
  · by_cases e : a = k
    · subst e
      have : fp_upM M a f a = f := by simp [fp_upM]
      rw [this]; exact hc
    · have : fp_upM M k f a = M a := by simp [fp_upM, e]
      rw [this]
      exact fp_cell_kept (h2 a ha) (ho _ (by omega))
  · rw [ho q (by omega)]; exact h3 q hq
theorem fp_Rep.push {G : fp_WG} {n : Nat} {M : fp_Mem} {f : Nat → Int} {H H1 : Heap} (h : fp_Rep G n M H) (hz : H1.size = fp_b G + n + 1) (ho : ∀ q, q < fp_b G + n → H1[q]? = H[q]?) (hc : fp_cell G n f H1) : fp_Rep G (n + 1) (fp_upM M n f) H1 := by
  obtain ⟨h1, h2, h3⟩ := h
  refine ⟨by omega, fun a ha => ?_, fun q hq => ?_⟩
  · by_cases e : a = n
    · subst e
      have : fp_upM M a f a = f := by simp [fp_upM]
      rw [this]; exact hc
    · have : fp_upM M n f a = M a := by simp [fp_upM, e]
      rw [this]
      exact fp_cell_kept (h2 a (by omega)) (ho _ (by omega))
  · rw [ho q (by omega)]; exact h3 q hq
theorem fp_Rep.congr {G : fp_WG} {n : Nat} {M N : fp_Mem} {H : Heap} (h : fp_Rep G n M H) (e : ∀ k, k < n → ∀ j, M k j = N k j) : fp_Rep G n N H :=
  ⟨h.1, fun k hk => fp_cell_congr (h.2.1 k hk) (e k hk), h.2.2⟩
/-- what holds at the law's entry -/
def fp_tys : List FieldType := [.int, .int, .byte, .boolean, .long, .object RX5, .object RX2, .object RX9, .array .int]
def fp_K0 (G : fp_WG) : Prop :=
  (∀ w ∈ lw_tbl, w.before #[Value.ref G.1] G.2.1 = true) ∧ (∀ (c : Nat) (q : vw_C), vwCl[c]? = some q → u_Kn G.2.1 q.1 q.2.1 q.2.2 (G.2.2.1 c) (G.2.2.2.1 c)) ∧
  (∀ (t : Nat) (ty : FieldType), fp_tys[t]? = some ty → ArrOfT G.2.1 (G.2.2.2.2.1 t) ty ∧ va_RA G.2.1 (G.2.2.2.2.1 t) ty) ∧
  va_X G.1 G.2.2.2.2.2.1 G.2.2.2.2.2.2 G.2.1 G.2.1.heap ∧ G.1 < fp_b G ∧ (Jvm.Cond.and given_1 narrow_1).before #[Value.ref G.1] G.2.1 = true
theorem fp_word {G : fp_WG} {s : State} {args : Array Value} {w : Cond} (K : fp_K0 G) (hW : G.2.1.WarmedH s.vm) (h : w ∈ lw_tbl) (g : goodWord w = true) : w.before args s = true := word_at hW (good_of_word g) (K.1 w h)
theorem fp_nestM {G : fp_WG} {s : State} {a : String} {i : Nat} {x : MethodName} {hh : String} (K : fp_K0 G) (hW : G.2.1.WarmedH s.vm) (h : Cond.methodLinkNest a i x hh ∈ lw_tbl) : va_Nw (.methodLinkNest a i x hh) s := va_Nw.warmM hW (va_Nw.of rfl (K.1 _ h))
theorem fp_kn {G : fp_WG} {s : State} (K : fp_K0 G) (hW : G.2.1.WarmedH s.vm) {c : Nat} {q : vw_C} (h : vwCl[c]? = some q) : u_Kn s q.1 q.2.1 q.2.2 (G.2.2.1 c) (G.2.2.2.1 c) := u_Kn_moved hW.alike (K.2.1 c q h)
theorem fp_arr {G : fp_WG} {s : State} (K : fp_K0 G) (hW : G.2.1.WarmedH s.vm) {t : Nat} {ty : FieldType} (h : fp_tys[t]? = some ty) : ArrOfT s (G.2.2.2.2.1 t) ty ∧ va_RA s (G.2.2.2.2.1 t) ty := ⟨arrOfT_moved hW.alike (K.2.2.1 t ty h).1, (K.2.2.1 t ty h).2.moved hW.alike⟩
/-- numbers -/
def fp_rng (z : Int) : Prop := -2147483648 ≤ z ∧ z ≤ 2147483647
theorem fp_toInt {z : Int} (h : fp_rng z) : (Int32.ofInt z).toInt = z := Int32.toInt_ofInt_of_le (by have := h.1; omega) (by have := h.2; omega)
def fp_lng (z : Int) : Prop := -9223372036854775808 ≤ z ∧ z ≤ 9223372036854775807
theorem fp_toInt64 {z : Int} (h : fp_lng z) : (Int64.ofInt z).toInt = z := Int64.toInt_ofInt_of_le (by have := h.1; omega) (by have := h.2; omega)
theorem fp_le {a b : Int} (ha : fp_rng a) (hb : fp_rng b) : Int32.ofInt a ≤ Int32.ofInt b ↔ a ≤ b := by rw [Int32.le_iff_toInt_le, fp_toInt ha, fp_toInt hb]
theorem fp_lt {a b : Int} (ha : fp_rng a) (hb : fp_rng b) : Int32.ofInt a < Int32.ofInt b ↔ a < b := by rw [Int32.lt_iff_toInt_lt, fp_toInt ha, fp_toInt hb]
theorem fp_eq {a b : Int} (ha : fp_rng a) (hb : fp_rng b) : Int32.ofInt a = Int32.ofInt b ↔ a = b := by rw [← Int32.toInt_inj, fp_toInt ha, fp_toInt hb]
theorem fp_rng0 : fp_rng 0 := by unfold fp_rng; omega
theorem fp_zero : (0 : Int32) = Int32.ofInt 0 := rfl
theorem fp_rng_of (x : Int32) : fp_rng x.toInt := ⟨by have := x.le_toInt; omega, by have := x.toInt_lt; omega⟩
theorem fp_clamp {z : Int} (h0 : 0 ≤ z) (h1 : z ≤ 2147483647) : (Int32.ofInt z).toNatClampNeg = z.toNat := Int32.toNatClampNeg_ofInt_of_le (by omega) (by omega)
theorem fp_in {z : Int} {n : Nat} (h0 : 0 ≤ z) (h1 : z < n) (hn : n ≤ 2147483647) : vp_in (Int32.ofInt z) n := by
  intro h
  rcases h with h | h
  · have : Int32.ofInt z < Int32.ofInt 0 := h
    rw [fp_lt ⟨by omega, by omega⟩ fp_rng0] at this
    omega
  · rw [fp_clamp h0 (by omega)] at h
    omega
