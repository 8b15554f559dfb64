/-! CONTRACTS AND CALLS -/
def fp_Okg (l : Launch) (G : fp_WG) (d n mc ms : Nat) (Y : fp_MR) (a : List Value) (M : fp_Mem) (Q : fp_Q) : Prop :=
  Met l Y.1 [.code Y.1 Y.2.1 Y.2.2.1 Y.2.2.2] (fp_rm d mc ms) (fun v U => v = a.toArray ∧ fp_Rep G n M U.heap ∧ fp_K0 G ∧ G.2.1.WarmedH U.vm) (fp_Qx G (n + mc) Q) mc ms (fun q => fp_b G ≤ q)
def fp_Ok (l : Launch) (G : fp_WG) (d : Nat) (Y : fp_MR) (a : List Value) (M : fp_Mem) (Q : fp_Q) : Prop := fp_Okg l G d fp_K 0 0 Y a (fp_sx M) (fp_lq Q)
def fp_ent : List Value → List (Option Value)
  | [] => []
  | v :: t => if v.category = 2 then some v :: none :: fp_ent t else some v :: fp_ent t
theorem fp_ent_args (a : List Value) (r : Nat) : ∀ (b i : Nat) (v : Value), (fp_ent a ++ List.replicate r none)[i]? = some (some v) → (b + i, v) ∈ lv_args b a := by
  induction a with
  | nil =>
    intro b i v h
    simp only [fp_ent, List.nil_append, List.getElem?_replicate] at h
    split at h <;> simp at h
  | cons w t ih =>
    intro b i v h
    unfold fp_ent at h
    unfold lv_args
    by_cases hc : w.category = 2
    · rw [if_pos hc] at h
      rw [if_pos hc]
      match i, h with
      | 0, h => simp at h; subst h; exact List.mem_cons_self
      | 1, h => simp at h
      | i + 2, h =>
        have h2 := ih (b + 2) i v (by simpa using h)
        rw [show b + (i + 2) = b + 2 + i by omega]
        exact List.mem_cons_of_mem _ h2
    · rw [if_neg hc] at h
      rw [if_neg hc]
      match i, h with
      | 0, h => simp at h; subst h; exact List.mem_cons_self
      | i + 1, h =>
        have h2 := ih (b + 1) i v (by simpa using h)
        rw [show b + (i + 1) = b + 1 + i by omega]
        exact List.mem_cons_of_mem _ h2
theorem fp_Okg.of {l : Launch} {G : fp_WG} {d n mc ms r : Nat} {Y : fp_MR} {a : List Value} {M : fp_Mem} {Q : fp_Q} {LL : List (Option Value)} (hpl : plainName Y.1.cls = true) (hle : (lg_sl a).length ≤ Y.2.2.1) (hLL : fp_ent a ++ List.replicate r none = LL) (h : fp_SP l G d n 0 0 mc ms (n + mc) Y 0 LL [] M Q) : fp_Okg l G d n mc ms Y a M Q := by
  refine Met.ofW (cc := Y.2.1) (maxL := Y.2.2.1) (ret := Y.2.2.2) hpl rfl ?_
  intro p e s m args below meth c s₁ B hml hv
  obtain ⟨rfl, hR, hK, hW⟩ := hv
  rw [lg_entry_eq]
  exact h p e s m _ below meth c s.heap [] _ ⟨B.exec, B.bytes, hml, findClass_of_methodNamed B.named, B.returns, B.notSynchronized, (name_of_methodNamed B.named B.method).1, hK, hW⟩ hR (fun q h => by cases h) ⟨lv_args 0 a, lv_entry a hle, fun i v hi => by
    have := fp_ent_args a r 0 i v (by rw [hLL]; exact hi)
    rwa [Nat.zero_add] at this⟩
theorem fp_Ok.of {l : Launch} {G : fp_WG} {d r : Nat} {Y : fp_MR} {a : List Value} {M : fp_Mem} {Q : fp_Q} {LL : List (Option Value)} (hpl : plainName Y.1.cls = true) (hle : (lg_sl a).length ≤ Y.2.2.1) (hLL : fp_ent a ++ List.replicate r none = LL) (h : fp_S l G d Y 0 LL [] M Q) : fp_Ok l G d Y a M Q := fp_Okg.of (mc := 0) hpl hle hLL h
/-- what the tables say of a method -/
def fp_Mok (Z : fp_MR) (k : Nat) : Prop := Cond.code Z.1 Z.2.1 Z.2.2.1 Z.2.2.2 ∈ lw_tbl ∧ Cond.initialized Z.1.cls ∈ lw_tbl ∧ Z.1.cls ≠ "java/lang/invoke/MethodHandle" ∧ Z.1.cls ≠ "java/lang/invoke/VarHandle" ∧ (parseMethodDescriptor Z.1.desc).map (fun d => d.parameters.length) = some k ∧ Z.2.2.1 ≤ 21
def fp_Vok (Z : fp_MR) : Prop := Cond.instanceMethod Z.1 ∈ lw_tbl ∧ Cond.selects Z.1.cls Z.1 Z.1 ∈ lw_tbl
theorem fp_blind {G : fp_WG} {n : Nat} {M : fp_Mem} {a : List Value} : FrameBlind (fun v U => v = a.toArray ∧ fp_Rep G n M U.heap ∧ fp_K0 G ∧ G.2.1.WarmedH U.vm) := fun _ _ _ _ h => h
theorem fp_callB {G : fp_WG} {s : State} {args : Array Value} {d d' mc ms k idx mc0 ms0 : Nat} {own : String} {Z : fp_MR} (K : fp_K0 G) (hW : G.2.1.WarmedH s.vm) (hZ : fp_Mok Z k) (hlk : (Cond.methodLink own idx Z.1).before args s = true) (hd : d' + 1 ≤ d) : CallB (fp_rm d mc0 ms0) s args own idx Z.1 Z.2.1 Z.2.2.1 Z.2.2.2 [.code Z.1 Z.2.1 Z.2.2.1 Z.2.2.2] (fp_rm d' mc ms) mc ms k := by
  obtain ⟨h1, h2, h3, h4, h5, h6⟩ := hZ
  refine ⟨rfl, rfl, hd, ?_, ?_, List.mem_cons_self, fp_word K hW h1 rfl, fp_word K hW h2 rfl, ⟨h3, h4⟩, fun sig h => ?_, hlk⟩
  · show 8 + (Z.2.2.1 + 11) + 40 * d' ≤ 40 * d
    omega
  · intro w hw a' U hWU
    simp only [List.mem_singleton] at hw
    subst hw
    exact fp_word K (State.WarmedH.trans hW hWU) h1 rfl
  · rw [h] at h5
    simpa using h5.symm
section CLR
variable {l : Launch} {G : fp_WG} {d n cs ss mc ms nf : Nat} {Y : fp_MR} {pc pc' : Nat} {LL LL' : List (Option Value)} {st : List Value} {M : fp_Mem} {Q : fp_Q}
theorem fp_after {p : Program} {e : Env} {s : State} {m : MethodId} {args : Array Value} {below : List Frame} {meth : Method} {c : Code} {H : Heap} {locs : List Loc} {ls : Array Slot} {n1 mc1 ms1 : Nat} {Q1 : fp_Q} {a : Array Value} {st0 rest : List Value}
    (C : fp_Cx G Y p s m meth c) (hL : ∀ q ∈ locs, fp_b G ≤ q.base) (hl : fp_lh ls Y.2.2.1 LL)
    (hr : va_Run p l e (fp_rm d mc ms) s m args below meth c H locs cs ss mc1 ms1 (F0 m pc ls st0) rest (fp_Qx G n1 Q1 a) (fun q => fp_b G ≤ q))
    (kk : ∀ (r : Option Value) (M' : fp_Mem), Q1 r M' → fp_SP l G d n1 (cs + mc1) (ss + ms1) mc ms nf Y (pc + 3) LL (r.toList ++ rest) M' Q) : W p l e (fp_rm d mc ms) s m args below meth c H locs cs ss (MQ below (fp_Qx G nf Q) args s mc ms (fun q => fp_b G ≤ q)) (F0 m pc ls st0) := by
  intro T hT X
  obtain ⟨v, st₀, t, T', L, h0, X', hLs, e1, e2, ⟨r, M', hv, hq, hR⟩, step⟩ := hr T hT X
  cases hv
  obtain ⟨t2, a1, b1⟩ := kk v M' hq p e s m args below meth c T'.heap (locs ++ L) ls C (by rw [e1]; exact hR) (fun q hq => by
    rcases List.mem_append.mp hq with h | h
    · exact hL q h
    · exact hLs q h) hl T' rfl X'
  exact ⟨t2, step t2 a1, b1⟩
theorem SP.callV {Z : fp_MR} {idx k c d' mc1 ms1 na : Nat} {As : List Value} {Q1 : fp_Q} {q : vw_C} {st0 : List Value} (hd : decode Y.2.1 pc = .ok (.invokevirtual idx, 3)) (hp : pc + 3 = pc') (hlk : Cond.methodLink Y.1.cls idx Z.1 ∈ lw_tbl) (hZ : fp_Mok Z na) (hV : fp_Vok Z) (hna : As.length = na) (hk : fp_lay k = (0, c)) (hn : k < n) (hq : vwCl[c]? = some q) (hqc : q.1 = Z.1.cls) (hdd : d' + 1 ≤ d) (hcr : cs + mc1 ≤ mc) (hsr : ss + ms1 ≤ ms) (hst0 : st0 = As.reverse ++ rV G k :: st) (hst : (st.map fun v => v.category).sum ≤ 8)
    (ok : fp_Okg l G d' n mc1 ms1 Z (rV G k :: As) M Q1) (kk : ∀ (r : Option Value) (M' : fp_Mem), Q1 r M' → fp_SP l G d (n + mc1) (cs + mc1) (ss + ms1) mc ms nf Y pc' LL (r.toList ++ st) M' Q) : fp_SP l G d n cs ss mc ms nf Y pc LL st0 M Q := by
  subst hp
  subst hst0
  intro p e s m args below meth c0 H locs ls C hR hL hl
  have K0 := C.2.2.2.2.2.2.2.1
  have hW := C.2.2.2.2.2.2.2.2
  have hls : ls.size = Y.2.2.1 := by obtain ⟨lv, h, -⟩ := hl; exact h.1
  obtain ⟨q', hq', cell, q1, q2, q3, q4⟩ := fp_obj hR hn hk
  have hrec : ∃ cellB : Cell, H[fp_b G + k]? = some cellB ∧ cellB.vm.isStatics = false ∧ s.vm.findClass Z.1.cls = some cellB.cls := ⟨cell, q1, by rw [q3]; rfl, by rw [q2, ← hqc]; exact (fp_kn K0 hW hq).2.1⟩
  refine fp_after (rest := st) C hL hl (va_runV (Ts := []) (nL := Y.2.2.1) (As := As) (rest := st) (C := Z.1.cls) ⟨C.1, C.2.1, C.2.2.1, C.2.2.2.1, fun w h => by cases h⟩ ok ⟨fp_callB K0 hW hZ (fp_word K0 hW hlk rfl) hdd, fp_word K0 hW hV.1 rfl, fp_word K0 hW hV.2 rfl⟩ ⟨fp_blind, hrec, fun U hU hWU => ⟨rfl, by rw [hU]; exact hR, K0, State.WarmedH.trans hW hWU⟩⟩ rfl hna hls rfl (lv_room hst) hd ⟨hcr, hsr⟩) kk
theorem SP.callS {Z : fp_MR} {idx d' mc1 ms1 na : Nat} {As : List Value} {Q1 : fp_Q} {st0 : List Value} (hd : decode Y.2.1 pc = .ok (.invokestatic idx, 3)) (hp : pc + 3 = pc') (hlk : Cond.methodLink Y.1.cls idx Z.1 ∈ lw_tbl) (hZ : fp_Mok Z na) (hV : Cond.static Z.1 ∈ lw_tbl) (hna : As.length = na) (hdd : d' + 1 ≤ d) (hcr : cs + mc1 ≤ mc) (hsr : ss + ms1 ≤ ms) (hst0 : st0 = As.reverse ++ st) (hst : (st.map fun v => v.category).sum ≤ 8)
    (ok : fp_Okg l G d' n mc1 ms1 Z As M Q1) (kk : ∀ (r : Option Value) (M' : fp_Mem), Q1 r M' → fp_SP l G d (n + mc1) (cs + mc1) (ss + ms1) mc ms nf Y pc' LL (r.toList ++ st) M' Q) : fp_SP l G d n cs ss mc ms nf Y pc LL st0 M Q := by
  subst hp
  subst hst0
  intro p e s m args below meth c0 H locs ls C hR hL hl
  have K0 := C.2.2.2.2.2.2.2.1
  have hW := C.2.2.2.2.2.2.2.2
  have hls : ls.size = Y.2.2.1 := by obtain ⟨lv, h, -⟩ := hl; exact h.1
  refine fp_after (rest := st) C hL hl (va_runS (Ts := []) (nL := Y.2.2.1) (As := As) (rest := st) ⟨C.1, C.2.1, C.2.2.1, C.2.2.2.1, fun w h => by cases h⟩ ok ⟨fp_callB K0 hW hZ (fp_word K0 hW hlk rfl) hdd, fp_word K0 hW hV rfl⟩ ⟨fp_blind, fun U hU hWU => ⟨rfl, by rw [hU]; exact hR, K0, State.WarmedH.trans hW hWU⟩⟩ rfl hna hls rfl (lv_room hst) hd ⟨hcr, hsr⟩) kk
theorem SP.callI {Z : fp_MR} {idx k d' mc1 ms1 na : Nat} {As : List Value} {Q1 : fp_Q} {st0 : List Value} (hd : decode Y.2.1 pc = .ok (.invokespecial idx, 3)) (hp : pc + 3 = pc') (hlk : Cond.methodLink Y.1.cls idx Z.1 ∈ lw_tbl) (hZ : fp_Mok Z na) (hV : Cond.instanceMethod Z.1 ∈ lw_tbl) (hzn : Z.1.name = "<init>") (hzr : Z.2.2.2 = none) (hna : As.length = na) (hdd : d' + 1 ≤ d) (hcr : cs + mc1 ≤ mc) (hsr : ss + ms1 ≤ ms) (hst0 : st0 = As.reverse ++ rV G k :: st) (hst : (st.map fun v => v.category).sum ≤ 8)
    (ok : fp_Okg l G d' n mc1 ms1 Z (rV G k :: As) M Q1) (kk : ∀ (r : Option Value) (M' : fp_Mem), Q1 r M' → fp_SP l G d (n + mc1) (cs + mc1) (ss + ms1) mc ms nf Y pc' LL (r.toList ++ st) M' Q) : fp_SP l G d n cs ss mc ms nf Y pc LL st0 M Q := by
  subst hp
  subst hst0
  intro p e s m args below meth c0 H locs ls C hR hL hl
  have K0 := C.2.2.2.2.2.2.2.1
  have hW := C.2.2.2.2.2.2.2.2
  have hls : ls.size = Y.2.2.1 := by obtain ⟨lv, h, -⟩ := hl; exact h.1
  have hcb := fp_callB (mc := mc1) (ms := ms1) (mc0 := mc) (ms0 := ms) K0 hW hZ (fp_word (args := args) K0 hW hlk rfl) hdd
  rw [hzr] at hcb
  have ok' := ok
  unfold fp_Okg at ok'
  rw [hzr] at ok'
  refine fp_after (rest := st) C hL hl (va_runI (Ts := []) (nL := Y.2.2.1) (As := As) (rest := st) ⟨C.1, C.2.1, C.2.2.1, C.2.2.2.1, fun w h => by cases h⟩ ok' ⟨hcb, hzn, fp_word K0 hW hV rfl⟩ ⟨fp_blind, fun U hU hWU => ⟨rfl, by rw [hU]; exact hR, K0, State.WarmedH.trans hW hWU⟩⟩ rfl hna hls rfl (lv_room hst) hd ⟨hcr, hsr⟩) kk
/-- a nest mate's own: static, or a constructor -/
theorem fp_callN {s : State} {args : Array Value} {d d' mc ms k idx mc0 ms0 : Nat} {own host : String} {Z : fp_MR} (K : fp_K0 G) (hW : G.2.1.WarmedH s.vm) (hZ : fp_Mok Z k) (hlk : Cond.methodLinkNest own idx Z.1 host ∈ lw_tbl) (hd : d' + 1 ≤ d) : va_CN (fp_rm d mc0 ms0) s args own idx Z.1 host Z.2.1 Z.2.2.1 Z.2.2.2 [.code Z.1 Z.2.1 Z.2.2.1 Z.2.2.2] (fp_rm d' mc ms) mc ms k := by
  obtain ⟨h1, h2, h3, h4, h5, h6⟩ := hZ
  refine ⟨⟨rfl, rfl, hd, ?_, ?_, List.mem_cons_self⟩, fp_word K hW h1 rfl, fp_word K hW h2 rfl, ⟨h3, h4⟩, fun sig h => ?_, va_Nw.use rfl (fp_nestM K hW hlk)⟩
  · show 8 + (Z.2.2.1 + 11) + 40 * d' ≤ 40 * d
    omega
  · intro w hw a' U hWU
    simp only [List.mem_singleton] at hw
    subst hw
    exact fp_word K (State.WarmedH.trans hW hWU) h1 rfl
  · rw [h] at h5
    simpa using h5.symm
theorem SP.callSN {Z : fp_MR} {idx d' mc1 ms1 na : Nat} {host : String} {As : List Value} {Q1 : fp_Q} {st0 : List Value} (hd : decode Y.2.1 pc = .ok (.invokestatic idx, 3)) (hp : pc + 3 = pc') (hlk : Cond.methodLinkNest Y.1.cls idx Z.1 host ∈ lw_tbl) (hZ : fp_Mok Z na) (hV : Cond.static Z.1 ∈ lw_tbl) (hna : As.length = na) (hdd : d' + 1 ≤ d) (hcr : cs + mc1 ≤ mc) (hsr : ss + ms1 ≤ ms) (hst0 : st0 = As.reverse ++ st) (hst : (st.map fun v => v.category).sum ≤ 8)
    (ok : fp_Okg l G d' n mc1 ms1 Z As M Q1) (kk : ∀ (r : Option Value) (M' : fp_Mem), Q1 r M' → fp_SP l G d (n + mc1) (cs + mc1) (ss + ms1) mc ms nf Y pc' LL (r.toList ++ st) M' Q) : fp_SP l G d n cs ss mc ms nf Y pc LL st0 M Q := by
  subst hp
  subst hst0
  intro p e s m args below meth c0 H locs ls C hR hL hl
  have K0 := C.2.2.2.2.2.2.2.1
  have hW := C.2.2.2.2.2.2.2.2
  have hls : ls.size = Y.2.2.1 := by obtain ⟨lv, h, -⟩ := hl; exact h.1
  refine fp_after (rest := st) C hL hl (va_runSN (Ts := []) (nL := Y.2.2.1) (As := As) (rest := st) ⟨C.1, C.2.1, C.2.2.1, C.2.2.2.1, fun w h => by cases h⟩ ok ⟨fp_callN K0 hW hZ hlk hdd, fp_word K0 hW hV rfl, trivial⟩ ⟨fp_blind, fun U hU hWU => ⟨rfl, by rw [hU]; exact hR, K0, State.WarmedH.trans hW hWU⟩⟩ rfl hna hls rfl (lv_room hst) hd ⟨hcr, hsr⟩) kk
theorem SP.callIN {Z : fp_MR} {idx k d' mc1 ms1 na : Nat} {host : String} {As : List Value} {Q1 : fp_Q} {st0 : List Value} (hd : decode Y.2.1 pc = .ok (.invokespecial idx, 3)) (hp : pc + 3 = pc') (hlk : Cond.methodLinkNest Y.1.cls idx Z.1 host ∈ lw_tbl) (hZ : fp_Mok Z na) (hV : Cond.instanceMethod Z.1 ∈ lw_tbl) (hzn : Z.1.name = "<init>") (hzr : Z.2.2.2 = none) (hna : As.length = na) (hdd : d' + 1 ≤ d) (hcr : cs + mc1 ≤ mc) (hsr : ss + ms1 ≤ ms) (hst0 : st0 = As.reverse ++ rV G k :: st) (hst : (st.map fun v => v.category).sum ≤ 8)
    (ok : fp_Okg l G d' n mc1 ms1 Z (rV G k :: As) M Q1) (kk : ∀ (r : Option Value) (M' : fp_Mem), Q1 r M' → fp_SP l G d (n + mc1) (cs + mc1) (ss + ms1) mc ms nf Y pc' LL (r.toList ++ st) M' Q) : fp_SP l G d n cs ss mc ms nf Y pc LL st0 M Q := by
  subst hp
  subst hst0
  intro p e s m args below meth c0 H locs ls C hR hL hl
  have K0 := C.2.2.2.2.2.2.2.1
  have hW := C.2.2.2.2.2.2.2.2
  have hls : ls.size = Y.2.2.1 := by obtain ⟨lv, h, -⟩ := hl; exact h.1
  have hcb := fp_callN (mc := mc1) (ms := ms1) (mc0 := mc) (ms0 := ms) (args := args) K0 hW hZ hlk hdd
  rw [hzr] at hcb
  have ok' := ok
  unfold fp_Okg at ok'
  rw [hzr] at ok'
  refine fp_after (rest := st) C hL hl (va_runIN (Ts := []) (nL := Y.2.2.1) (As := As) (rest := st) ⟨C.1, C.2.1, C.2.2.1, C.2.2.2.1, fun w h => by cases h⟩ ok' ⟨hcb, hzn, fp_word K0 hW hV rfl⟩ ⟨fp_blind, fun U hU hWU => ⟨rfl, by rw [hU]; exact hR, K0, State.WarmedH.trans hW hWU⟩⟩ rfl hna hls rfl (lv_room hst) hd ⟨hcr, hsr⟩) kk
end CLR
