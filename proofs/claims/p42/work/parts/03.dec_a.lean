/-! BY PROGRAM (tools/mkdec.py): what stands at each place of the code -/
def fp_dq (c : ByteArray) (pc : Nat) (r : Instr × Nat) : Bool := decide (decode c pc = .ok r)
theorem fp_dk {c : ByteArray} {pc : Nat} {r : Instr × Nat} (h : fp_dq c pc r = true) : decode c pc = .ok r := of_decide_eq_true h
/-- the bytes from a place on -/
def bA (c : ByteArray) (pc : Nat) (l : List Nat) : Prop := (c.data.toList.map UInt8.toNat).drop pc = l
theorem bA_u1 {c : ByteArray} {pc b : Nat} {r : List Nat} (h : bA c pc (b :: r)) : (Jvm.ClassFile.Reader.u1 : Jvm.ClassFile.Decoder Nat) c pc = .ok (b, pc + 1) ∧ bA c (pc + 1) r := by
  unfold bA at h ⊢
  have hlt : pc < c.data.toList.length := by
    have h9 := congrArg List.length h
    rw [List.length_drop, List.length_map, List.length_cons] at h9
    omega
  have hsz : pc < c.size := hlt
  have hg : (c[pc]'hsz).toNat = b := by
    have h8 := congrArg (fun l => l[0]?) h
    simp only [List.getElem?_drop, Nat.add_zero, List.getElem?_cons_zero] at h8
    rw [List.getElem?_map, List.getElem?_eq_getElem hlt] at h8
    exact Option.some.inj h8
  refine ⟨?_, ?_⟩
  · show (dite (pc < c.size) (fun h => fun _ _ => Except.ok ((c[pc]'h).toNat, pc + 1)) (fun _ => fun _ _ => Except.error (Jvm.ClassFile.HasTruncated.truncated pc)) : Jvm.ClassFile.Decoder Nat) c pc = _
    rw [dif_pos hsz, hg]
  · have h9 := congrArg List.tail h
    rw [List.tail_drop] at h9
    exact h9
theorem bA_skip {c : ByteArray} {pc : Nat} {l : List Nat} (n : Nat) (h : bA c pc l) : bA c (pc + n) (l.drop n) := by
  unfold bA at h ⊢
  rw [← h, List.drop_drop]
theorem fp_rb {α β : Type} {r : Jvm.ClassFile.Decoder α} {f : α → Jvm.ClassFile.Decoder β} {c : ByteArray} {p p' : Nat} {a : α} (h : r c p = .ok (a, p')) : (r >>= f) c p = f a c p' := by
  show Except.bind (r c p) (fun x => f x.1 c x.2) = _
  rw [h]
  rfl
theorem fp_rd {c : ByteArray} {pc n k : Nat} {i : Instr} (h : (Jvm.ClassFile.Decoder.instr pc) c pc = .ok (i, n)) (hk : n - pc = k) : decode c pc = .ok (i, k) := by
  show Except.bind ((Jvm.ClassFile.Decoder.instr pc) c pc) (fun x => Except.ok (x.1, x.2 - pc)) = _
  rw [h, ← hk]
  rfl
theorem fp_rs1 {c : ByteArray} {p b p' : Nat} (h : (Jvm.ClassFile.Reader.u1 : Jvm.ClassFile.Decoder Nat) c p = .ok (b, p')) : (Jvm.ClassFile.Reader.s1 : Jvm.ClassFile.Decoder Int) c p = .ok (Jvm.ClassFile.Reader.signed 8 b, p') := by
  show Except.bind ((Jvm.ClassFile.Reader.u1 : Jvm.ClassFile.Decoder Nat) c p) (fun x => Except.ok (Jvm.ClassFile.Reader.signed 8 x.1, x.2)) = _
  rw [h]
  rfl
theorem fp_ru2 {c : ByteArray} {p b b' p' p'' : Nat} (h : (Jvm.ClassFile.Reader.u1 : Jvm.ClassFile.Decoder Nat) c p = .ok (b, p')) (h' : (Jvm.ClassFile.Reader.u1 : Jvm.ClassFile.Decoder Nat) c p' = .ok (b', p'')) : (Jvm.ClassFile.Reader.u2 : Jvm.ClassFile.Decoder Nat) c p = .ok (b * 256 + b', p'') := by
  show ((Jvm.ClassFile.Reader.u1 : Jvm.ClassFile.Decoder Nat) >>= fun hi => Jvm.ClassFile.Reader.u1 >>= fun lo => pure (hi * 256 + lo)) c p = _
  rw [fp_rb h, fp_rb h']
  rfl
theorem fp_rs2 {c : ByteArray} {p p' b : Nat} (h : (Jvm.ClassFile.Reader.u2 : Jvm.ClassFile.Decoder Nat) c p = .ok (b, p')) : (Jvm.ClassFile.Reader.s2 : Jvm.ClassFile.Decoder Int) c p = .ok (Jvm.ClassFile.Reader.signed 16 b, p') := by
  show Except.bind ((Jvm.ClassFile.Reader.u2 : Jvm.ClassFile.Decoder Nat) c p) (fun x => Except.ok (Jvm.ClassFile.Reader.signed 16 x.1, x.2)) = _
  rw [h]
  rfl
set_option maxRecDepth 8000 in
theorem fp_o2 {c : ByteArray} {pc : Nat} {r : List Nat} (h : bA c pc (2 :: r)) : decode c pc = .ok (.iconst (-1), 1) ∧ bA c (pc + 1) r := by
  have h1 := bA_u1 h
  refine ⟨fp_rd (n := pc + 1) ?_ (Nat.add_sub_cancel_left _ _), h1.2⟩
  delta Jvm.ClassFile.Decoder.instr
  refine (fp_rb h1.1).trans ?_
  rfl
set_option maxRecDepth 8000 in
theorem fp_o3 {c : ByteArray} {pc : Nat} {r : List Nat} (h : bA c pc (3 :: r)) : decode c pc = .ok (.iconst 0, 1) ∧ bA c (pc + 1) r := by
  have h1 := bA_u1 h
  refine ⟨fp_rd (n := pc + 1) ?_ (Nat.add_sub_cancel_left _ _), h1.2⟩
  delta Jvm.ClassFile.Decoder.instr
  refine (fp_rb h1.1).trans ?_
  rfl
set_option maxRecDepth 8000 in
theorem fp_o4 {c : ByteArray} {pc : Nat} {r : List Nat} (h : bA c pc (4 :: r)) : decode c pc = .ok (.iconst 1, 1) ∧ bA c (pc + 1) r := by
  have h1 := bA_u1 h
  refine ⟨fp_rd (n := pc + 1) ?_ (Nat.add_sub_cancel_left _ _), h1.2⟩
  delta Jvm.ClassFile.Decoder.instr
  refine (fp_rb h1.1).trans ?_
  rfl
set_option maxRecDepth 8000 in
theorem fp_o5 {c : ByteArray} {pc : Nat} {r : List Nat} (h : bA c pc (5 :: r)) : decode c pc = .ok (.iconst 2, 1) ∧ bA c (pc + 1) r := by
  have h1 := bA_u1 h
  refine ⟨fp_rd (n := pc + 1) ?_ (Nat.add_sub_cancel_left _ _), h1.2⟩
  delta Jvm.ClassFile.Decoder.instr
  refine (fp_rb h1.1).trans ?_
  rfl
set_option maxRecDepth 8000 in
theorem fp_o6 {c : ByteArray} {pc : Nat} {r : List Nat} (h : bA c pc (6 :: r)) : decode c pc = .ok (.iconst 3, 1) ∧ bA c (pc + 1) r := by
  have h1 := bA_u1 h
  refine ⟨fp_rd (n := pc + 1) ?_ (Nat.add_sub_cancel_left _ _), h1.2⟩
  delta Jvm.ClassFile.Decoder.instr
  refine (fp_rb h1.1).trans ?_
  rfl
set_option maxRecDepth 8000 in
theorem fp_o7 {c : ByteArray} {pc : Nat} {r : List Nat} (h : bA c pc (7 :: r)) : decode c pc = .ok (.iconst 4, 1) ∧ bA c (pc + 1) r := by
  have h1 := bA_u1 h
  refine ⟨fp_rd (n := pc + 1) ?_ (Nat.add_sub_cancel_left _ _), h1.2⟩
  delta Jvm.ClassFile.Decoder.instr
  refine (fp_rb h1.1).trans ?_
  rfl
set_option maxRecDepth 8000 in
theorem fp_o8 {c : ByteArray} {pc : Nat} {r : List Nat} (h : bA c pc (8 :: r)) : decode c pc = .ok (.iconst 5, 1) ∧ bA c (pc + 1) r := by
  have h1 := bA_u1 h
  refine ⟨fp_rd (n := pc + 1) ?_ (Nat.add_sub_cancel_left _ _), h1.2⟩
  delta Jvm.ClassFile.Decoder.instr
  refine (fp_rb h1.1).trans ?_
  rfl
set_option maxRecDepth 8000 in
theorem fp_o9 {c : ByteArray} {pc : Nat} {r : List Nat} (h : bA c pc (9 :: r)) : decode c pc = .ok (.lconst 0, 1) ∧ bA c (pc + 1) r := by
  have h1 := bA_u1 h
  refine ⟨fp_rd (n := pc + 1) ?_ (Nat.add_sub_cancel_left _ _), h1.2⟩
  delta Jvm.ClassFile.Decoder.instr
  refine (fp_rb h1.1).trans ?_
  rfl
set_option maxRecDepth 8000 in
theorem fp_o10 {c : ByteArray} {pc : Nat} {r : List Nat} (h : bA c pc (10 :: r)) : decode c pc = .ok (.lconst 1, 1) ∧ bA c (pc + 1) r := by
  have h1 := bA_u1 h
  refine ⟨fp_rd (n := pc + 1) ?_ (Nat.add_sub_cancel_left _ _), h1.2⟩
  delta Jvm.ClassFile.Decoder.instr
  refine (fp_rb h1.1).trans ?_
  rfl
set_option maxRecDepth 8000 in
theorem fp_o16 {c : ByteArray} {pc b : Nat} {v : Int} {r : List Nat} (h : bA c pc (16 :: b :: r)) (hv : Jvm.ClassFile.Reader.signed 8 b = v) : decode c pc = .ok (.bipush v, 2) ∧ bA c (pc + 2) r := by
  have h1 := bA_u1 h
  have h2 := bA_u1 h1.2
  refine ⟨fp_rd (n := pc + 2) ?_ (Nat.add_sub_cancel_left _ _), h2.2⟩
  delta Jvm.ClassFile.Decoder.instr
  refine (fp_rb h1.1).trans ?_
  show ((Jvm.ClassFile.Reader.s1 : Jvm.ClassFile.Decoder Int) >>= fun x => pure (Instr.bipush x)) c (pc + 1) = _
  rw [fp_rb (fp_rs1 h2.1), hv]
  rfl
set_option maxRecDepth 8000 in
theorem fp_o17 {c : ByteArray} {pc b b' : Nat} {v : Int} {r : List Nat} (h : bA c pc (17 :: b :: b' :: r)) (hv : Jvm.ClassFile.Reader.signed 16 (b * 256 + b') = v) : decode c pc = .ok (.sipush v, 3) ∧ bA c (pc + 3) r := by
  have h1 := bA_u1 h
  have h2 := bA_u1 h1.2
  have h3 := bA_u1 h2.2
  refine ⟨fp_rd (n := pc + 3) ?_ (Nat.add_sub_cancel_left _ _), h3.2⟩
  delta Jvm.ClassFile.Decoder.instr
  refine (fp_rb h1.1).trans ?_
  show ((Jvm.ClassFile.Reader.s2 : Jvm.ClassFile.Decoder Int) >>= fun x => pure (Instr.sipush x)) c (pc + 1) = _
  rw [fp_rb (fp_rs2 (fp_ru2 h2.1 h3.1)), hv]
  rfl
set_option maxRecDepth 8000 in
theorem fp_o18 {c : ByteArray} {pc b : Nat} {r : List Nat} (h : bA c pc (18 :: b :: r)) : decode c pc = .ok (.ldc b, 2) ∧ bA c (pc + 2) r := by
  have h1 := bA_u1 h
  have h2 := bA_u1 h1.2
  refine ⟨fp_rd (n := pc + 2) ?_ (Nat.add_sub_cancel_left _ _), h2.2⟩
  delta Jvm.ClassFile.Decoder.instr
  refine (fp_rb h1.1).trans ?_
  show ((Jvm.ClassFile.Reader.u1 : Jvm.ClassFile.Decoder Nat) >>= fun x => pure (Instr.ldc x)) c (pc + 1) = _
  rw [fp_rb h2.1]
  rfl
set_option maxRecDepth 8000 in
theorem fp_o20 {c : ByteArray} {pc b b' : Nat} {v : Nat} {r : List Nat} (h : bA c pc (20 :: b :: b' :: r)) (hv : b * 256 + b' = v) : decode c pc = .ok (.ldc2_w v, 3) ∧ bA c (pc + 3) r := by
  have h1 := bA_u1 h
  have h2 := bA_u1 h1.2
  have h3 := bA_u1 h2.2
  refine ⟨fp_rd (n := pc + 3) ?_ (Nat.add_sub_cancel_left _ _), h3.2⟩
  delta Jvm.ClassFile.Decoder.instr
  refine (fp_rb h1.1).trans ?_
  show ((Jvm.ClassFile.Reader.u2 : Jvm.ClassFile.Decoder Nat) >>= fun x => pure (Instr.ldc2_w x)) c (pc + 1) = _
  rw [fp_rb (fp_ru2 h2.1 h3.1), hv]
  rfl
set_option maxRecDepth 8000 in
theorem fp_o21 {c : ByteArray} {pc b : Nat} {r : List Nat} (h : bA c pc (21 :: b :: r)) : decode c pc = .ok (.iload b, 2) ∧ bA c (pc + 2) r := by
  have h1 := bA_u1 h
  have h2 := bA_u1 h1.2
  refine ⟨fp_rd (n := pc + 2) ?_ (Nat.add_sub_cancel_left _ _), h2.2⟩
  delta Jvm.ClassFile.Decoder.instr
  refine (fp_rb h1.1).trans ?_
  show ((Jvm.ClassFile.Reader.u1 : Jvm.ClassFile.Decoder Nat) >>= fun x => pure (Instr.iload x)) c (pc + 1) = _
  rw [fp_rb h2.1]
  rfl
set_option maxRecDepth 8000 in
theorem fp_o22 {c : ByteArray} {pc b : Nat} {r : List Nat} (h : bA c pc (22 :: b :: r)) : decode c pc = .ok (.lload b, 2) ∧ bA c (pc + 2) r := by
  have h1 := bA_u1 h
  have h2 := bA_u1 h1.2
  refine ⟨fp_rd (n := pc + 2) ?_ (Nat.add_sub_cancel_left _ _), h2.2⟩
  delta Jvm.ClassFile.Decoder.instr
  refine (fp_rb h1.1).trans ?_
  show ((Jvm.ClassFile.Reader.u1 : Jvm.ClassFile.Decoder Nat) >>= fun x => pure (Instr.lload x)) c (pc + 1) = _
  rw [fp_rb h2.1]
  rfl
set_option maxRecDepth 8000 in
theorem fp_o25 {c : ByteArray} {pc b : Nat} {r : List Nat} (h : bA c pc (25 :: b :: r)) : decode c pc = .ok (.aload b, 2) ∧ bA c (pc + 2) r := by
  have h1 := bA_u1 h
  have h2 := bA_u1 h1.2
  refine ⟨fp_rd (n := pc + 2) ?_ (Nat.add_sub_cancel_left _ _), h2.2⟩
  delta Jvm.ClassFile.Decoder.instr
  refine (fp_rb h1.1).trans ?_
  show ((Jvm.ClassFile.Reader.u1 : Jvm.ClassFile.Decoder Nat) >>= fun x => pure (Instr.aload x)) c (pc + 1) = _
  rw [fp_rb h2.1]
  rfl
set_option maxRecDepth 8000 in
theorem fp_o26 {c : ByteArray} {pc : Nat} {r : List Nat} (h : bA c pc (26 :: r)) : decode c pc = .ok (.iload_n 0, 1) ∧ bA c (pc + 1) r := by
  have h1 := bA_u1 h
  refine ⟨fp_rd (n := pc + 1) ?_ (Nat.add_sub_cancel_left _ _), h1.2⟩
  delta Jvm.ClassFile.Decoder.instr
  refine (fp_rb h1.1).trans ?_
  rfl
set_option maxRecDepth 8000 in
theorem fp_o27 {c : ByteArray} {pc : Nat} {r : List Nat} (h : bA c pc (27 :: r)) : decode c pc = .ok (.iload_n 1, 1) ∧ bA c (pc + 1) r := by
  have h1 := bA_u1 h
  refine ⟨fp_rd (n := pc + 1) ?_ (Nat.add_sub_cancel_left _ _), h1.2⟩
  delta Jvm.ClassFile.Decoder.instr
  refine (fp_rb h1.1).trans ?_
  rfl
set_option maxRecDepth 8000 in
theorem fp_o28 {c : ByteArray} {pc : Nat} {r : List Nat} (h : bA c pc (28 :: r)) : decode c pc = .ok (.iload_n 2, 1) ∧ bA c (pc + 1) r := by
  have h1 := bA_u1 h
  refine ⟨fp_rd (n := pc + 1) ?_ (Nat.add_sub_cancel_left _ _), h1.2⟩
  delta Jvm.ClassFile.Decoder.instr
  refine (fp_rb h1.1).trans ?_
  rfl
set_option maxRecDepth 8000 in
theorem fp_o29 {c : ByteArray} {pc : Nat} {r : List Nat} (h : bA c pc (29 :: r)) : decode c pc = .ok (.iload_n 3, 1) ∧ bA c (pc + 1) r := by
  have h1 := bA_u1 h
  refine ⟨fp_rd (n := pc + 1) ?_ (Nat.add_sub_cancel_left _ _), h1.2⟩
  delta Jvm.ClassFile.Decoder.instr
  refine (fp_rb h1.1).trans ?_
  rfl
set_option maxRecDepth 8000 in
theorem fp_o30 {c : ByteArray} {pc : Nat} {r : List Nat} (h : bA c pc (30 :: r)) : decode c pc = .ok (.lload_n 0, 1) ∧ bA c (pc + 1) r := by
  have h1 := bA_u1 h
  refine ⟨fp_rd (n := pc + 1) ?_ (Nat.add_sub_cancel_left _ _), h1.2⟩
  delta Jvm.ClassFile.Decoder.instr
  refine (fp_rb h1.1).trans ?_
  rfl
set_option maxRecDepth 8000 in
theorem fp_o31 {c : ByteArray} {pc : Nat} {r : List Nat} (h : bA c pc (31 :: r)) : decode c pc = .ok (.lload_n 1, 1) ∧ bA c (pc + 1) r := by
  have h1 := bA_u1 h
  refine ⟨fp_rd (n := pc + 1) ?_ (Nat.add_sub_cancel_left _ _), h1.2⟩
  delta Jvm.ClassFile.Decoder.instr
  refine (fp_rb h1.1).trans ?_
  rfl
set_option maxRecDepth 8000 in
theorem fp_o32 {c : ByteArray} {pc : Nat} {r : List Nat} (h : bA c pc (32 :: r)) : decode c pc = .ok (.lload_n 2, 1) ∧ bA c (pc + 1) r := by
  have h1 := bA_u1 h
  refine ⟨fp_rd (n := pc + 1) ?_ (Nat.add_sub_cancel_left _ _), h1.2⟩
  delta Jvm.ClassFile.Decoder.instr
  refine (fp_rb h1.1).trans ?_
  rfl
set_option maxRecDepth 8000 in
theorem fp_o42 {c : ByteArray} {pc : Nat} {r : List Nat} (h : bA c pc (42 :: r)) : decode c pc = .ok (.aload_n 0, 1) ∧ bA c (pc + 1) r := by
  have h1 := bA_u1 h
  refine ⟨fp_rd (n := pc + 1) ?_ (Nat.add_sub_cancel_left _ _), h1.2⟩
  delta Jvm.ClassFile.Decoder.instr
  refine (fp_rb h1.1).trans ?_
  rfl
set_option maxRecDepth 8000 in
theorem fp_o43 {c : ByteArray} {pc : Nat} {r : List Nat} (h : bA c pc (43 :: r)) : decode c pc = .ok (.aload_n 1, 1) ∧ bA c (pc + 1) r := by
  have h1 := bA_u1 h
  refine ⟨fp_rd (n := pc + 1) ?_ (Nat.add_sub_cancel_left _ _), h1.2⟩
  delta Jvm.ClassFile.Decoder.instr
  refine (fp_rb h1.1).trans ?_
  rfl
set_option maxRecDepth 8000 in
theorem fp_o44 {c : ByteArray} {pc : Nat} {r : List Nat} (h : bA c pc (44 :: r)) : decode c pc = .ok (.aload_n 2, 1) ∧ bA c (pc + 1) r := by
  have h1 := bA_u1 h
  refine ⟨fp_rd (n := pc + 1) ?_ (Nat.add_sub_cancel_left _ _), h1.2⟩
  delta Jvm.ClassFile.Decoder.instr
  refine (fp_rb h1.1).trans ?_
  rfl
set_option maxRecDepth 8000 in
theorem fp_o45 {c : ByteArray} {pc : Nat} {r : List Nat} (h : bA c pc (45 :: r)) : decode c pc = .ok (.aload_n 3, 1) ∧ bA c (pc + 1) r := by
  have h1 := bA_u1 h
  refine ⟨fp_rd (n := pc + 1) ?_ (Nat.add_sub_cancel_left _ _), h1.2⟩
  delta Jvm.ClassFile.Decoder.instr
  refine (fp_rb h1.1).trans ?_
  rfl
set_option maxRecDepth 8000 in
theorem fp_o46 {c : ByteArray} {pc : Nat} {r : List Nat} (h : bA c pc (46 :: r)) : decode c pc = .ok (.iaload, 1) ∧ bA c (pc + 1) r := by
  have h1 := bA_u1 h
  refine ⟨fp_rd (n := pc + 1) ?_ (Nat.add_sub_cancel_left _ _), h1.2⟩
  delta Jvm.ClassFile.Decoder.instr
  refine (fp_rb h1.1).trans ?_
  rfl
set_option maxRecDepth 8000 in
theorem fp_o47 {c : ByteArray} {pc : Nat} {r : List Nat} (h : bA c pc (47 :: r)) : decode c pc = .ok (.laload, 1) ∧ bA c (pc + 1) r := by
  have h1 := bA_u1 h
  refine ⟨fp_rd (n := pc + 1) ?_ (Nat.add_sub_cancel_left _ _), h1.2⟩
  delta Jvm.ClassFile.Decoder.instr
  refine (fp_rb h1.1).trans ?_
  rfl
set_option maxRecDepth 8000 in
theorem fp_o50 {c : ByteArray} {pc : Nat} {r : List Nat} (h : bA c pc (50 :: r)) : decode c pc = .ok (.aaload, 1) ∧ bA c (pc + 1) r := by
  have h1 := bA_u1 h
  refine ⟨fp_rd (n := pc + 1) ?_ (Nat.add_sub_cancel_left _ _), h1.2⟩
  delta Jvm.ClassFile.Decoder.instr
  refine (fp_rb h1.1).trans ?_
  rfl
set_option maxRecDepth 8000 in
theorem fp_o51 {c : ByteArray} {pc : Nat} {r : List Nat} (h : bA c pc (51 :: r)) : decode c pc = .ok (.baload, 1) ∧ bA c (pc + 1) r := by
  have h1 := bA_u1 h
  refine ⟨fp_rd (n := pc + 1) ?_ (Nat.add_sub_cancel_left _ _), h1.2⟩
  delta Jvm.ClassFile.Decoder.instr
  refine (fp_rb h1.1).trans ?_
  rfl
set_option maxRecDepth 8000 in
theorem fp_o54 {c : ByteArray} {pc b : Nat} {r : List Nat} (h : bA c pc (54 :: b :: r)) : decode c pc = .ok (.istore b, 2) ∧ bA c (pc + 2) r := by
  have h1 := bA_u1 h
  have h2 := bA_u1 h1.2
  refine ⟨fp_rd (n := pc + 2) ?_ (Nat.add_sub_cancel_left _ _), h2.2⟩
  delta Jvm.ClassFile.Decoder.instr
  refine (fp_rb h1.1).trans ?_
  show ((Jvm.ClassFile.Reader.u1 : Jvm.ClassFile.Decoder Nat) >>= fun x => pure (Instr.istore x)) c (pc + 1) = _
  rw [fp_rb h2.1]
  rfl
set_option maxRecDepth 8000 in
theorem fp_o55 {c : ByteArray} {pc b : Nat} {r : List Nat} (h : bA c pc (55 :: b :: r)) : decode c pc = .ok (.lstore b, 2) ∧ bA c (pc + 2) r := by
  have h1 := bA_u1 h
  have h2 := bA_u1 h1.2
  refine ⟨fp_rd (n := pc + 2) ?_ (Nat.add_sub_cancel_left _ _), h2.2⟩
  delta Jvm.ClassFile.Decoder.instr
  refine (fp_rb h1.1).trans ?_
  show ((Jvm.ClassFile.Reader.u1 : Jvm.ClassFile.Decoder Nat) >>= fun x => pure (Instr.lstore x)) c (pc + 1) = _
  rw [fp_rb h2.1]
  rfl
set_option maxRecDepth 8000 in
theorem fp_o58 {c : ByteArray} {pc b : Nat} {r : List Nat} (h : bA c pc (58 :: b :: r)) : decode c pc = .ok (.astore b, 2) ∧ bA c (pc + 2) r := by
  have h1 := bA_u1 h
  have h2 := bA_u1 h1.2
  refine ⟨fp_rd (n := pc + 2) ?_ (Nat.add_sub_cancel_left _ _), h2.2⟩
  delta Jvm.ClassFile.Decoder.instr
  refine (fp_rb h1.1).trans ?_
  show ((Jvm.ClassFile.Reader.u1 : Jvm.ClassFile.Decoder Nat) >>= fun x => pure (Instr.astore x)) c (pc + 1) = _
  rw [fp_rb h2.1]
  rfl
set_option maxRecDepth 8000 in
theorem fp_o60 {c : ByteArray} {pc : Nat} {r : List Nat} (h : bA c pc (60 :: r)) : decode c pc = .ok (.istore_n 1, 1) ∧ bA c (pc + 1) r := by
  have h1 := bA_u1 h
  refine ⟨fp_rd (n := pc + 1) ?_ (Nat.add_sub_cancel_left _ _), h1.2⟩
  delta Jvm.ClassFile.Decoder.instr
  refine (fp_rb h1.1).trans ?_
  rfl
set_option maxRecDepth 8000 in
theorem fp_o61 {c : ByteArray} {pc : Nat} {r : List Nat} (h : bA c pc (61 :: r)) : decode c pc = .ok (.istore_n 2, 1) ∧ bA c (pc + 1) r := by
  have h1 := bA_u1 h
  refine ⟨fp_rd (n := pc + 1) ?_ (Nat.add_sub_cancel_left _ _), h1.2⟩
  delta Jvm.ClassFile.Decoder.instr
  refine (fp_rb h1.1).trans ?_
  rfl
set_option maxRecDepth 8000 in
theorem fp_o62 {c : ByteArray} {pc : Nat} {r : List Nat} (h : bA c pc (62 :: r)) : decode c pc = .ok (.istore_n 3, 1) ∧ bA c (pc + 1) r := by
  have h1 := bA_u1 h
  refine ⟨fp_rd (n := pc + 1) ?_ (Nat.add_sub_cancel_left _ _), h1.2⟩
  delta Jvm.ClassFile.Decoder.instr
  refine (fp_rb h1.1).trans ?_
  rfl
set_option maxRecDepth 8000 in
theorem fp_o65 {c : ByteArray} {pc : Nat} {r : List Nat} (h : bA c pc (65 :: r)) : decode c pc = .ok (.lstore_n 2, 1) ∧ bA c (pc + 1) r := by
  have h1 := bA_u1 h
  refine ⟨fp_rd (n := pc + 1) ?_ (Nat.add_sub_cancel_left _ _), h1.2⟩
  delta Jvm.ClassFile.Decoder.instr
  refine (fp_rb h1.1).trans ?_
  rfl
set_option maxRecDepth 8000 in
theorem fp_o76 {c : ByteArray} {pc : Nat} {r : List Nat} (h : bA c pc (76 :: r)) : decode c pc = .ok (.astore_n 1, 1) ∧ bA c (pc + 1) r := by
  have h1 := bA_u1 h
  refine ⟨fp_rd (n := pc + 1) ?_ (Nat.add_sub_cancel_left _ _), h1.2⟩
  delta Jvm.ClassFile.Decoder.instr
  refine (fp_rb h1.1).trans ?_
  rfl
set_option maxRecDepth 8000 in
theorem fp_o77 {c : ByteArray} {pc : Nat} {r : List Nat} (h : bA c pc (77 :: r)) : decode c pc = .ok (.astore_n 2, 1) ∧ bA c (pc + 1) r := by
  have h1 := bA_u1 h
  refine ⟨fp_rd (n := pc + 1) ?_ (Nat.add_sub_cancel_left _ _), h1.2⟩
  delta Jvm.ClassFile.Decoder.instr
  refine (fp_rb h1.1).trans ?_
  rfl
set_option maxRecDepth 8000 in
theorem fp_o78 {c : ByteArray} {pc : Nat} {r : List Nat} (h : bA c pc (78 :: r)) : decode c pc = .ok (.astore_n 3, 1) ∧ bA c (pc + 1) r := by
  have h1 := bA_u1 h
  refine ⟨fp_rd (n := pc + 1) ?_ (Nat.add_sub_cancel_left _ _), h1.2⟩
  delta Jvm.ClassFile.Decoder.instr
  refine (fp_rb h1.1).trans ?_
  rfl
set_option maxRecDepth 8000 in
theorem fp_o79 {c : ByteArray} {pc : Nat} {r : List Nat} (h : bA c pc (79 :: r)) : decode c pc = .ok (.iastore, 1) ∧ bA c (pc + 1) r := by
  have h1 := bA_u1 h
  refine ⟨fp_rd (n := pc + 1) ?_ (Nat.add_sub_cancel_left _ _), h1.2⟩
  delta Jvm.ClassFile.Decoder.instr
  refine (fp_rb h1.1).trans ?_
  rfl
set_option maxRecDepth 8000 in
theorem fp_o80 {c : ByteArray} {pc : Nat} {r : List Nat} (h : bA c pc (80 :: r)) : decode c pc = .ok (.lastore, 1) ∧ bA c (pc + 1) r := by
  have h1 := bA_u1 h
  refine ⟨fp_rd (n := pc + 1) ?_ (Nat.add_sub_cancel_left _ _), h1.2⟩
  delta Jvm.ClassFile.Decoder.instr
  refine (fp_rb h1.1).trans ?_
  rfl
set_option maxRecDepth 8000 in
theorem fp_o83 {c : ByteArray} {pc : Nat} {r : List Nat} (h : bA c pc (83 :: r)) : decode c pc = .ok (.aastore, 1) ∧ bA c (pc + 1) r := by
  have h1 := bA_u1 h
  refine ⟨fp_rd (n := pc + 1) ?_ (Nat.add_sub_cancel_left _ _), h1.2⟩
  delta Jvm.ClassFile.Decoder.instr
  refine (fp_rb h1.1).trans ?_
  rfl
set_option maxRecDepth 8000 in
theorem fp_o84 {c : ByteArray} {pc : Nat} {r : List Nat} (h : bA c pc (84 :: r)) : decode c pc = .ok (.bastore, 1) ∧ bA c (pc + 1) r := by
  have h1 := bA_u1 h
  refine ⟨fp_rd (n := pc + 1) ?_ (Nat.add_sub_cancel_left _ _), h1.2⟩
  delta Jvm.ClassFile.Decoder.instr
  refine (fp_rb h1.1).trans ?_
  rfl
set_option maxRecDepth 8000 in
theorem fp_o87 {c : ByteArray} {pc : Nat} {r : List Nat} (h : bA c pc (87 :: r)) : decode c pc = .ok (.pop, 1) ∧ bA c (pc + 1) r := by
  have h1 := bA_u1 h
  refine ⟨fp_rd (n := pc + 1) ?_ (Nat.add_sub_cancel_left _ _), h1.2⟩
  delta Jvm.ClassFile.Decoder.instr
  refine (fp_rb h1.1).trans ?_
  rfl
set_option maxRecDepth 8000 in
theorem fp_o88 {c : ByteArray} {pc : Nat} {r : List Nat} (h : bA c pc (88 :: r)) : decode c pc = .ok (.pop2, 1) ∧ bA c (pc + 1) r := by
  have h1 := bA_u1 h
  refine ⟨fp_rd (n := pc + 1) ?_ (Nat.add_sub_cancel_left _ _), h1.2⟩
  delta Jvm.ClassFile.Decoder.instr
  refine (fp_rb h1.1).trans ?_
  rfl
set_option maxRecDepth 8000 in
theorem fp_o89 {c : ByteArray} {pc : Nat} {r : List Nat} (h : bA c pc (89 :: r)) : decode c pc = .ok (.dup, 1) ∧ bA c (pc + 1) r := by
  have h1 := bA_u1 h
  refine ⟨fp_rd (n := pc + 1) ?_ (Nat.add_sub_cancel_left _ _), h1.2⟩
  delta Jvm.ClassFile.Decoder.instr
  refine (fp_rb h1.1).trans ?_
  rfl
set_option maxRecDepth 8000 in
theorem fp_o92 {c : ByteArray} {pc : Nat} {r : List Nat} (h : bA c pc (92 :: r)) : decode c pc = .ok (.dup2, 1) ∧ bA c (pc + 1) r := by
  have h1 := bA_u1 h
  refine ⟨fp_rd (n := pc + 1) ?_ (Nat.add_sub_cancel_left _ _), h1.2⟩
  delta Jvm.ClassFile.Decoder.instr
  refine (fp_rb h1.1).trans ?_
  rfl
set_option maxRecDepth 8000 in
theorem fp_o96 {c : ByteArray} {pc : Nat} {r : List Nat} (h : bA c pc (96 :: r)) : decode c pc = .ok (.iadd, 1) ∧ bA c (pc + 1) r := by
  have h1 := bA_u1 h
  refine ⟨fp_rd (n := pc + 1) ?_ (Nat.add_sub_cancel_left _ _), h1.2⟩
  delta Jvm.ClassFile.Decoder.instr
  refine (fp_rb h1.1).trans ?_
  rfl
set_option maxRecDepth 8000 in
theorem fp_o97 {c : ByteArray} {pc : Nat} {r : List Nat} (h : bA c pc (97 :: r)) : decode c pc = .ok (.ladd, 1) ∧ bA c (pc + 1) r := by
  have h1 := bA_u1 h
  refine ⟨fp_rd (n := pc + 1) ?_ (Nat.add_sub_cancel_left _ _), h1.2⟩
  delta Jvm.ClassFile.Decoder.instr
  refine (fp_rb h1.1).trans ?_
  rfl
set_option maxRecDepth 8000 in
theorem fp_o100 {c : ByteArray} {pc : Nat} {r : List Nat} (h : bA c pc (100 :: r)) : decode c pc = .ok (.isub, 1) ∧ bA c (pc + 1) r := by
  have h1 := bA_u1 h
  refine ⟨fp_rd (n := pc + 1) ?_ (Nat.add_sub_cancel_left _ _), h1.2⟩
  delta Jvm.ClassFile.Decoder.instr
  refine (fp_rb h1.1).trans ?_
  rfl
set_option maxRecDepth 8000 in
theorem fp_o104 {c : ByteArray} {pc : Nat} {r : List Nat} (h : bA c pc (104 :: r)) : decode c pc = .ok (.imul, 1) ∧ bA c (pc + 1) r := by
  have h1 := bA_u1 h
  refine ⟨fp_rd (n := pc + 1) ?_ (Nat.add_sub_cancel_left _ _), h1.2⟩
  delta Jvm.ClassFile.Decoder.instr
  refine (fp_rb h1.1).trans ?_
  rfl
set_option maxRecDepth 8000 in
theorem fp_o105 {c : ByteArray} {pc : Nat} {r : List Nat} (h : bA c pc (105 :: r)) : decode c pc = .ok (.lmul, 1) ∧ bA c (pc + 1) r := by
  have h1 := bA_u1 h
  refine ⟨fp_rd (n := pc + 1) ?_ (Nat.add_sub_cancel_left _ _), h1.2⟩
  delta Jvm.ClassFile.Decoder.instr
  refine (fp_rb h1.1).trans ?_
  rfl
set_option maxRecDepth 8000 in
theorem fp_o108 {c : ByteArray} {pc : Nat} {r : List Nat} (h : bA c pc (108 :: r)) : decode c pc = .ok (.idiv, 1) ∧ bA c (pc + 1) r := by
  have h1 := bA_u1 h
  refine ⟨fp_rd (n := pc + 1) ?_ (Nat.add_sub_cancel_left _ _), h1.2⟩
  delta Jvm.ClassFile.Decoder.instr
  refine (fp_rb h1.1).trans ?_
  rfl
set_option maxRecDepth 8000 in
theorem fp_o109 {c : ByteArray} {pc : Nat} {r : List Nat} (h : bA c pc (109 :: r)) : decode c pc = .ok (.ldiv, 1) ∧ bA c (pc + 1) r := by
  have h1 := bA_u1 h
  refine ⟨fp_rd (n := pc + 1) ?_ (Nat.add_sub_cancel_left _ _), h1.2⟩
  delta Jvm.ClassFile.Decoder.instr
  refine (fp_rb h1.1).trans ?_
  rfl
set_option maxRecDepth 8000 in
theorem fp_o112 {c : ByteArray} {pc : Nat} {r : List Nat} (h : bA c pc (112 :: r)) : decode c pc = .ok (.irem, 1) ∧ bA c (pc + 1) r := by
  have h1 := bA_u1 h
  refine ⟨fp_rd (n := pc + 1) ?_ (Nat.add_sub_cancel_left _ _), h1.2⟩
  delta Jvm.ClassFile.Decoder.instr
  refine (fp_rb h1.1).trans ?_
  rfl
set_option maxRecDepth 8000 in
theorem fp_o113 {c : ByteArray} {pc : Nat} {r : List Nat} (h : bA c pc (113 :: r)) : decode c pc = .ok (.lrem, 1) ∧ bA c (pc + 1) r := by
  have h1 := bA_u1 h
  refine ⟨fp_rd (n := pc + 1) ?_ (Nat.add_sub_cancel_left _ _), h1.2⟩
  delta Jvm.ClassFile.Decoder.instr
  refine (fp_rb h1.1).trans ?_
  rfl
set_option maxRecDepth 8000 in
theorem fp_o116 {c : ByteArray} {pc : Nat} {r : List Nat} (h : bA c pc (116 :: r)) : decode c pc = .ok (.ineg, 1) ∧ bA c (pc + 1) r := by
  have h1 := bA_u1 h
  refine ⟨fp_rd (n := pc + 1) ?_ (Nat.add_sub_cancel_left _ _), h1.2⟩
  delta Jvm.ClassFile.Decoder.instr
  refine (fp_rb h1.1).trans ?_
  rfl
set_option maxRecDepth 8000 in
theorem fp_o120 {c : ByteArray} {pc : Nat} {r : List Nat} (h : bA c pc (120 :: r)) : decode c pc = .ok (.ishl, 1) ∧ bA c (pc + 1) r := by
  have h1 := bA_u1 h
  refine ⟨fp_rd (n := pc + 1) ?_ (Nat.add_sub_cancel_left _ _), h1.2⟩
  delta Jvm.ClassFile.Decoder.instr
  refine (fp_rb h1.1).trans ?_
  rfl
set_option maxRecDepth 8000 in
theorem fp_o121 {c : ByteArray} {pc : Nat} {r : List Nat} (h : bA c pc (121 :: r)) : decode c pc = .ok (.lshl, 1) ∧ bA c (pc + 1) r := by
  have h1 := bA_u1 h
  refine ⟨fp_rd (n := pc + 1) ?_ (Nat.add_sub_cancel_left _ _), h1.2⟩
  delta Jvm.ClassFile.Decoder.instr
  refine (fp_rb h1.1).trans ?_
  rfl
set_option maxRecDepth 8000 in
theorem fp_o122 {c : ByteArray} {pc : Nat} {r : List Nat} (h : bA c pc (122 :: r)) : decode c pc = .ok (.ishr, 1) ∧ bA c (pc + 1) r := by
  have h1 := bA_u1 h
  refine ⟨fp_rd (n := pc + 1) ?_ (Nat.add_sub_cancel_left _ _), h1.2⟩
  delta Jvm.ClassFile.Decoder.instr
  refine (fp_rb h1.1).trans ?_
  rfl
set_option maxRecDepth 8000 in
theorem fp_o123 {c : ByteArray} {pc : Nat} {r : List Nat} (h : bA c pc (123 :: r)) : decode c pc = .ok (.lshr, 1) ∧ bA c (pc + 1) r := by
  have h1 := bA_u1 h
  refine ⟨fp_rd (n := pc + 1) ?_ (Nat.add_sub_cancel_left _ _), h1.2⟩
  delta Jvm.ClassFile.Decoder.instr
  refine (fp_rb h1.1).trans ?_
  rfl
set_option maxRecDepth 8000 in
theorem fp_o126 {c : ByteArray} {pc : Nat} {r : List Nat} (h : bA c pc (126 :: r)) : decode c pc = .ok (.iand, 1) ∧ bA c (pc + 1) r := by
  have h1 := bA_u1 h
  refine ⟨fp_rd (n := pc + 1) ?_ (Nat.add_sub_cancel_left _ _), h1.2⟩
  delta Jvm.ClassFile.Decoder.instr
  refine (fp_rb h1.1).trans ?_
  rfl
set_option maxRecDepth 8000 in
theorem fp_o127 {c : ByteArray} {pc : Nat} {r : List Nat} (h : bA c pc (127 :: r)) : decode c pc = .ok (.land, 1) ∧ bA c (pc + 1) r := by
  have h1 := bA_u1 h
  refine ⟨fp_rd (n := pc + 1) ?_ (Nat.add_sub_cancel_left _ _), h1.2⟩
  delta Jvm.ClassFile.Decoder.instr
  refine (fp_rb h1.1).trans ?_
  rfl
set_option maxRecDepth 8000 in
theorem fp_o128 {c : ByteArray} {pc : Nat} {r : List Nat} (h : bA c pc (128 :: r)) : decode c pc = .ok (.ior, 1) ∧ bA c (pc + 1) r := by
  have h1 := bA_u1 h
  refine ⟨fp_rd (n := pc + 1) ?_ (Nat.add_sub_cancel_left _ _), h1.2⟩
  delta Jvm.ClassFile.Decoder.instr
  refine (fp_rb h1.1).trans ?_
  rfl
set_option maxRecDepth 8000 in
theorem fp_o129 {c : ByteArray} {pc : Nat} {r : List Nat} (h : bA c pc (129 :: r)) : decode c pc = .ok (.lor, 1) ∧ bA c (pc + 1) r := by
  have h1 := bA_u1 h
  refine ⟨fp_rd (n := pc + 1) ?_ (Nat.add_sub_cancel_left _ _), h1.2⟩
  delta Jvm.ClassFile.Decoder.instr
  refine (fp_rb h1.1).trans ?_
  rfl
set_option maxRecDepth 8000 in
theorem fp_o130 {c : ByteArray} {pc : Nat} {r : List Nat} (h : bA c pc (130 :: r)) : decode c pc = .ok (.ixor, 1) ∧ bA c (pc + 1) r := by
  have h1 := bA_u1 h
  refine ⟨fp_rd (n := pc + 1) ?_ (Nat.add_sub_cancel_left _ _), h1.2⟩
  delta Jvm.ClassFile.Decoder.instr
  refine (fp_rb h1.1).trans ?_
  rfl
set_option maxRecDepth 8000 in
theorem fp_o132 {c : ByteArray} {pc b b' : Nat} {v : Int} {r : List Nat} (h : bA c pc (132 :: b :: b' :: r)) (hv : Jvm.ClassFile.Reader.signed 8 b' = v) : decode c pc = .ok (.iinc b v, 3) ∧ bA c (pc + 3) r := by
  have h1 := bA_u1 h
  have h2 := bA_u1 h1.2
  have h3 := bA_u1 h2.2
  refine ⟨fp_rd (n := pc + 3) ?_ (Nat.add_sub_cancel_left _ _), h3.2⟩
  delta Jvm.ClassFile.Decoder.instr
  refine (fp_rb h1.1).trans ?_
  show ((Jvm.ClassFile.Reader.u1 : Jvm.ClassFile.Decoder Nat) >>= fun x => (Jvm.ClassFile.Reader.s1 : Jvm.ClassFile.Decoder Int) >>= fun y => pure (Instr.iinc x y)) c (pc + 1) = _
  rw [fp_rb h2.1, fp_rb (fp_rs1 h3.1), hv]
  rfl
set_option maxRecDepth 8000 in
theorem fp_o133 {c : ByteArray} {pc : Nat} {r : List Nat} (h : bA c pc (133 :: r)) : decode c pc = .ok (.i2l, 1) ∧ bA c (pc + 1) r := by
  have h1 := bA_u1 h
  refine ⟨fp_rd (n := pc + 1) ?_ (Nat.add_sub_cancel_left _ _), h1.2⟩
  delta Jvm.ClassFile.Decoder.instr
  refine (fp_rb h1.1).trans ?_
  rfl
set_option maxRecDepth 8000 in
theorem fp_o136 {c : ByteArray} {pc : Nat} {r : List Nat} (h : bA c pc (136 :: r)) : decode c pc = .ok (.l2i, 1) ∧ bA c (pc + 1) r := by
  have h1 := bA_u1 h
  refine ⟨fp_rd (n := pc + 1) ?_ (Nat.add_sub_cancel_left _ _), h1.2⟩
  delta Jvm.ClassFile.Decoder.instr
  refine (fp_rb h1.1).trans ?_
  rfl
set_option maxRecDepth 8000 in
theorem fp_o145 {c : ByteArray} {pc : Nat} {r : List Nat} (h : bA c pc (145 :: r)) : decode c pc = .ok (.i2b, 1) ∧ bA c (pc + 1) r := by
  have h1 := bA_u1 h
  refine ⟨fp_rd (n := pc + 1) ?_ (Nat.add_sub_cancel_left _ _), h1.2⟩
  delta Jvm.ClassFile.Decoder.instr
  refine (fp_rb h1.1).trans ?_
  rfl
set_option maxRecDepth 8000 in
theorem fp_o146 {c : ByteArray} {pc : Nat} {r : List Nat} (h : bA c pc (146 :: r)) : decode c pc = .ok (.i2c, 1) ∧ bA c (pc + 1) r := by
  have h1 := bA_u1 h
  refine ⟨fp_rd (n := pc + 1) ?_ (Nat.add_sub_cancel_left _ _), h1.2⟩
  delta Jvm.ClassFile.Decoder.instr
  refine (fp_rb h1.1).trans ?_
  rfl
set_option maxRecDepth 8000 in
theorem fp_o147 {c : ByteArray} {pc : Nat} {r : List Nat} (h : bA c pc (147 :: r)) : decode c pc = .ok (.i2s, 1) ∧ bA c (pc + 1) r := by
  have h1 := bA_u1 h
  refine ⟨fp_rd (n := pc + 1) ?_ (Nat.add_sub_cancel_left _ _), h1.2⟩
  delta Jvm.ClassFile.Decoder.instr
  refine (fp_rb h1.1).trans ?_
  rfl
set_option maxRecDepth 8000 in
theorem fp_o148 {c : ByteArray} {pc : Nat} {r : List Nat} (h : bA c pc (148 :: r)) : decode c pc = .ok (.lcmp, 1) ∧ bA c (pc + 1) r := by
  have h1 := bA_u1 h
  refine ⟨fp_rd (n := pc + 1) ?_ (Nat.add_sub_cancel_left _ _), h1.2⟩
  delta Jvm.ClassFile.Decoder.instr
  refine (fp_rb h1.1).trans ?_
  rfl
set_option maxRecDepth 8000 in
theorem fp_o153 {c : ByteArray} {pc b b' : Nat} {v : Int} {r : List Nat} (h : bA c pc (153 :: b :: b' :: r)) (hv : Jvm.ClassFile.Reader.signed 16 (b * 256 + b') = v) : decode c pc = .ok (.ifCond .eq v, 3) ∧ bA c (pc + 3) r := by
  have h1 := bA_u1 h
  have h2 := bA_u1 h1.2
  have h3 := bA_u1 h2.2
  refine ⟨fp_rd (n := pc + 3) ?_ (Nat.add_sub_cancel_left _ _), h3.2⟩
  delta Jvm.ClassFile.Decoder.instr
  refine (fp_rb h1.1).trans ?_
  show ((Jvm.ClassFile.Reader.s2 : Jvm.ClassFile.Decoder Int) >>= fun x => pure (Instr.ifCond .eq x)) c (pc + 1) = _
  rw [fp_rb (fp_rs2 (fp_ru2 h2.1 h3.1)), hv]
  rfl
set_option maxRecDepth 8000 in
theorem fp_o154 {c : ByteArray} {pc b b' : Nat} {v : Int} {r : List Nat} (h : bA c pc (154 :: b :: b' :: r)) (hv : Jvm.ClassFile.Reader.signed 16 (b * 256 + b') = v) : decode c pc = .ok (.ifCond .ne v, 3) ∧ bA c (pc + 3) r := by
  have h1 := bA_u1 h
  have h2 := bA_u1 h1.2
  have h3 := bA_u1 h2.2
  refine ⟨fp_rd (n := pc + 3) ?_ (Nat.add_sub_cancel_left _ _), h3.2⟩
  delta Jvm.ClassFile.Decoder.instr
  refine (fp_rb h1.1).trans ?_
  show ((Jvm.ClassFile.Reader.s2 : Jvm.ClassFile.Decoder Int) >>= fun x => pure (Instr.ifCond .ne x)) c (pc + 1) = _
  rw [fp_rb (fp_rs2 (fp_ru2 h2.1 h3.1)), hv]
  rfl
set_option maxRecDepth 8000 in
theorem fp_o155 {c : ByteArray} {pc b b' : Nat} {v : Int} {r : List Nat} (h : bA c pc (155 :: b :: b' :: r)) (hv : Jvm.ClassFile.Reader.signed 16 (b * 256 + b') = v) : decode c pc = .ok (.ifCond .lt v, 3) ∧ bA c (pc + 3) r := by
  have h1 := bA_u1 h
  have h2 := bA_u1 h1.2
  have h3 := bA_u1 h2.2
  refine ⟨fp_rd (n := pc + 3) ?_ (Nat.add_sub_cancel_left _ _), h3.2⟩
  delta Jvm.ClassFile.Decoder.instr
  refine (fp_rb h1.1).trans ?_
  show ((Jvm.ClassFile.Reader.s2 : Jvm.ClassFile.Decoder Int) >>= fun x => pure (Instr.ifCond .lt x)) c (pc + 1) = _
  rw [fp_rb (fp_rs2 (fp_ru2 h2.1 h3.1)), hv]
  rfl
set_option maxRecDepth 8000 in
theorem fp_o156 {c : ByteArray} {pc b b' : Nat} {v : Int} {r : List Nat} (h : bA c pc (156 :: b :: b' :: r)) (hv : Jvm.ClassFile.Reader.signed 16 (b * 256 + b') = v) : decode c pc = .ok (.ifCond .ge v, 3) ∧ bA c (pc + 3) r := by
  have h1 := bA_u1 h
  have h2 := bA_u1 h1.2
  have h3 := bA_u1 h2.2
  refine ⟨fp_rd (n := pc + 3) ?_ (Nat.add_sub_cancel_left _ _), h3.2⟩
  delta Jvm.ClassFile.Decoder.instr
  refine (fp_rb h1.1).trans ?_
  show ((Jvm.ClassFile.Reader.s2 : Jvm.ClassFile.Decoder Int) >>= fun x => pure (Instr.ifCond .ge x)) c (pc + 1) = _
  rw [fp_rb (fp_rs2 (fp_ru2 h2.1 h3.1)), hv]
  rfl
set_option maxRecDepth 8000 in
theorem fp_o157 {c : ByteArray} {pc b b' : Nat} {v : Int} {r : List Nat} (h : bA c pc (157 :: b :: b' :: r)) (hv : Jvm.ClassFile.Reader.signed 16 (b * 256 + b') = v) : decode c pc = .ok (.ifCond .gt v, 3) ∧ bA c (pc + 3) r := by
  have h1 := bA_u1 h
  have h2 := bA_u1 h1.2
  have h3 := bA_u1 h2.2
  refine ⟨fp_rd (n := pc + 3) ?_ (Nat.add_sub_cancel_left _ _), h3.2⟩
  delta Jvm.ClassFile.Decoder.instr
  refine (fp_rb h1.1).trans ?_
  show ((Jvm.ClassFile.Reader.s2 : Jvm.ClassFile.Decoder Int) >>= fun x => pure (Instr.ifCond .gt x)) c (pc + 1) = _
  rw [fp_rb (fp_rs2 (fp_ru2 h2.1 h3.1)), hv]
  rfl
set_option maxRecDepth 8000 in
theorem fp_o158 {c : ByteArray} {pc b b' : Nat} {v : Int} {r : List Nat} (h : bA c pc (158 :: b :: b' :: r)) (hv : Jvm.ClassFile.Reader.signed 16 (b * 256 + b') = v) : decode c pc = .ok (.ifCond .le v, 3) ∧ bA c (pc + 3) r := by
  have h1 := bA_u1 h
  have h2 := bA_u1 h1.2
  have h3 := bA_u1 h2.2
  refine ⟨fp_rd (n := pc + 3) ?_ (Nat.add_sub_cancel_left _ _), h3.2⟩
  delta Jvm.ClassFile.Decoder.instr
  refine (fp_rb h1.1).trans ?_
  show ((Jvm.ClassFile.Reader.s2 : Jvm.ClassFile.Decoder Int) >>= fun x => pure (Instr.ifCond .le x)) c (pc + 1) = _
  rw [fp_rb (fp_rs2 (fp_ru2 h2.1 h3.1)), hv]
  rfl
set_option maxRecDepth 8000 in
theorem fp_o159 {c : ByteArray} {pc b b' : Nat} {v : Int} {r : List Nat} (h : bA c pc (159 :: b :: b' :: r)) (hv : Jvm.ClassFile.Reader.signed 16 (b * 256 + b') = v) : decode c pc = .ok (.if_icmp .eq v, 3) ∧ bA c (pc + 3) r := by
  have h1 := bA_u1 h
  have h2 := bA_u1 h1.2
  have h3 := bA_u1 h2.2
  refine ⟨fp_rd (n := pc + 3) ?_ (Nat.add_sub_cancel_left _ _), h3.2⟩
  delta Jvm.ClassFile.Decoder.instr
  refine (fp_rb h1.1).trans ?_
  show ((Jvm.ClassFile.Reader.s2 : Jvm.ClassFile.Decoder Int) >>= fun x => pure (Instr.if_icmp .eq x)) c (pc + 1) = _
  rw [fp_rb (fp_rs2 (fp_ru2 h2.1 h3.1)), hv]
  rfl
set_option maxRecDepth 8000 in
theorem fp_o160 {c : ByteArray} {pc b b' : Nat} {v : Int} {r : List Nat} (h : bA c pc (160 :: b :: b' :: r)) (hv : Jvm.ClassFile.Reader.signed 16 (b * 256 + b') = v) : decode c pc = .ok (.if_icmp .ne v, 3) ∧ bA c (pc + 3) r := by
  have h1 := bA_u1 h
  have h2 := bA_u1 h1.2
  have h3 := bA_u1 h2.2
  refine ⟨fp_rd (n := pc + 3) ?_ (Nat.add_sub_cancel_left _ _), h3.2⟩
  delta Jvm.ClassFile.Decoder.instr
  refine (fp_rb h1.1).trans ?_
  show ((Jvm.ClassFile.Reader.s2 : Jvm.ClassFile.Decoder Int) >>= fun x => pure (Instr.if_icmp .ne x)) c (pc + 1) = _
  rw [fp_rb (fp_rs2 (fp_ru2 h2.1 h3.1)), hv]
  rfl
set_option maxRecDepth 8000 in
theorem fp_o161 {c : ByteArray} {pc b b' : Nat} {v : Int} {r : List Nat} (h : bA c pc (161 :: b :: b' :: r)) (hv : Jvm.ClassFile.Reader.signed 16 (b * 256 + b') = v) : decode c pc = .ok (.if_icmp .lt v, 3) ∧ bA c (pc + 3) r := by
  have h1 := bA_u1 h
  have h2 := bA_u1 h1.2
  have h3 := bA_u1 h2.2
  refine ⟨fp_rd (n := pc + 3) ?_ (Nat.add_sub_cancel_left _ _), h3.2⟩
  delta Jvm.ClassFile.Decoder.instr
  refine (fp_rb h1.1).trans ?_
  show ((Jvm.ClassFile.Reader.s2 : Jvm.ClassFile.Decoder Int) >>= fun x => pure (Instr.if_icmp .lt x)) c (pc + 1) = _
  rw [fp_rb (fp_rs2 (fp_ru2 h2.1 h3.1)), hv]
  rfl
set_option maxRecDepth 8000 in
theorem fp_o162 {c : ByteArray} {pc b b' : Nat} {v : Int} {r : List Nat} (h : bA c pc (162 :: b :: b' :: r)) (hv : Jvm.ClassFile.Reader.signed 16 (b * 256 + b') = v) : decode c pc = .ok (.if_icmp .ge v, 3) ∧ bA c (pc + 3) r := by
  have h1 := bA_u1 h
  have h2 := bA_u1 h1.2
  have h3 := bA_u1 h2.2
  refine ⟨fp_rd (n := pc + 3) ?_ (Nat.add_sub_cancel_left _ _), h3.2⟩
  delta Jvm.ClassFile.Decoder.instr
  refine (fp_rb h1.1).trans ?_
  show ((Jvm.ClassFile.Reader.s2 : Jvm.ClassFile.Decoder Int) >>= fun x => pure (Instr.if_icmp .ge x)) c (pc + 1) = _
  rw [fp_rb (fp_rs2 (fp_ru2 h2.1 h3.1)), hv]
  rfl
set_option maxRecDepth 8000 in
theorem fp_o163 {c : ByteArray} {pc b b' : Nat} {v : Int} {r : List Nat} (h : bA c pc (163 :: b :: b' :: r)) (hv : Jvm.ClassFile.Reader.signed 16 (b * 256 + b') = v) : decode c pc = .ok (.if_icmp .gt v, 3) ∧ bA c (pc + 3) r := by
  have h1 := bA_u1 h
  have h2 := bA_u1 h1.2
  have h3 := bA_u1 h2.2
  refine ⟨fp_rd (n := pc + 3) ?_ (Nat.add_sub_cancel_left _ _), h3.2⟩
  delta Jvm.ClassFile.Decoder.instr
  refine (fp_rb h1.1).trans ?_
  show ((Jvm.ClassFile.Reader.s2 : Jvm.ClassFile.Decoder Int) >>= fun x => pure (Instr.if_icmp .gt x)) c (pc + 1) = _
  rw [fp_rb (fp_rs2 (fp_ru2 h2.1 h3.1)), hv]
  rfl
set_option maxRecDepth 8000 in
theorem fp_o164 {c : ByteArray} {pc b b' : Nat} {v : Int} {r : List Nat} (h : bA c pc (164 :: b :: b' :: r)) (hv : Jvm.ClassFile.Reader.signed 16 (b * 256 + b') = v) : decode c pc = .ok (.if_icmp .le v, 3) ∧ bA c (pc + 3) r := by
  have h1 := bA_u1 h
  have h2 := bA_u1 h1.2
  have h3 := bA_u1 h2.2
  refine ⟨fp_rd (n := pc + 3) ?_ (Nat.add_sub_cancel_left _ _), h3.2⟩
  delta Jvm.ClassFile.Decoder.instr
  refine (fp_rb h1.1).trans ?_
  show ((Jvm.ClassFile.Reader.s2 : Jvm.ClassFile.Decoder Int) >>= fun x => pure (Instr.if_icmp .le x)) c (pc + 1) = _
  rw [fp_rb (fp_rs2 (fp_ru2 h2.1 h3.1)), hv]
  rfl
set_option maxRecDepth 8000 in
theorem fp_o167 {c : ByteArray} {pc b b' : Nat} {v : Int} {r : List Nat} (h : bA c pc (167 :: b :: b' :: r)) (hv : Jvm.ClassFile.Reader.signed 16 (b * 256 + b') = v) : decode c pc = .ok (.goto v, 3) ∧ bA c (pc + 3) r := by
  have h1 := bA_u1 h
  have h2 := bA_u1 h1.2
  have h3 := bA_u1 h2.2
  refine ⟨fp_rd (n := pc + 3) ?_ (Nat.add_sub_cancel_left _ _), h3.2⟩
  delta Jvm.ClassFile.Decoder.instr
  refine (fp_rb h1.1).trans ?_
  show ((Jvm.ClassFile.Reader.s2 : Jvm.ClassFile.Decoder Int) >>= fun x => pure (Instr.goto x)) c (pc + 1) = _
  rw [fp_rb (fp_rs2 (fp_ru2 h2.1 h3.1)), hv]
  rfl
set_option maxRecDepth 8000 in
theorem fp_o172 {c : ByteArray} {pc : Nat} {r : List Nat} (h : bA c pc (172 :: r)) : decode c pc = .ok (.ireturn, 1) ∧ bA c (pc + 1) r := by
  have h1 := bA_u1 h
  refine ⟨fp_rd (n := pc + 1) ?_ (Nat.add_sub_cancel_left _ _), h1.2⟩
  delta Jvm.ClassFile.Decoder.instr
  refine (fp_rb h1.1).trans ?_
  rfl
set_option maxRecDepth 8000 in
theorem fp_o173 {c : ByteArray} {pc : Nat} {r : List Nat} (h : bA c pc (173 :: r)) : decode c pc = .ok (.lreturn, 1) ∧ bA c (pc + 1) r := by
  have h1 := bA_u1 h
  refine ⟨fp_rd (n := pc + 1) ?_ (Nat.add_sub_cancel_left _ _), h1.2⟩
  delta Jvm.ClassFile.Decoder.instr
  refine (fp_rb h1.1).trans ?_
  rfl
set_option maxRecDepth 8000 in
theorem fp_o176 {c : ByteArray} {pc : Nat} {r : List Nat} (h : bA c pc (176 :: r)) : decode c pc = .ok (.areturn, 1) ∧ bA c (pc + 1) r := by
  have h1 := bA_u1 h
  refine ⟨fp_rd (n := pc + 1) ?_ (Nat.add_sub_cancel_left _ _), h1.2⟩
  delta Jvm.ClassFile.Decoder.instr
  refine (fp_rb h1.1).trans ?_
  rfl
set_option maxRecDepth 8000 in
theorem fp_o177 {c : ByteArray} {pc : Nat} {r : List Nat} (h : bA c pc (177 :: r)) : decode c pc = .ok (.return_, 1) ∧ bA c (pc + 1) r := by
  have h1 := bA_u1 h
  refine ⟨fp_rd (n := pc + 1) ?_ (Nat.add_sub_cancel_left _ _), h1.2⟩
  delta Jvm.ClassFile.Decoder.instr
  refine (fp_rb h1.1).trans ?_
  rfl
set_option maxRecDepth 8000 in
theorem fp_o178 {c : ByteArray} {pc b b' : Nat} {v : Nat} {r : List Nat} (h : bA c pc (178 :: b :: b' :: r)) (hv : b * 256 + b' = v) : decode c pc = .ok (.getstatic v, 3) ∧ bA c (pc + 3) r := by
  have h1 := bA_u1 h
  have h2 := bA_u1 h1.2
  have h3 := bA_u1 h2.2
  refine ⟨fp_rd (n := pc + 3) ?_ (Nat.add_sub_cancel_left _ _), h3.2⟩
  delta Jvm.ClassFile.Decoder.instr
  refine (fp_rb h1.1).trans ?_
  show ((Jvm.ClassFile.Reader.u2 : Jvm.ClassFile.Decoder Nat) >>= fun x => pure (Instr.getstatic x)) c (pc + 1) = _
  rw [fp_rb (fp_ru2 h2.1 h3.1), hv]
  rfl
set_option maxRecDepth 8000 in
theorem fp_o180 {c : ByteArray} {pc b b' : Nat} {v : Nat} {r : List Nat} (h : bA c pc (180 :: b :: b' :: r)) (hv : b * 256 + b' = v) : decode c pc = .ok (.getfield v, 3) ∧ bA c (pc + 3) r := by
  have h1 := bA_u1 h
  have h2 := bA_u1 h1.2
  have h3 := bA_u1 h2.2
  refine ⟨fp_rd (n := pc + 3) ?_ (Nat.add_sub_cancel_left _ _), h3.2⟩
  delta Jvm.ClassFile.Decoder.instr
  refine (fp_rb h1.1).trans ?_
  show ((Jvm.ClassFile.Reader.u2 : Jvm.ClassFile.Decoder Nat) >>= fun x => pure (Instr.getfield x)) c (pc + 1) = _
  rw [fp_rb (fp_ru2 h2.1 h3.1), hv]
  rfl
set_option maxRecDepth 8000 in
theorem fp_o181 {c : ByteArray} {pc b b' : Nat} {v : Nat} {r : List Nat} (h : bA c pc (181 :: b :: b' :: r)) (hv : b * 256 + b' = v) : decode c pc = .ok (.putfield v, 3) ∧ bA c (pc + 3) r := by
  have h1 := bA_u1 h
  have h2 := bA_u1 h1.2
  have h3 := bA_u1 h2.2
  refine ⟨fp_rd (n := pc + 3) ?_ (Nat.add_sub_cancel_left _ _), h3.2⟩
  delta Jvm.ClassFile.Decoder.instr
  refine (fp_rb h1.1).trans ?_
  show ((Jvm.ClassFile.Reader.u2 : Jvm.ClassFile.Decoder Nat) >>= fun x => pure (Instr.putfield x)) c (pc + 1) = _
  rw [fp_rb (fp_ru2 h2.1 h3.1), hv]
  rfl
set_option maxRecDepth 8000 in
theorem fp_o182 {c : ByteArray} {pc b b' : Nat} {v : Nat} {r : List Nat} (h : bA c pc (182 :: b :: b' :: r)) (hv : b * 256 + b' = v) : decode c pc = .ok (.invokevirtual v, 3) ∧ bA c (pc + 3) r := by
  have h1 := bA_u1 h
  have h2 := bA_u1 h1.2
  have h3 := bA_u1 h2.2
  refine ⟨fp_rd (n := pc + 3) ?_ (Nat.add_sub_cancel_left _ _), h3.2⟩
  delta Jvm.ClassFile.Decoder.instr
  refine (fp_rb h1.1).trans ?_
  show ((Jvm.ClassFile.Reader.u2 : Jvm.ClassFile.Decoder Nat) >>= fun x => pure (Instr.invokevirtual x)) c (pc + 1) = _
  rw [fp_rb (fp_ru2 h2.1 h3.1), hv]
  rfl
set_option maxRecDepth 8000 in
theorem fp_o183 {c : ByteArray} {pc b b' : Nat} {v : Nat} {r : List Nat} (h : bA c pc (183 :: b :: b' :: r)) (hv : b * 256 + b' = v) : decode c pc = .ok (.invokespecial v, 3) ∧ bA c (pc + 3) r := by
  have h1 := bA_u1 h
  have h2 := bA_u1 h1.2
  have h3 := bA_u1 h2.2
  refine ⟨fp_rd (n := pc + 3) ?_ (Nat.add_sub_cancel_left _ _), h3.2⟩
  delta Jvm.ClassFile.Decoder.instr
  refine (fp_rb h1.1).trans ?_
  show ((Jvm.ClassFile.Reader.u2 : Jvm.ClassFile.Decoder Nat) >>= fun x => pure (Instr.invokespecial x)) c (pc + 1) = _
  rw [fp_rb (fp_ru2 h2.1 h3.1), hv]
  rfl
set_option maxRecDepth 8000 in
theorem fp_o184 {c : ByteArray} {pc b b' : Nat} {v : Nat} {r : List Nat} (h : bA c pc (184 :: b :: b' :: r)) (hv : b * 256 + b' = v) : decode c pc = .ok (.invokestatic v, 3) ∧ bA c (pc + 3) r := by
  have h1 := bA_u1 h
  have h2 := bA_u1 h1.2
  have h3 := bA_u1 h2.2
  refine ⟨fp_rd (n := pc + 3) ?_ (Nat.add_sub_cancel_left _ _), h3.2⟩
  delta Jvm.ClassFile.Decoder.instr
  refine (fp_rb h1.1).trans ?_
  show ((Jvm.ClassFile.Reader.u2 : Jvm.ClassFile.Decoder Nat) >>= fun x => pure (Instr.invokestatic x)) c (pc + 1) = _
  rw [fp_rb (fp_ru2 h2.1 h3.1), hv]
  rfl
set_option maxRecDepth 8000 in
theorem fp_o187 {c : ByteArray} {pc b b' : Nat} {v : Nat} {r : List Nat} (h : bA c pc (187 :: b :: b' :: r)) (hv : b * 256 + b' = v) : decode c pc = .ok (.new v, 3) ∧ bA c (pc + 3) r := by
  have h1 := bA_u1 h
  have h2 := bA_u1 h1.2
  have h3 := bA_u1 h2.2
  refine ⟨fp_rd (n := pc + 3) ?_ (Nat.add_sub_cancel_left _ _), h3.2⟩
  delta Jvm.ClassFile.Decoder.instr
  refine (fp_rb h1.1).trans ?_
  show ((Jvm.ClassFile.Reader.u2 : Jvm.ClassFile.Decoder Nat) >>= fun x => pure (Instr.new x)) c (pc + 1) = _
  rw [fp_rb (fp_ru2 h2.1 h3.1), hv]
  rfl
set_option maxRecDepth 8000 in
theorem fp_o188_4 {c : ByteArray} {pc : Nat} {r : List Nat} (h : bA c pc (188 :: 4 :: r)) : decode c pc = .ok (.newarray .boolean, 2) ∧ bA c (pc + 2) r := by
  have h1 := bA_u1 h
  have h2 := bA_u1 h1.2
  refine ⟨fp_rd (n := pc + 2) ?_ (Nat.add_sub_cancel_left _ _), h2.2⟩
  delta Jvm.ClassFile.Decoder.instr
  refine (fp_rb h1.1).trans ?_
  show Jvm.ClassFile.Decoder.newarray pc c (pc + 1) = _
  delta Jvm.ClassFile.Decoder.newarray
  rw [fp_rb h2.1]
  rfl
set_option maxRecDepth 8000 in
theorem fp_o188_8 {c : ByteArray} {pc : Nat} {r : List Nat} (h : bA c pc (188 :: 8 :: r)) : decode c pc = .ok (.newarray .byte, 2) ∧ bA c (pc + 2) r := by
  have h1 := bA_u1 h
  have h2 := bA_u1 h1.2
  refine ⟨fp_rd (n := pc + 2) ?_ (Nat.add_sub_cancel_left _ _), h2.2⟩
  delta Jvm.ClassFile.Decoder.instr
  refine (fp_rb h1.1).trans ?_
  show Jvm.ClassFile.Decoder.newarray pc c (pc + 1) = _
  delta Jvm.ClassFile.Decoder.newarray
  rw [fp_rb h2.1]
  rfl
set_option maxRecDepth 8000 in
theorem fp_o188_10 {c : ByteArray} {pc : Nat} {r : List Nat} (h : bA c pc (188 :: 10 :: r)) : decode c pc = .ok (.newarray .int, 2) ∧ bA c (pc + 2) r := by
  have h1 := bA_u1 h
  have h2 := bA_u1 h1.2
  refine ⟨fp_rd (n := pc + 2) ?_ (Nat.add_sub_cancel_left _ _), h2.2⟩
  delta Jvm.ClassFile.Decoder.instr
  refine (fp_rb h1.1).trans ?_
  show Jvm.ClassFile.Decoder.newarray pc c (pc + 1) = _
  delta Jvm.ClassFile.Decoder.newarray
  rw [fp_rb h2.1]
  rfl
set_option maxRecDepth 8000 in
theorem fp_o188_11 {c : ByteArray} {pc : Nat} {r : List Nat} (h : bA c pc (188 :: 11 :: r)) : decode c pc = .ok (.newarray .long, 2) ∧ bA c (pc + 2) r := by
  have h1 := bA_u1 h
  have h2 := bA_u1 h1.2
  refine ⟨fp_rd (n := pc + 2) ?_ (Nat.add_sub_cancel_left _ _), h2.2⟩
  delta Jvm.ClassFile.Decoder.instr
  refine (fp_rb h1.1).trans ?_
  show Jvm.ClassFile.Decoder.newarray pc c (pc + 1) = _
  delta Jvm.ClassFile.Decoder.newarray
  rw [fp_rb h2.1]
  rfl
set_option maxRecDepth 8000 in
theorem fp_o189 {c : ByteArray} {pc b b' : Nat} {v : Nat} {r : List Nat} (h : bA c pc (189 :: b :: b' :: r)) (hv : b * 256 + b' = v) : decode c pc = .ok (.anewarray v, 3) ∧ bA c (pc + 3) r := by
  have h1 := bA_u1 h
  have h2 := bA_u1 h1.2
  have h3 := bA_u1 h2.2
  refine ⟨fp_rd (n := pc + 3) ?_ (Nat.add_sub_cancel_left _ _), h3.2⟩
  delta Jvm.ClassFile.Decoder.instr
  refine (fp_rb h1.1).trans ?_
  show ((Jvm.ClassFile.Reader.u2 : Jvm.ClassFile.Decoder Nat) >>= fun x => pure (Instr.anewarray x)) c (pc + 1) = _
  rw [fp_rb (fp_ru2 h2.1 h3.1), hv]
  rfl
set_option maxRecDepth 8000 in
theorem fp_o190 {c : ByteArray} {pc : Nat} {r : List Nat} (h : bA c pc (190 :: r)) : decode c pc = .ok (.arraylength, 1) ∧ bA c (pc + 1) r := by
  have h1 := bA_u1 h
  refine ⟨fp_rd (n := pc + 1) ?_ (Nat.add_sub_cancel_left _ _), h1.2⟩
  delta Jvm.ClassFile.Decoder.instr
  refine (fp_rb h1.1).trans ?_
  rfl
set_option maxRecDepth 8000 in
theorem fp_o191 {c : ByteArray} {pc : Nat} {r : List Nat} (h : bA c pc (191 :: r)) : decode c pc = .ok (.athrow, 1) ∧ bA c (pc + 1) r := by
  have h1 := bA_u1 h
  refine ⟨fp_rd (n := pc + 1) ?_ (Nat.add_sub_cancel_left _ _), h1.2⟩
  delta Jvm.ClassFile.Decoder.instr
  refine (fp_rb h1.1).trans ?_
  rfl
def fp_scX0_init_0 : List Nat := 42 :: 183 :: 0 :: 3 :: 42 :: 5 :: 188 :: 10 :: 181 :: 0 :: 9 :: 42 :: 5 :: 188 :: 10 :: 181 :: 0 :: 15 :: 42 :: 16 :: 7 :: 16 :: 8 :: 197 :: 0 :: 18 :: 2 :: 181 :: 0 :: 20 :: 42 :: 16 :: 7 :: 188 :: 10 :: 181 :: 0 :: 23 :: 177 :: []
theorem fp_bcX0_init : bA cX0_init 0 fp_scX0_init_0 := show cX0_init.data.toList.map UInt8.toNat = fp_scX0_init_0 from by decide +kernel
theorem fp_hdX0_init_0 : (((((decode cX0_init 0 = .ok (.aload_n 0, 1) ∧ decode cX0_init 1 = .ok (.invokespecial 3, 3)) ∧ decode cX0_init 4 = .ok (.aload_n 0, 1)) ∧ (decode cX0_init 5 = .ok (.iconst 2, 1) ∧ decode cX0_init 6 = .ok (.newarray .int, 2))) ∧ (((decode cX0_init 8 = .ok (.putfield 9, 3) ∧ decode cX0_init 11 = .ok (.aload_n 0, 1)) ∧ decode cX0_init 12 = .ok (.iconst 2, 1)) ∧ (decode cX0_init 13 = .ok (.newarray .int, 2) ∧ decode cX0_init 15 = .ok (.putfield 15, 3)))) ∧ ((((decode cX0_init 18 = .ok (.aload_n 0, 1) ∧ decode cX0_init 19 = .ok (.bipush 7, 2)) ∧ decode cX0_init 21 = .ok (.bipush 8, 2)) ∧ (decode cX0_init 23 = .ok (.multianewarray 18 2, 4) ∧ decode cX0_init 27 = .ok (.putfield 20, 3))) ∧ (((decode cX0_init 30 = .ok (.aload_n 0, 1) ∧ decode cX0_init 31 = .ok (.bipush 7, 2)) ∧ decode cX0_init 33 = .ok (.newarray .int, 2)) ∧ (decode cX0_init 35 = .ok (.putfield 23, 3) ∧ decode cX0_init 38 = .ok (.return_, 1))))) ∧ bA cX0_init 39 [] :=
  have q0 := fp_o42 fp_bcX0_init
  have q1 := fp_o183 (v := 3) q0.2 rfl
  have q2 := fp_o42 q1.2
  have q3 := fp_o5 q2.2
  have q4 := fp_o188_10 q3.2
  have q5 := fp_o181 (v := 9) q4.2 rfl
  have q6 := fp_o42 q5.2
  have q7 := fp_o5 q6.2
  have q8 := fp_o188_10 q7.2
  have q9 := fp_o181 (v := 15) q8.2 rfl
  have q10 := fp_o42 q9.2
  have q11 := fp_o16 (v := 7) q10.2 rfl
  have q12 := fp_o16 (v := 8) q11.2 rfl
  have q13 : decode cX0_init 23 = .ok (.multianewarray 18 2, 4) ∧ bA cX0_init 27 (181 :: 0 :: 20 :: 42 :: 16 :: 7 :: 188 :: 10 :: 181 :: 0 :: 23 :: 177 :: []) := ⟨fp_dk (by decide +kernel), bA_skip 4 q12.2⟩
  have q14 := fp_o181 (v := 20) q13.2 rfl
  have q15 := fp_o42 q14.2
  have q16 := fp_o16 (v := 7) q15.2 rfl
  have q17 := fp_o188_10 q16.2
  have q18 := fp_o181 (v := 23) q17.2 rfl
  have q19 := fp_o177 q18.2
  ⟨⟨⟨⟨⟨⟨q0.1, q1.1⟩, q2.1⟩, ⟨q3.1, q4.1⟩⟩, ⟨⟨⟨q5.1, q6.1⟩, q7.1⟩, ⟨q8.1, q9.1⟩⟩⟩, ⟨⟨⟨⟨q10.1, q11.1⟩, q12.1⟩, ⟨q13.1, q14.1⟩⟩, ⟨⟨⟨q15.1, q16.1⟩, q17.1⟩, ⟨q18.1, q19.1⟩⟩⟩⟩, q19.2⟩
theorem dX0_init_0 : decode cX0_init 0 = .ok (.aload_n 0, 1) := fp_hdX0_init_0.1.1.1.1.1.1
theorem dX0_init_1 : decode cX0_init 1 = .ok (.invokespecial 3, 3) := fp_hdX0_init_0.1.1.1.1.1.2
theorem dX0_init_4 : decode cX0_init 4 = .ok (.aload_n 0, 1) := fp_hdX0_init_0.1.1.1.1.2
theorem dX0_init_5 : decode cX0_init 5 = .ok (.iconst 2, 1) := fp_hdX0_init_0.1.1.1.2.1
theorem dX0_init_6 : decode cX0_init 6 = .ok (.newarray .int, 2) := fp_hdX0_init_0.1.1.1.2.2
theorem dX0_init_8 : decode cX0_init 8 = .ok (.putfield 9, 3) := fp_hdX0_init_0.1.1.2.1.1.1
theorem dX0_init_11 : decode cX0_init 11 = .ok (.aload_n 0, 1) := fp_hdX0_init_0.1.1.2.1.1.2
theorem dX0_init_12 : decode cX0_init 12 = .ok (.iconst 2, 1) := fp_hdX0_init_0.1.1.2.1.2
theorem dX0_init_13 : decode cX0_init 13 = .ok (.newarray .int, 2) := fp_hdX0_init_0.1.1.2.2.1
theorem dX0_init_15 : decode cX0_init 15 = .ok (.putfield 15, 3) := fp_hdX0_init_0.1.1.2.2.2
theorem dX0_init_18 : decode cX0_init 18 = .ok (.aload_n 0, 1) := fp_hdX0_init_0.1.2.1.1.1.1
theorem dX0_init_19 : decode cX0_init 19 = .ok (.bipush 7, 2) := fp_hdX0_init_0.1.2.1.1.1.2
theorem dX0_init_21 : decode cX0_init 21 = .ok (.bipush 8, 2) := fp_hdX0_init_0.1.2.1.1.2
theorem dX0_init_23 : decode cX0_init 23 = .ok (.multianewarray 18 2, 4) := fp_hdX0_init_0.1.2.1.2.1
theorem dX0_init_27 : decode cX0_init 27 = .ok (.putfield 20, 3) := fp_hdX0_init_0.1.2.1.2.2
theorem dX0_init_30 : decode cX0_init 30 = .ok (.aload_n 0, 1) := fp_hdX0_init_0.1.2.2.1.1.1
theorem dX0_init_31 : decode cX0_init 31 = .ok (.bipush 7, 2) := fp_hdX0_init_0.1.2.2.1.1.2
theorem dX0_init_33 : decode cX0_init 33 = .ok (.newarray .int, 2) := fp_hdX0_init_0.1.2.2.1.2
theorem dX0_init_35 : decode cX0_init 35 = .ok (.putfield 23, 3) := fp_hdX0_init_0.1.2.2.2.1
theorem dX0_init_38 : decode cX0_init 38 = .ok (.return_, 1) := fp_hdX0_init_0.1.2.2.2.2
def fp_scX0_prepare_1 : List Nat := 3 :: 21 :: 5 :: 79 :: 42 :: 180 :: 0 :: 15 :: 4 :: 21 :: 5 :: 79 :: 42 :: 21 :: 6 :: 181 :: 0 :: 40 :: 177 :: []
def fp_scX0_prepare_0 : List Nat := 43 :: 180 :: 0 :: 26 :: 28 :: 16 :: 8 :: 104 :: 42 :: 180 :: 0 :: 20 :: 3 :: 50 :: 3 :: 16 :: 8 :: 184 :: 0 :: 31 :: 42 :: 180 :: 0 :: 23 :: 3 :: 43 :: 180 :: 0 :: 37 :: 28 :: 46 :: 79 :: 42 :: 180 :: 0 :: 9 :: 3 :: 29 :: 79 :: 42 :: 180 :: 0 :: 9 :: 4 :: 21 :: 4 :: 79 :: 42 :: 180 :: 0 :: 15 :: fp_scX0_prepare_1
theorem fp_bcX0_prepare : bA cX0_prepare 0 fp_scX0_prepare_0 := show cX0_prepare.data.toList.map UInt8.toNat = fp_scX0_prepare_0 from by decide +kernel
theorem fp_hdX0_prepare_0 : (((((decode cX0_prepare 0 = .ok (.aload_n 1, 1) ∧ decode cX0_prepare 1 = .ok (.getfield 26, 3)) ∧ (decode cX0_prepare 4 = .ok (.iload_n 2, 1) ∧ decode cX0_prepare 5 = .ok (.bipush 8, 2))) ∧ ((decode cX0_prepare 7 = .ok (.imul, 1) ∧ decode cX0_prepare 8 = .ok (.aload_n 0, 1)) ∧ (decode cX0_prepare 9 = .ok (.getfield 20, 3) ∧ decode cX0_prepare 12 = .ok (.iconst 0, 1)))) ∧ (((decode cX0_prepare 13 = .ok (.aaload, 1) ∧ decode cX0_prepare 14 = .ok (.iconst 0, 1)) ∧ (decode cX0_prepare 15 = .ok (.bipush 8, 2) ∧ decode cX0_prepare 17 = .ok (.invokestatic 31, 3))) ∧ ((decode cX0_prepare 20 = .ok (.aload_n 0, 1) ∧ decode cX0_prepare 21 = .ok (.getfield 23, 3)) ∧ (decode cX0_prepare 24 = .ok (.iconst 0, 1) ∧ decode cX0_prepare 25 = .ok (.aload_n 1, 1))))) ∧ ((((decode cX0_prepare 26 = .ok (.getfield 37, 3) ∧ decode cX0_prepare 29 = .ok (.iload_n 2, 1)) ∧ (decode cX0_prepare 30 = .ok (.iaload, 1) ∧ decode cX0_prepare 31 = .ok (.iastore, 1))) ∧ ((decode cX0_prepare 32 = .ok (.aload_n 0, 1) ∧ decode cX0_prepare 33 = .ok (.getfield 9, 3)) ∧ (decode cX0_prepare 36 = .ok (.iconst 0, 1) ∧ decode cX0_prepare 37 = .ok (.iload_n 3, 1)))) ∧ (((decode cX0_prepare 38 = .ok (.iastore, 1) ∧ decode cX0_prepare 39 = .ok (.aload_n 0, 1)) ∧ (decode cX0_prepare 40 = .ok (.getfield 9, 3) ∧ decode cX0_prepare 43 = .ok (.iconst 1, 1))) ∧ ((decode cX0_prepare 44 = .ok (.iload 4, 2) ∧ decode cX0_prepare 46 = .ok (.iastore, 1)) ∧ (decode cX0_prepare 47 = .ok (.aload_n 0, 1) ∧ decode cX0_prepare 48 = .ok (.getfield 15, 3)))))) ∧ bA cX0_prepare 51 fp_scX0_prepare_1 :=
  have q0 := fp_o43 fp_bcX0_prepare
  have q1 := fp_o180 (v := 26) q0.2 rfl
  have q2 := fp_o28 q1.2
  have q3 := fp_o16 (v := 8) q2.2 rfl
  have q4 := fp_o104 q3.2
  have q5 := fp_o42 q4.2
  have q6 := fp_o180 (v := 20) q5.2 rfl
  have q7 := fp_o3 q6.2
  have q8 := fp_o50 q7.2
  have q9 := fp_o3 q8.2
  have q10 := fp_o16 (v := 8) q9.2 rfl
  have q11 := fp_o184 (v := 31) q10.2 rfl
  have q12 := fp_o42 q11.2
  have q13 := fp_o180 (v := 23) q12.2 rfl
  have q14 := fp_o3 q13.2
  have q15 := fp_o43 q14.2
  have q16 := fp_o180 (v := 37) q15.2 rfl
  have q17 := fp_o28 q16.2
  have q18 := fp_o46 q17.2
  have q19 := fp_o79 q18.2
  have q20 := fp_o42 q19.2
  have q21 := fp_o180 (v := 9) q20.2 rfl
  have q22 := fp_o3 q21.2
  have q23 := fp_o29 q22.2
  have q24 := fp_o79 q23.2
  have q25 := fp_o42 q24.2
  have q26 := fp_o180 (v := 9) q25.2 rfl
  have q27 := fp_o4 q26.2
  have q28 := fp_o21 q27.2
  have q29 := fp_o79 q28.2
  have q30 := fp_o42 q29.2
  have q31 := fp_o180 (v := 15) q30.2 rfl
  ⟨⟨⟨⟨⟨⟨q0.1, q1.1⟩, ⟨q2.1, q3.1⟩⟩, ⟨⟨q4.1, q5.1⟩, ⟨q6.1, q7.1⟩⟩⟩, ⟨⟨⟨q8.1, q9.1⟩, ⟨q10.1, q11.1⟩⟩, ⟨⟨q12.1, q13.1⟩, ⟨q14.1, q15.1⟩⟩⟩⟩, ⟨⟨⟨⟨q16.1, q17.1⟩, ⟨q18.1, q19.1⟩⟩, ⟨⟨q20.1, q21.1⟩, ⟨q22.1, q23.1⟩⟩⟩, ⟨⟨⟨q24.1, q25.1⟩, ⟨q26.1, q27.1⟩⟩, ⟨⟨q28.1, q29.1⟩, ⟨q30.1, q31.1⟩⟩⟩⟩⟩, q31.2⟩
theorem dX0_prepare_0 : decode cX0_prepare 0 = .ok (.aload_n 1, 1) := fp_hdX0_prepare_0.1.1.1.1.1.1
theorem dX0_prepare_1 : decode cX0_prepare 1 = .ok (.getfield 26, 3) := fp_hdX0_prepare_0.1.1.1.1.1.2
theorem dX0_prepare_4 : decode cX0_prepare 4 = .ok (.iload_n 2, 1) := fp_hdX0_prepare_0.1.1.1.1.2.1
theorem dX0_prepare_5 : decode cX0_prepare 5 = .ok (.bipush 8, 2) := fp_hdX0_prepare_0.1.1.1.1.2.2
theorem dX0_prepare_7 : decode cX0_prepare 7 = .ok (.imul, 1) := fp_hdX0_prepare_0.1.1.1.2.1.1
theorem dX0_prepare_8 : decode cX0_prepare 8 = .ok (.aload_n 0, 1) := fp_hdX0_prepare_0.1.1.1.2.1.2
theorem dX0_prepare_9 : decode cX0_prepare 9 = .ok (.getfield 20, 3) := fp_hdX0_prepare_0.1.1.1.2.2.1
theorem dX0_prepare_12 : decode cX0_prepare 12 = .ok (.iconst 0, 1) := fp_hdX0_prepare_0.1.1.1.2.2.2
theorem dX0_prepare_13 : decode cX0_prepare 13 = .ok (.aaload, 1) := fp_hdX0_prepare_0.1.1.2.1.1.1
theorem dX0_prepare_14 : decode cX0_prepare 14 = .ok (.iconst 0, 1) := fp_hdX0_prepare_0.1.1.2.1.1.2
theorem dX0_prepare_15 : decode cX0_prepare 15 = .ok (.bipush 8, 2) := fp_hdX0_prepare_0.1.1.2.1.2.1
theorem dX0_prepare_17 : decode cX0_prepare 17 = .ok (.invokestatic 31, 3) := fp_hdX0_prepare_0.1.1.2.1.2.2
theorem dX0_prepare_20 : decode cX0_prepare 20 = .ok (.aload_n 0, 1) := fp_hdX0_prepare_0.1.1.2.2.1.1
theorem dX0_prepare_21 : decode cX0_prepare 21 = .ok (.getfield 23, 3) := fp_hdX0_prepare_0.1.1.2.2.1.2
theorem dX0_prepare_24 : decode cX0_prepare 24 = .ok (.iconst 0, 1) := fp_hdX0_prepare_0.1.1.2.2.2.1
theorem dX0_prepare_25 : decode cX0_prepare 25 = .ok (.aload_n 1, 1) := fp_hdX0_prepare_0.1.1.2.2.2.2
theorem dX0_prepare_26 : decode cX0_prepare 26 = .ok (.getfield 37, 3) := fp_hdX0_prepare_0.1.2.1.1.1.1
theorem dX0_prepare_29 : decode cX0_prepare 29 = .ok (.iload_n 2, 1) := fp_hdX0_prepare_0.1.2.1.1.1.2
theorem dX0_prepare_30 : decode cX0_prepare 30 = .ok (.iaload, 1) := fp_hdX0_prepare_0.1.2.1.1.2.1
theorem dX0_prepare_31 : decode cX0_prepare 31 = .ok (.iastore, 1) := fp_hdX0_prepare_0.1.2.1.1.2.2
theorem dX0_prepare_32 : decode cX0_prepare 32 = .ok (.aload_n 0, 1) := fp_hdX0_prepare_0.1.2.1.2.1.1
theorem dX0_prepare_33 : decode cX0_prepare 33 = .ok (.getfield 9, 3) := fp_hdX0_prepare_0.1.2.1.2.1.2
theorem dX0_prepare_36 : decode cX0_prepare 36 = .ok (.iconst 0, 1) := fp_hdX0_prepare_0.1.2.1.2.2.1
theorem dX0_prepare_37 : decode cX0_prepare 37 = .ok (.iload_n 3, 1) := fp_hdX0_prepare_0.1.2.1.2.2.2
theorem dX0_prepare_38 : decode cX0_prepare 38 = .ok (.iastore, 1) := fp_hdX0_prepare_0.1.2.2.1.1.1
theorem dX0_prepare_39 : decode cX0_prepare 39 = .ok (.aload_n 0, 1) := fp_hdX0_prepare_0.1.2.2.1.1.2
theorem dX0_prepare_40 : decode cX0_prepare 40 = .ok (.getfield 9, 3) := fp_hdX0_prepare_0.1.2.2.1.2.1
theorem dX0_prepare_43 : decode cX0_prepare 43 = .ok (.iconst 1, 1) := fp_hdX0_prepare_0.1.2.2.1.2.2
theorem dX0_prepare_44 : decode cX0_prepare 44 = .ok (.iload 4, 2) := fp_hdX0_prepare_0.1.2.2.2.1.1
theorem dX0_prepare_46 : decode cX0_prepare 46 = .ok (.iastore, 1) := fp_hdX0_prepare_0.1.2.2.2.1.2
theorem dX0_prepare_47 : decode cX0_prepare 47 = .ok (.aload_n 0, 1) := fp_hdX0_prepare_0.1.2.2.2.2.1
theorem dX0_prepare_48 : decode cX0_prepare 48 = .ok (.getfield 15, 3) := fp_hdX0_prepare_0.1.2.2.2.2.2
theorem fp_hdX0_prepare_51 : ((((decode cX0_prepare 51 = .ok (.iconst 0, 1) ∧ decode cX0_prepare 52 = .ok (.iload 5, 2)) ∧ decode cX0_prepare 54 = .ok (.iastore, 1)) ∧ ((decode cX0_prepare 55 = .ok (.aload_n 0, 1) ∧ decode cX0_prepare 56 = .ok (.getfield 15, 3)) ∧ decode cX0_prepare 59 = .ok (.iconst 1, 1))) ∧ (((decode cX0_prepare 60 = .ok (.iload 5, 2) ∧ decode cX0_prepare 62 = .ok (.iastore, 1)) ∧ decode cX0_prepare 63 = .ok (.aload_n 0, 1)) ∧ ((decode cX0_prepare 64 = .ok (.iload 6, 2) ∧ decode cX0_prepare 66 = .ok (.putfield 40, 3)) ∧ decode cX0_prepare 69 = .ok (.return_, 1)))) ∧ bA cX0_prepare 70 [] :=
  have q0 := fp_o3 fp_hdX0_prepare_0.2
  have q1 := fp_o21 q0.2
  have q2 := fp_o79 q1.2
  have q3 := fp_o42 q2.2
  have q4 := fp_o180 (v := 15) q3.2 rfl
  have q5 := fp_o4 q4.2
  have q6 := fp_o21 q5.2
  have q7 := fp_o79 q6.2
  have q8 := fp_o42 q7.2
  have q9 := fp_o21 q8.2
  have q10 := fp_o181 (v := 40) q9.2 rfl
  have q11 := fp_o177 q10.2
  ⟨⟨⟨⟨⟨q0.1, q1.1⟩, q2.1⟩, ⟨⟨q3.1, q4.1⟩, q5.1⟩⟩, ⟨⟨⟨q6.1, q7.1⟩, q8.1⟩, ⟨⟨q9.1, q10.1⟩, q11.1⟩⟩⟩, q11.2⟩
theorem dX0_prepare_51 : decode cX0_prepare 51 = .ok (.iconst 0, 1) := fp_hdX0_prepare_51.1.1.1.1.1
theorem dX0_prepare_52 : decode cX0_prepare 52 = .ok (.iload 5, 2) := fp_hdX0_prepare_51.1.1.1.1.2
theorem dX0_prepare_54 : decode cX0_prepare 54 = .ok (.iastore, 1) := fp_hdX0_prepare_51.1.1.1.2
theorem dX0_prepare_55 : decode cX0_prepare 55 = .ok (.aload_n 0, 1) := fp_hdX0_prepare_51.1.1.2.1.1
theorem dX0_prepare_56 : decode cX0_prepare 56 = .ok (.getfield 15, 3) := fp_hdX0_prepare_51.1.1.2.1.2
theorem dX0_prepare_59 : decode cX0_prepare 59 = .ok (.iconst 1, 1) := fp_hdX0_prepare_51.1.1.2.2
theorem dX0_prepare_60 : decode cX0_prepare 60 = .ok (.iload 5, 2) := fp_hdX0_prepare_51.1.2.1.1.1
theorem dX0_prepare_62 : decode cX0_prepare 62 = .ok (.iastore, 1) := fp_hdX0_prepare_51.1.2.1.1.2
theorem dX0_prepare_63 : decode cX0_prepare 63 = .ok (.aload_n 0, 1) := fp_hdX0_prepare_51.1.2.1.2
theorem dX0_prepare_64 : decode cX0_prepare 64 = .ok (.iload 6, 2) := fp_hdX0_prepare_51.1.2.2.1.1
theorem dX0_prepare_66 : decode cX0_prepare 66 = .ok (.putfield 40, 3) := fp_hdX0_prepare_51.1.2.2.1.2
theorem dX0_prepare_69 : decode cX0_prepare 69 = .ok (.return_, 1) := fp_hdX0_prepare_51.1.2.2.2
def fp_scX0_fight_0 : List Nat := 42 :: 43 :: 28 :: 3 :: 182 :: 0 :: 44 :: 172 :: []
theorem fp_bcX0_fight : bA cX0_fight 0 fp_scX0_fight_0 := show cX0_fight.data.toList.map UInt8.toNat = fp_scX0_fight_0 from by decide +kernel
theorem fp_hdX0_fight_0 : (((decode cX0_fight 0 = .ok (.aload_n 0, 1) ∧ decode cX0_fight 1 = .ok (.aload_n 1, 1)) ∧ decode cX0_fight 2 = .ok (.iload_n 2, 1)) ∧ ((decode cX0_fight 3 = .ok (.iconst 0, 1) ∧ decode cX0_fight 4 = .ok (.invokevirtual 44, 3)) ∧ decode cX0_fight 7 = .ok (.ireturn, 1))) ∧ bA cX0_fight 8 [] :=
  have q0 := fp_o42 fp_bcX0_fight
  have q1 := fp_o43 q0.2
  have q2 := fp_o28 q1.2
  have q3 := fp_o3 q2.2
  have q4 := fp_o182 (v := 44) q3.2 rfl
  have q5 := fp_o172 q4.2
  ⟨⟨⟨⟨q0.1, q1.1⟩, q2.1⟩, ⟨⟨q3.1, q4.1⟩, q5.1⟩⟩, q5.2⟩
theorem dX0_fight_0 : decode cX0_fight 0 = .ok (.aload_n 0, 1) := fp_hdX0_fight_0.1.1.1.1
theorem dX0_fight_1 : decode cX0_fight 1 = .ok (.aload_n 1, 1) := fp_hdX0_fight_0.1.1.1.2
theorem dX0_fight_2 : decode cX0_fight 2 = .ok (.iload_n 2, 1) := fp_hdX0_fight_0.1.1.2
theorem dX0_fight_3 : decode cX0_fight 3 = .ok (.iconst 0, 1) := fp_hdX0_fight_0.1.2.1.1
theorem dX0_fight_4 : decode cX0_fight 4 = .ok (.invokevirtual 44, 3) := fp_hdX0_fight_0.1.2.1.2
theorem dX0_fight_7 : decode cX0_fight 7 = .ok (.ireturn, 1) := fp_hdX0_fight_0.1.2.2
def fp_scX0_outcome_2 : List Nat := 21 :: 9 :: 54 :: 6 :: 42 :: 29 :: 21 :: 7 :: 182 :: 0 :: 60 :: 132 :: 7 :: 1 :: 167 :: 255 :: 156 :: 21 :: 6 :: 172 :: []
def fp_scX0_outcome_1 : List Nat := 21 :: 7 :: 29 :: 21 :: 4 :: 182 :: 0 :: 52 :: 54 :: 8 :: 21 :: 8 :: 42 :: 43 :: 28 :: 29 :: 4 :: 96 :: 182 :: 0 :: 44 :: 96 :: 54 :: 9 :: 42 :: 21 :: 7 :: 21 :: 4 :: 182 :: 0 :: 56 :: 21 :: 5 :: 153 :: 0 :: 25 :: 21 :: 4 :: 154 :: 0 :: 13 :: 21 :: 9 :: 21 :: 6 :: 164 :: 0 :: 27 :: 167 :: 0 :: 10 :: 21 :: 9 :: 21 :: 6 :: 162 :: 0 :: 17 :: 4 :: 54 :: 5 :: fp_scX0_outcome_2
def fp_scX0_outcome_0 : List Nat := 29 :: 16 :: 6 :: 162 :: 0 :: 11 :: 29 :: 42 :: 180 :: 0 :: 40 :: 161 :: 0 :: 5 :: 3 :: 172 :: 29 :: 5 :: 112 :: 54 :: 4 :: 3 :: 54 :: 5 :: 3 :: 54 :: 6 :: 3 :: 54 :: 7 :: 21 :: 7 :: 6 :: 162 :: 0 :: 100 :: 42 :: 21 :: 7 :: 29 :: 21 :: 4 :: 182 :: 0 :: 48 :: 154 :: 0 :: 6 :: 167 :: 0 :: 79 :: 42 :: 43 :: 28 :: fp_scX0_outcome_1
theorem fp_bcX0_outcome : bA cX0_outcome 0 fp_scX0_outcome_0 := show cX0_outcome.data.toList.map UInt8.toNat = fp_scX0_outcome_0 from by decide +kernel
theorem fp_hdX0_outcome_0 : (((((decode cX0_outcome 0 = .ok (.iload_n 3, 1) ∧ decode cX0_outcome 1 = .ok (.bipush 6, 2)) ∧ (decode cX0_outcome 3 = .ok (.if_icmp .ge 11, 3) ∧ decode cX0_outcome 6 = .ok (.iload_n 3, 1))) ∧ ((decode cX0_outcome 7 = .ok (.aload_n 0, 1) ∧ decode cX0_outcome 8 = .ok (.getfield 40, 3)) ∧ (decode cX0_outcome 11 = .ok (.if_icmp .lt 5, 3) ∧ decode cX0_outcome 14 = .ok (.iconst 0, 1)))) ∧ (((decode cX0_outcome 15 = .ok (.ireturn, 1) ∧ decode cX0_outcome 16 = .ok (.iload_n 3, 1)) ∧ (decode cX0_outcome 17 = .ok (.iconst 2, 1) ∧ decode cX0_outcome 18 = .ok (.irem, 1))) ∧ ((decode cX0_outcome 19 = .ok (.istore 4, 2) ∧ decode cX0_outcome 21 = .ok (.iconst 0, 1)) ∧ (decode cX0_outcome 22 = .ok (.istore 5, 2) ∧ decode cX0_outcome 24 = .ok (.iconst 0, 1))))) ∧ ((((decode cX0_outcome 25 = .ok (.istore 6, 2) ∧ decode cX0_outcome 27 = .ok (.iconst 0, 1)) ∧ (decode cX0_outcome 28 = .ok (.istore 7, 2) ∧ decode cX0_outcome 30 = .ok (.iload 7, 2))) ∧ ((decode cX0_outcome 32 = .ok (.iconst 3, 1) ∧ decode cX0_outcome 33 = .ok (.if_icmp .ge 100, 3)) ∧ (decode cX0_outcome 36 = .ok (.aload_n 0, 1) ∧ decode cX0_outcome 37 = .ok (.iload 7, 2)))) ∧ (((decode cX0_outcome 39 = .ok (.iload_n 3, 1) ∧ decode cX0_outcome 40 = .ok (.iload 4, 2)) ∧ (decode cX0_outcome 42 = .ok (.invokevirtual 48, 3) ∧ decode cX0_outcome 45 = .ok (.ifCond .ne 6, 3))) ∧ ((decode cX0_outcome 48 = .ok (.goto 79, 3) ∧ decode cX0_outcome 51 = .ok (.aload_n 0, 1)) ∧ (decode cX0_outcome 52 = .ok (.aload_n 1, 1) ∧ decode cX0_outcome 53 = .ok (.iload_n 2, 1)))))) ∧ bA cX0_outcome 54 fp_scX0_outcome_1 :=
  have q0 := fp_o29 fp_bcX0_outcome
  have q1 := fp_o16 (v := 6) q0.2 rfl
  have q2 := fp_o162 (v := 11) q1.2 rfl
  have q3 := fp_o29 q2.2
  have q4 := fp_o42 q3.2
  have q5 := fp_o180 (v := 40) q4.2 rfl
  have q6 := fp_o161 (v := 5) q5.2 rfl
  have q7 := fp_o3 q6.2
  have q8 := fp_o172 q7.2
  have q9 := fp_o29 q8.2
  have q10 := fp_o5 q9.2
  have q11 := fp_o112 q10.2
  have q12 := fp_o54 q11.2
  have q13 := fp_o3 q12.2
  have q14 := fp_o54 q13.2
  have q15 := fp_o3 q14.2
  have q16 := fp_o54 q15.2
  have q17 := fp_o3 q16.2
  have q18 := fp_o54 q17.2
  have q19 := fp_o21 q18.2
  have q20 := fp_o6 q19.2
  have q21 := fp_o162 (v := 100) q20.2 rfl
  have q22 := fp_o42 q21.2
  have q23 := fp_o21 q22.2
  have q24 := fp_o29 q23.2
  have q25 := fp_o21 q24.2
  have q26 := fp_o182 (v := 48) q25.2 rfl
  have q27 := fp_o154 (v := 6) q26.2 rfl
  have q28 := fp_o167 (v := 79) q27.2 rfl
  have q29 := fp_o42 q28.2
  have q30 := fp_o43 q29.2
  have q31 := fp_o28 q30.2
  ⟨⟨⟨⟨⟨⟨q0.1, q1.1⟩, ⟨q2.1, q3.1⟩⟩, ⟨⟨q4.1, q5.1⟩, ⟨q6.1, q7.1⟩⟩⟩, ⟨⟨⟨q8.1, q9.1⟩, ⟨q10.1, q11.1⟩⟩, ⟨⟨q12.1, q13.1⟩, ⟨q14.1, q15.1⟩⟩⟩⟩, ⟨⟨⟨⟨q16.1, q17.1⟩, ⟨q18.1, q19.1⟩⟩, ⟨⟨q20.1, q21.1⟩, ⟨q22.1, q23.1⟩⟩⟩, ⟨⟨⟨q24.1, q25.1⟩, ⟨q26.1, q27.1⟩⟩, ⟨⟨q28.1, q29.1⟩, ⟨q30.1, q31.1⟩⟩⟩⟩⟩, q31.2⟩
theorem dX0_outcome_0 : decode cX0_outcome 0 = .ok (.iload_n 3, 1) := fp_hdX0_outcome_0.1.1.1.1.1.1
theorem dX0_outcome_1 : decode cX0_outcome 1 = .ok (.bipush 6, 2) := fp_hdX0_outcome_0.1.1.1.1.1.2
theorem dX0_outcome_3 : decode cX0_outcome 3 = .ok (.if_icmp .ge 11, 3) := fp_hdX0_outcome_0.1.1.1.1.2.1
theorem dX0_outcome_6 : decode cX0_outcome 6 = .ok (.iload_n 3, 1) := fp_hdX0_outcome_0.1.1.1.1.2.2
theorem dX0_outcome_7 : decode cX0_outcome 7 = .ok (.aload_n 0, 1) := fp_hdX0_outcome_0.1.1.1.2.1.1
theorem dX0_outcome_8 : decode cX0_outcome 8 = .ok (.getfield 40, 3) := fp_hdX0_outcome_0.1.1.1.2.1.2
theorem dX0_outcome_11 : decode cX0_outcome 11 = .ok (.if_icmp .lt 5, 3) := fp_hdX0_outcome_0.1.1.1.2.2.1
theorem dX0_outcome_14 : decode cX0_outcome 14 = .ok (.iconst 0, 1) := fp_hdX0_outcome_0.1.1.1.2.2.2
theorem dX0_outcome_15 : decode cX0_outcome 15 = .ok (.ireturn, 1) := fp_hdX0_outcome_0.1.1.2.1.1.1
theorem dX0_outcome_16 : decode cX0_outcome 16 = .ok (.iload_n 3, 1) := fp_hdX0_outcome_0.1.1.2.1.1.2
theorem dX0_outcome_17 : decode cX0_outcome 17 = .ok (.iconst 2, 1) := fp_hdX0_outcome_0.1.1.2.1.2.1
theorem dX0_outcome_18 : decode cX0_outcome 18 = .ok (.irem, 1) := fp_hdX0_outcome_0.1.1.2.1.2.2
theorem dX0_outcome_19 : decode cX0_outcome 19 = .ok (.istore 4, 2) := fp_hdX0_outcome_0.1.1.2.2.1.1
theorem dX0_outcome_21 : decode cX0_outcome 21 = .ok (.iconst 0, 1) := fp_hdX0_outcome_0.1.1.2.2.1.2
theorem dX0_outcome_22 : decode cX0_outcome 22 = .ok (.istore 5, 2) := fp_hdX0_outcome_0.1.1.2.2.2.1
theorem dX0_outcome_24 : decode cX0_outcome 24 = .ok (.iconst 0, 1) := fp_hdX0_outcome_0.1.1.2.2.2.2
theorem dX0_outcome_25 : decode cX0_outcome 25 = .ok (.istore 6, 2) := fp_hdX0_outcome_0.1.2.1.1.1.1
theorem dX0_outcome_27 : decode cX0_outcome 27 = .ok (.iconst 0, 1) := fp_hdX0_outcome_0.1.2.1.1.1.2
theorem dX0_outcome_28 : decode cX0_outcome 28 = .ok (.istore 7, 2) := fp_hdX0_outcome_0.1.2.1.1.2.1
theorem dX0_outcome_30 : decode cX0_outcome 30 = .ok (.iload 7, 2) := fp_hdX0_outcome_0.1.2.1.1.2.2
theorem dX0_outcome_32 : decode cX0_outcome 32 = .ok (.iconst 3, 1) := fp_hdX0_outcome_0.1.2.1.2.1.1
theorem dX0_outcome_33 : decode cX0_outcome 33 = .ok (.if_icmp .ge 100, 3) := fp_hdX0_outcome_0.1.2.1.2.1.2
theorem dX0_outcome_36 : decode cX0_outcome 36 = .ok (.aload_n 0, 1) := fp_hdX0_outcome_0.1.2.1.2.2.1
theorem dX0_outcome_37 : decode cX0_outcome 37 = .ok (.iload 7, 2) := fp_hdX0_outcome_0.1.2.1.2.2.2
theorem dX0_outcome_39 : decode cX0_outcome 39 = .ok (.iload_n 3, 1) := fp_hdX0_outcome_0.1.2.2.1.1.1
theorem dX0_outcome_40 : decode cX0_outcome 40 = .ok (.iload 4, 2) := fp_hdX0_outcome_0.1.2.2.1.1.2
theorem dX0_outcome_42 : decode cX0_outcome 42 = .ok (.invokevirtual 48, 3) := fp_hdX0_outcome_0.1.2.2.1.2.1
theorem dX0_outcome_45 : decode cX0_outcome 45 = .ok (.ifCond .ne 6, 3) := fp_hdX0_outcome_0.1.2.2.1.2.2
theorem dX0_outcome_48 : decode cX0_outcome 48 = .ok (.goto 79, 3) := fp_hdX0_outcome_0.1.2.2.2.1.1
theorem dX0_outcome_51 : decode cX0_outcome 51 = .ok (.aload_n 0, 1) := fp_hdX0_outcome_0.1.2.2.2.1.2
theorem dX0_outcome_52 : decode cX0_outcome 52 = .ok (.aload_n 1, 1) := fp_hdX0_outcome_0.1.2.2.2.2.1
theorem dX0_outcome_53 : decode cX0_outcome 53 = .ok (.iload_n 2, 1) := fp_hdX0_outcome_0.1.2.2.2.2.2
theorem fp_hdX0_outcome_54 : (((((decode cX0_outcome 54 = .ok (.iload 7, 2) ∧ decode cX0_outcome 56 = .ok (.iload_n 3, 1)) ∧ (decode cX0_outcome 57 = .ok (.iload 4, 2) ∧ decode cX0_outcome 59 = .ok (.invokevirtual 52, 3))) ∧ ((decode cX0_outcome 62 = .ok (.istore 8, 2) ∧ decode cX0_outcome 64 = .ok (.iload 8, 2)) ∧ (decode cX0_outcome 66 = .ok (.aload_n 0, 1) ∧ decode cX0_outcome 67 = .ok (.aload_n 1, 1)))) ∧ (((decode cX0_outcome 68 = .ok (.iload_n 2, 1) ∧ decode cX0_outcome 69 = .ok (.iload_n 3, 1)) ∧ (decode cX0_outcome 70 = .ok (.iconst 1, 1) ∧ decode cX0_outcome 71 = .ok (.iadd, 1))) ∧ ((decode cX0_outcome 72 = .ok (.invokevirtual 44, 3) ∧ decode cX0_outcome 75 = .ok (.iadd, 1)) ∧ (decode cX0_outcome 76 = .ok (.istore 9, 2) ∧ decode cX0_outcome 78 = .ok (.aload_n 0, 1))))) ∧ ((((decode cX0_outcome 79 = .ok (.iload 7, 2) ∧ decode cX0_outcome 81 = .ok (.iload 4, 2)) ∧ (decode cX0_outcome 83 = .ok (.invokevirtual 56, 3) ∧ decode cX0_outcome 86 = .ok (.iload 5, 2))) ∧ ((decode cX0_outcome 88 = .ok (.ifCond .eq 25, 3) ∧ decode cX0_outcome 91 = .ok (.iload 4, 2)) ∧ (decode cX0_outcome 93 = .ok (.ifCond .ne 13, 3) ∧ decode cX0_outcome 96 = .ok (.iload 9, 2)))) ∧ (((decode cX0_outcome 98 = .ok (.iload 6, 2) ∧ decode cX0_outcome 100 = .ok (.if_icmp .le 27, 3)) ∧ (decode cX0_outcome 103 = .ok (.goto 10, 3) ∧ decode cX0_outcome 106 = .ok (.iload 9, 2))) ∧ ((decode cX0_outcome 108 = .ok (.iload 6, 2) ∧ decode cX0_outcome 110 = .ok (.if_icmp .ge 17, 3)) ∧ (decode cX0_outcome 113 = .ok (.iconst 1, 1) ∧ decode cX0_outcome 114 = .ok (.istore 5, 2)))))) ∧ bA cX0_outcome 116 fp_scX0_outcome_2 :=
  have q0 := fp_o21 fp_hdX0_outcome_0.2
  have q1 := fp_o29 q0.2
  have q2 := fp_o21 q1.2
  have q3 := fp_o182 (v := 52) q2.2 rfl
  have q4 := fp_o54 q3.2
  have q5 := fp_o21 q4.2
  have q6 := fp_o42 q5.2
  have q7 := fp_o43 q6.2
  have q8 := fp_o28 q7.2
  have q9 := fp_o29 q8.2
  have q10 := fp_o4 q9.2
  have q11 := fp_o96 q10.2
  have q12 := fp_o182 (v := 44) q11.2 rfl
  have q13 := fp_o96 q12.2
  have q14 := fp_o54 q13.2
  have q15 := fp_o42 q14.2
  have q16 := fp_o21 q15.2
  have q17 := fp_o21 q16.2
  have q18 := fp_o182 (v := 56) q17.2 rfl
  have q19 := fp_o21 q18.2
  have q20 := fp_o153 (v := 25) q19.2 rfl
  have q21 := fp_o21 q20.2
  have q22 := fp_o154 (v := 13) q21.2 rfl
  have q23 := fp_o21 q22.2
  have q24 := fp_o21 q23.2
  have q25 := fp_o164 (v := 27) q24.2 rfl
  have q26 := fp_o167 (v := 10) q25.2 rfl
  have q27 := fp_o21 q26.2
  have q28 := fp_o21 q27.2
  have q29 := fp_o162 (v := 17) q28.2 rfl
  have q30 := fp_o4 q29.2
  have q31 := fp_o54 q30.2
  ⟨⟨⟨⟨⟨⟨q0.1, q1.1⟩, ⟨q2.1, q3.1⟩⟩, ⟨⟨q4.1, q5.1⟩, ⟨q6.1, q7.1⟩⟩⟩, ⟨⟨⟨q8.1, q9.1⟩, ⟨q10.1, q11.1⟩⟩, ⟨⟨q12.1, q13.1⟩, ⟨q14.1, q15.1⟩⟩⟩⟩, ⟨⟨⟨⟨q16.1, q17.1⟩, ⟨q18.1, q19.1⟩⟩, ⟨⟨q20.1, q21.1⟩, ⟨q22.1, q23.1⟩⟩⟩, ⟨⟨⟨q24.1, q25.1⟩, ⟨q26.1, q27.1⟩⟩, ⟨⟨q28.1, q29.1⟩, ⟨q30.1, q31.1⟩⟩⟩⟩⟩, q31.2⟩
theorem dX0_outcome_54 : decode cX0_outcome 54 = .ok (.iload 7, 2) := fp_hdX0_outcome_54.1.1.1.1.1.1
theorem dX0_outcome_56 : decode cX0_outcome 56 = .ok (.iload_n 3, 1) := fp_hdX0_outcome_54.1.1.1.1.1.2
theorem dX0_outcome_57 : decode cX0_outcome 57 = .ok (.iload 4, 2) := fp_hdX0_outcome_54.1.1.1.1.2.1
theorem dX0_outcome_59 : decode cX0_outcome 59 = .ok (.invokevirtual 52, 3) := fp_hdX0_outcome_54.1.1.1.1.2.2
theorem dX0_outcome_62 : decode cX0_outcome 62 = .ok (.istore 8, 2) := fp_hdX0_outcome_54.1.1.1.2.1.1
theorem dX0_outcome_64 : decode cX0_outcome 64 = .ok (.iload 8, 2) := fp_hdX0_outcome_54.1.1.1.2.1.2
theorem dX0_outcome_66 : decode cX0_outcome 66 = .ok (.aload_n 0, 1) := fp_hdX0_outcome_54.1.1.1.2.2.1
theorem dX0_outcome_67 : decode cX0_outcome 67 = .ok (.aload_n 1, 1) := fp_hdX0_outcome_54.1.1.1.2.2.2
theorem dX0_outcome_68 : decode cX0_outcome 68 = .ok (.iload_n 2, 1) := fp_hdX0_outcome_54.1.1.2.1.1.1
theorem dX0_outcome_69 : decode cX0_outcome 69 = .ok (.iload_n 3, 1) := fp_hdX0_outcome_54.1.1.2.1.1.2
theorem dX0_outcome_70 : decode cX0_outcome 70 = .ok (.iconst 1, 1) := fp_hdX0_outcome_54.1.1.2.1.2.1
theorem dX0_outcome_71 : decode cX0_outcome 71 = .ok (.iadd, 1) := fp_hdX0_outcome_54.1.1.2.1.2.2
theorem dX0_outcome_72 : decode cX0_outcome 72 = .ok (.invokevirtual 44, 3) := fp_hdX0_outcome_54.1.1.2.2.1.1
theorem dX0_outcome_75 : decode cX0_outcome 75 = .ok (.iadd, 1) := fp_hdX0_outcome_54.1.1.2.2.1.2
theorem dX0_outcome_76 : decode cX0_outcome 76 = .ok (.istore 9, 2) := fp_hdX0_outcome_54.1.1.2.2.2.1
theorem dX0_outcome_78 : decode cX0_outcome 78 = .ok (.aload_n 0, 1) := fp_hdX0_outcome_54.1.1.2.2.2.2
theorem dX0_outcome_79 : decode cX0_outcome 79 = .ok (.iload 7, 2) := fp_hdX0_outcome_54.1.2.1.1.1.1
theorem dX0_outcome_81 : decode cX0_outcome 81 = .ok (.iload 4, 2) := fp_hdX0_outcome_54.1.2.1.1.1.2
theorem dX0_outcome_83 : decode cX0_outcome 83 = .ok (.invokevirtual 56, 3) := fp_hdX0_outcome_54.1.2.1.1.2.1
theorem dX0_outcome_86 : decode cX0_outcome 86 = .ok (.iload 5, 2) := fp_hdX0_outcome_54.1.2.1.1.2.2
theorem dX0_outcome_88 : decode cX0_outcome 88 = .ok (.ifCond .eq 25, 3) := fp_hdX0_outcome_54.1.2.1.2.1.1
theorem dX0_outcome_91 : decode cX0_outcome 91 = .ok (.iload 4, 2) := fp_hdX0_outcome_54.1.2.1.2.1.2
theorem dX0_outcome_93 : decode cX0_outcome 93 = .ok (.ifCond .ne 13, 3) := fp_hdX0_outcome_54.1.2.1.2.2.1
theorem dX0_outcome_96 : decode cX0_outcome 96 = .ok (.iload 9, 2) := fp_hdX0_outcome_54.1.2.1.2.2.2
theorem dX0_outcome_98 : decode cX0_outcome 98 = .ok (.iload 6, 2) := fp_hdX0_outcome_54.1.2.2.1.1.1
theorem dX0_outcome_100 : decode cX0_outcome 100 = .ok (.if_icmp .le 27, 3) := fp_hdX0_outcome_54.1.2.2.1.1.2
theorem dX0_outcome_103 : decode cX0_outcome 103 = .ok (.goto 10, 3) := fp_hdX0_outcome_54.1.2.2.1.2.1
theorem dX0_outcome_106 : decode cX0_outcome 106 = .ok (.iload 9, 2) := fp_hdX0_outcome_54.1.2.2.1.2.2
theorem dX0_outcome_108 : decode cX0_outcome 108 = .ok (.iload 6, 2) := fp_hdX0_outcome_54.1.2.2.2.1.1
theorem dX0_outcome_110 : decode cX0_outcome 110 = .ok (.if_icmp .ge 17, 3) := fp_hdX0_outcome_54.1.2.2.2.1.2
theorem dX0_outcome_113 : decode cX0_outcome 113 = .ok (.iconst 1, 1) := fp_hdX0_outcome_54.1.2.2.2.2.1
theorem dX0_outcome_114 : decode cX0_outcome 114 = .ok (.istore 5, 2) := fp_hdX0_outcome_54.1.2.2.2.2.2
theorem fp_hdX0_outcome_116 : ((((decode cX0_outcome 116 = .ok (.iload 9, 2) ∧ decode cX0_outcome 118 = .ok (.istore 6, 2)) ∧ decode cX0_outcome 120 = .ok (.aload_n 0, 1)) ∧ (decode cX0_outcome 121 = .ok (.iload_n 3, 1) ∧ decode cX0_outcome 122 = .ok (.iload 7, 2))) ∧ (((decode cX0_outcome 124 = .ok (.invokevirtual 60, 3) ∧ decode cX0_outcome 127 = .ok (.iinc 7 1, 3)) ∧ decode cX0_outcome 130 = .ok (.goto (-100), 3)) ∧ (decode cX0_outcome 133 = .ok (.iload 6, 2) ∧ decode cX0_outcome 135 = .ok (.ireturn, 1)))) ∧ bA cX0_outcome 136 [] :=
  have q0 := fp_o21 fp_hdX0_outcome_54.2
  have q1 := fp_o54 q0.2
  have q2 := fp_o42 q1.2
  have q3 := fp_o29 q2.2
  have q4 := fp_o21 q3.2
  have q5 := fp_o182 (v := 60) q4.2 rfl
  have q6 := fp_o132 (v := 1) q5.2 rfl
  have q7 := fp_o167 (v := (-100)) q6.2 rfl
  have q8 := fp_o21 q7.2
  have q9 := fp_o172 q8.2
  ⟨⟨⟨⟨⟨q0.1, q1.1⟩, q2.1⟩, ⟨q3.1, q4.1⟩⟩, ⟨⟨⟨q5.1, q6.1⟩, q7.1⟩, ⟨q8.1, q9.1⟩⟩⟩, q9.2⟩
theorem dX0_outcome_116 : decode cX0_outcome 116 = .ok (.iload 9, 2) := fp_hdX0_outcome_116.1.1.1.1.1
theorem dX0_outcome_118 : decode cX0_outcome 118 = .ok (.istore 6, 2) := fp_hdX0_outcome_116.1.1.1.1.2
theorem dX0_outcome_120 : decode cX0_outcome 120 = .ok (.aload_n 0, 1) := fp_hdX0_outcome_116.1.1.1.2
theorem dX0_outcome_121 : decode cX0_outcome 121 = .ok (.iload_n 3, 1) := fp_hdX0_outcome_116.1.1.2.1
theorem dX0_outcome_122 : decode cX0_outcome 122 = .ok (.iload 7, 2) := fp_hdX0_outcome_116.1.1.2.2
theorem dX0_outcome_124 : decode cX0_outcome 124 = .ok (.invokevirtual 60, 3) := fp_hdX0_outcome_116.1.2.1.1.1
theorem dX0_outcome_127 : decode cX0_outcome 127 = .ok (.iinc 7 1, 3) := fp_hdX0_outcome_116.1.2.1.1.2
theorem dX0_outcome_130 : decode cX0_outcome 130 = .ok (.goto (-100), 3) := fp_hdX0_outcome_116.1.2.1.2
theorem dX0_outcome_133 : decode cX0_outcome 133 = .ok (.iload 6, 2) := fp_hdX0_outcome_116.1.2.2.1
theorem dX0_outcome_135 : decode cX0_outcome 135 = .ok (.ireturn, 1) := fp_hdX0_outcome_116.1.2.2.2
def fp_scX0_canDo_0 : List Nat := 27 :: 4 :: 160 :: 0 :: 23 :: 42 :: 180 :: 0 :: 15 :: 29 :: 46 :: 158 :: 0 :: 18 :: 42 :: 180 :: 0 :: 23 :: 28 :: 46 :: 16 :: 8 :: 162 :: 0 :: 7 :: 4 :: 167 :: 0 :: 4 :: 3 :: 172 :: []
theorem fp_bcX0_canDo : bA cX0_canDo 0 fp_scX0_canDo_0 := show cX0_canDo.data.toList.map UInt8.toNat = fp_scX0_canDo_0 from by decide +kernel
theorem fp_hdX0_canDo_0 : (((((decode cX0_canDo 0 = .ok (.iload_n 1, 1) ∧ decode cX0_canDo 1 = .ok (.iconst 1, 1)) ∧ decode cX0_canDo 2 = .ok (.if_icmp .ne 23, 3)) ∧ (decode cX0_canDo 5 = .ok (.aload_n 0, 1) ∧ decode cX0_canDo 6 = .ok (.getfield 15, 3))) ∧ ((decode cX0_canDo 9 = .ok (.iload_n 3, 1) ∧ decode cX0_canDo 10 = .ok (.iaload, 1)) ∧ (decode cX0_canDo 11 = .ok (.ifCond .le 18, 3) ∧ decode cX0_canDo 14 = .ok (.aload_n 0, 1)))) ∧ ((((decode cX0_canDo 15 = .ok (.getfield 23, 3) ∧ decode cX0_canDo 18 = .ok (.iload_n 2, 1)) ∧ decode cX0_canDo 19 = .ok (.iaload, 1)) ∧ (decode cX0_canDo 20 = .ok (.bipush 8, 2) ∧ decode cX0_canDo 22 = .ok (.if_icmp .ge 7, 3))) ∧ ((decode cX0_canDo 25 = .ok (.iconst 1, 1) ∧ decode cX0_canDo 26 = .ok (.goto 4, 3)) ∧ (decode cX0_canDo 29 = .ok (.iconst 0, 1) ∧ decode cX0_canDo 30 = .ok (.ireturn, 1))))) ∧ bA cX0_canDo 31 [] :=
  have q0 := fp_o27 fp_bcX0_canDo
  have q1 := fp_o4 q0.2
  have q2 := fp_o160 (v := 23) q1.2 rfl
  have q3 := fp_o42 q2.2
  have q4 := fp_o180 (v := 15) q3.2 rfl
  have q5 := fp_o29 q4.2
  have q6 := fp_o46 q5.2
  have q7 := fp_o158 (v := 18) q6.2 rfl
  have q8 := fp_o42 q7.2
  have q9 := fp_o180 (v := 23) q8.2 rfl
  have q10 := fp_o28 q9.2
  have q11 := fp_o46 q10.2
  have q12 := fp_o16 (v := 8) q11.2 rfl
  have q13 := fp_o162 (v := 7) q12.2 rfl
  have q14 := fp_o4 q13.2
  have q15 := fp_o167 (v := 4) q14.2 rfl
  have q16 := fp_o3 q15.2
  have q17 := fp_o172 q16.2
  ⟨⟨⟨⟨⟨⟨q0.1, q1.1⟩, q2.1⟩, ⟨q3.1, q4.1⟩⟩, ⟨⟨q5.1, q6.1⟩, ⟨q7.1, q8.1⟩⟩⟩, ⟨⟨⟨⟨q9.1, q10.1⟩, q11.1⟩, ⟨q12.1, q13.1⟩⟩, ⟨⟨q14.1, q15.1⟩, ⟨q16.1, q17.1⟩⟩⟩⟩, q17.2⟩
theorem dX0_canDo_0 : decode cX0_canDo 0 = .ok (.iload_n 1, 1) := fp_hdX0_canDo_0.1.1.1.1.1.1
theorem dX0_canDo_1 : decode cX0_canDo 1 = .ok (.iconst 1, 1) := fp_hdX0_canDo_0.1.1.1.1.1.2
theorem dX0_canDo_2 : decode cX0_canDo 2 = .ok (.if_icmp .ne 23, 3) := fp_hdX0_canDo_0.1.1.1.1.2
theorem dX0_canDo_5 : decode cX0_canDo 5 = .ok (.aload_n 0, 1) := fp_hdX0_canDo_0.1.1.1.2.1
theorem dX0_canDo_6 : decode cX0_canDo 6 = .ok (.getfield 15, 3) := fp_hdX0_canDo_0.1.1.1.2.2
theorem dX0_canDo_9 : decode cX0_canDo 9 = .ok (.iload_n 3, 1) := fp_hdX0_canDo_0.1.1.2.1.1
theorem dX0_canDo_10 : decode cX0_canDo 10 = .ok (.iaload, 1) := fp_hdX0_canDo_0.1.1.2.1.2
theorem dX0_canDo_11 : decode cX0_canDo 11 = .ok (.ifCond .le 18, 3) := fp_hdX0_canDo_0.1.1.2.2.1
theorem dX0_canDo_14 : decode cX0_canDo 14 = .ok (.aload_n 0, 1) := fp_hdX0_canDo_0.1.1.2.2.2
theorem dX0_canDo_15 : decode cX0_canDo 15 = .ok (.getfield 23, 3) := fp_hdX0_canDo_0.1.2.1.1.1.1
theorem dX0_canDo_18 : decode cX0_canDo 18 = .ok (.iload_n 2, 1) := fp_hdX0_canDo_0.1.2.1.1.1.2
theorem dX0_canDo_19 : decode cX0_canDo 19 = .ok (.iaload, 1) := fp_hdX0_canDo_0.1.2.1.1.2
theorem dX0_canDo_20 : decode cX0_canDo 20 = .ok (.bipush 8, 2) := fp_hdX0_canDo_0.1.2.1.2.1
theorem dX0_canDo_22 : decode cX0_canDo 22 = .ok (.if_icmp .ge 7, 3) := fp_hdX0_canDo_0.1.2.1.2.2
theorem dX0_canDo_25 : decode cX0_canDo 25 = .ok (.iconst 1, 1) := fp_hdX0_canDo_0.1.2.2.1.1
theorem dX0_canDo_26 : decode cX0_canDo 26 = .ok (.goto 4, 3) := fp_hdX0_canDo_0.1.2.2.1.2
theorem dX0_canDo_29 : decode cX0_canDo 29 = .ok (.iconst 0, 1) := fp_hdX0_canDo_0.1.2.2.2.1
theorem dX0_canDo_30 : decode cX0_canDo 30 = .ok (.ireturn, 1) := fp_hdX0_canDo_0.1.2.2.2.2
def fp_scX0_perform_2 : List Nat := 3 :: 172 :: 43 :: 42 :: 180 :: 0 :: 9 :: 21 :: 5 :: 46 :: 42 :: 43 :: 28 :: 21 :: 4 :: 4 :: 96 :: 182 :: 0 :: 65 :: 182 :: 0 :: 68 :: 54 :: 6 :: 21 :: 5 :: 154 :: 0 :: 8 :: 21 :: 6 :: 167 :: 0 :: 6 :: 21 :: 6 :: 116 :: 172 :: []
def fp_scX0_perform_1 : List Nat := 50 :: 42 :: 180 :: 0 :: 23 :: 21 :: 4 :: 46 :: 16 :: 10 :: 79 :: 42 :: 180 :: 0 :: 23 :: 21 :: 4 :: 4 :: 96 :: 92 :: 46 :: 4 :: 96 :: 79 :: 42 :: 180 :: 0 :: 15 :: 21 :: 5 :: 92 :: 46 :: 4 :: 100 :: 79 :: 29 :: 154 :: 0 :: 13 :: 42 :: 180 :: 0 :: 23 :: 21 :: 4 :: 46 :: 154 :: 0 :: 5 :: fp_scX0_perform_2
def fp_scX0_perform_0 : List Nat := 42 :: 180 :: 0 :: 20 :: 21 :: 4 :: 50 :: 3 :: 42 :: 180 :: 0 :: 20 :: 21 :: 4 :: 4 :: 96 :: 50 :: 3 :: 16 :: 8 :: 184 :: 0 :: 31 :: 42 :: 180 :: 0 :: 23 :: 21 :: 4 :: 4 :: 96 :: 42 :: 180 :: 0 :: 23 :: 21 :: 4 :: 46 :: 79 :: 29 :: 4 :: 160 :: 0 :: 46 :: 42 :: 180 :: 0 :: 20 :: 21 :: 4 :: 4 :: 96 :: fp_scX0_perform_1
theorem fp_bcX0_perform : bA cX0_perform 0 fp_scX0_perform_0 := show cX0_perform.data.toList.map UInt8.toNat = fp_scX0_perform_0 from by decide +kernel
theorem fp_hdX0_perform_0 : (((((decode cX0_perform 0 = .ok (.aload_n 0, 1) ∧ decode cX0_perform 1 = .ok (.getfield 20, 3)) ∧ (decode cX0_perform 4 = .ok (.iload 4, 2) ∧ decode cX0_perform 6 = .ok (.aaload, 1))) ∧ ((decode cX0_perform 7 = .ok (.iconst 0, 1) ∧ decode cX0_perform 8 = .ok (.aload_n 0, 1)) ∧ (decode cX0_perform 9 = .ok (.getfield 20, 3) ∧ decode cX0_perform 12 = .ok (.iload 4, 2)))) ∧ (((decode cX0_perform 14 = .ok (.iconst 1, 1) ∧ decode cX0_perform 15 = .ok (.iadd, 1)) ∧ (decode cX0_perform 16 = .ok (.aaload, 1) ∧ decode cX0_perform 17 = .ok (.iconst 0, 1))) ∧ ((decode cX0_perform 18 = .ok (.bipush 8, 2) ∧ decode cX0_perform 20 = .ok (.invokestatic 31, 3)) ∧ (decode cX0_perform 23 = .ok (.aload_n 0, 1) ∧ decode cX0_perform 24 = .ok (.getfield 23, 3))))) ∧ ((((decode cX0_perform 27 = .ok (.iload 4, 2) ∧ decode cX0_perform 29 = .ok (.iconst 1, 1)) ∧ (decode cX0_perform 30 = .ok (.iadd, 1) ∧ decode cX0_perform 31 = .ok (.aload_n 0, 1))) ∧ ((decode cX0_perform 32 = .ok (.getfield 23, 3) ∧ decode cX0_perform 35 = .ok (.iload 4, 2)) ∧ (decode cX0_perform 37 = .ok (.iaload, 1) ∧ decode cX0_perform 38 = .ok (.iastore, 1)))) ∧ (((decode cX0_perform 39 = .ok (.iload_n 3, 1) ∧ decode cX0_perform 40 = .ok (.iconst 1, 1)) ∧ (decode cX0_perform 41 = .ok (.if_icmp .ne 46, 3) ∧ decode cX0_perform 44 = .ok (.aload_n 0, 1))) ∧ ((decode cX0_perform 45 = .ok (.getfield 20, 3) ∧ decode cX0_perform 48 = .ok (.iload 4, 2)) ∧ (decode cX0_perform 50 = .ok (.iconst 1, 1) ∧ decode cX0_perform 51 = .ok (.iadd, 1)))))) ∧ bA cX0_perform 52 fp_scX0_perform_1 :=
  have q0 := fp_o42 fp_bcX0_perform
  have q1 := fp_o180 (v := 20) q0.2 rfl
  have q2 := fp_o21 q1.2
  have q3 := fp_o50 q2.2
  have q4 := fp_o3 q3.2
  have q5 := fp_o42 q4.2
  have q6 := fp_o180 (v := 20) q5.2 rfl
  have q7 := fp_o21 q6.2
  have q8 := fp_o4 q7.2
  have q9 := fp_o96 q8.2
  have q10 := fp_o50 q9.2
  have q11 := fp_o3 q10.2
  have q12 := fp_o16 (v := 8) q11.2 rfl
  have q13 := fp_o184 (v := 31) q12.2 rfl
  have q14 := fp_o42 q13.2
  have q15 := fp_o180 (v := 23) q14.2 rfl
  have q16 := fp_o21 q15.2
  have q17 := fp_o4 q16.2
  have q18 := fp_o96 q17.2
  have q19 := fp_o42 q18.2
  have q20 := fp_o180 (v := 23) q19.2 rfl
  have q21 := fp_o21 q20.2
  have q22 := fp_o46 q21.2
  have q23 := fp_o79 q22.2
  have q24 := fp_o29 q23.2
  have q25 := fp_o4 q24.2
  have q26 := fp_o160 (v := 46) q25.2 rfl
  have q27 := fp_o42 q26.2
  have q28 := fp_o180 (v := 20) q27.2 rfl
  have q29 := fp_o21 q28.2
  have q30 := fp_o4 q29.2
  have q31 := fp_o96 q30.2
  ⟨⟨⟨⟨⟨⟨q0.1, q1.1⟩, ⟨q2.1, q3.1⟩⟩, ⟨⟨q4.1, q5.1⟩, ⟨q6.1, q7.1⟩⟩⟩, ⟨⟨⟨q8.1, q9.1⟩, ⟨q10.1, q11.1⟩⟩, ⟨⟨q12.1, q13.1⟩, ⟨q14.1, q15.1⟩⟩⟩⟩, ⟨⟨⟨⟨q16.1, q17.1⟩, ⟨q18.1, q19.1⟩⟩, ⟨⟨q20.1, q21.1⟩, ⟨q22.1, q23.1⟩⟩⟩, ⟨⟨⟨q24.1, q25.1⟩, ⟨q26.1, q27.1⟩⟩, ⟨⟨q28.1, q29.1⟩, ⟨q30.1, q31.1⟩⟩⟩⟩⟩, q31.2⟩
theorem dX0_perform_0 : decode cX0_perform 0 = .ok (.aload_n 0, 1) := fp_hdX0_perform_0.1.1.1.1.1.1
theorem dX0_perform_1 : decode cX0_perform 1 = .ok (.getfield 20, 3) := fp_hdX0_perform_0.1.1.1.1.1.2
theorem dX0_perform_4 : decode cX0_perform 4 = .ok (.iload 4, 2) := fp_hdX0_perform_0.1.1.1.1.2.1
theorem dX0_perform_6 : decode cX0_perform 6 = .ok (.aaload, 1) := fp_hdX0_perform_0.1.1.1.1.2.2
theorem dX0_perform_7 : decode cX0_perform 7 = .ok (.iconst 0, 1) := fp_hdX0_perform_0.1.1.1.2.1.1
theorem dX0_perform_8 : decode cX0_perform 8 = .ok (.aload_n 0, 1) := fp_hdX0_perform_0.1.1.1.2.1.2
theorem dX0_perform_9 : decode cX0_perform 9 = .ok (.getfield 20, 3) := fp_hdX0_perform_0.1.1.1.2.2.1
theorem dX0_perform_12 : decode cX0_perform 12 = .ok (.iload 4, 2) := fp_hdX0_perform_0.1.1.1.2.2.2
theorem dX0_perform_14 : decode cX0_perform 14 = .ok (.iconst 1, 1) := fp_hdX0_perform_0.1.1.2.1.1.1
theorem dX0_perform_15 : decode cX0_perform 15 = .ok (.iadd, 1) := fp_hdX0_perform_0.1.1.2.1.1.2
theorem dX0_perform_16 : decode cX0_perform 16 = .ok (.aaload, 1) := fp_hdX0_perform_0.1.1.2.1.2.1
theorem dX0_perform_17 : decode cX0_perform 17 = .ok (.iconst 0, 1) := fp_hdX0_perform_0.1.1.2.1.2.2
theorem dX0_perform_18 : decode cX0_perform 18 = .ok (.bipush 8, 2) := fp_hdX0_perform_0.1.1.2.2.1.1
theorem dX0_perform_20 : decode cX0_perform 20 = .ok (.invokestatic 31, 3) := fp_hdX0_perform_0.1.1.2.2.1.2
theorem dX0_perform_23 : decode cX0_perform 23 = .ok (.aload_n 0, 1) := fp_hdX0_perform_0.1.1.2.2.2.1
theorem dX0_perform_24 : decode cX0_perform 24 = .ok (.getfield 23, 3) := fp_hdX0_perform_0.1.1.2.2.2.2
theorem dX0_perform_27 : decode cX0_perform 27 = .ok (.iload 4, 2) := fp_hdX0_perform_0.1.2.1.1.1.1
theorem dX0_perform_29 : decode cX0_perform 29 = .ok (.iconst 1, 1) := fp_hdX0_perform_0.1.2.1.1.1.2
theorem dX0_perform_30 : decode cX0_perform 30 = .ok (.iadd, 1) := fp_hdX0_perform_0.1.2.1.1.2.1
theorem dX0_perform_31 : decode cX0_perform 31 = .ok (.aload_n 0, 1) := fp_hdX0_perform_0.1.2.1.1.2.2
theorem dX0_perform_32 : decode cX0_perform 32 = .ok (.getfield 23, 3) := fp_hdX0_perform_0.1.2.1.2.1.1
theorem dX0_perform_35 : decode cX0_perform 35 = .ok (.iload 4, 2) := fp_hdX0_perform_0.1.2.1.2.1.2
theorem dX0_perform_37 : decode cX0_perform 37 = .ok (.iaload, 1) := fp_hdX0_perform_0.1.2.1.2.2.1
theorem dX0_perform_38 : decode cX0_perform 38 = .ok (.iastore, 1) := fp_hdX0_perform_0.1.2.1.2.2.2
theorem dX0_perform_39 : decode cX0_perform 39 = .ok (.iload_n 3, 1) := fp_hdX0_perform_0.1.2.2.1.1.1
theorem dX0_perform_40 : decode cX0_perform 40 = .ok (.iconst 1, 1) := fp_hdX0_perform_0.1.2.2.1.1.2
theorem dX0_perform_41 : decode cX0_perform 41 = .ok (.if_icmp .ne 46, 3) := fp_hdX0_perform_0.1.2.2.1.2.1
theorem dX0_perform_44 : decode cX0_perform 44 = .ok (.aload_n 0, 1) := fp_hdX0_perform_0.1.2.2.1.2.2
theorem dX0_perform_45 : decode cX0_perform 45 = .ok (.getfield 20, 3) := fp_hdX0_perform_0.1.2.2.2.1.1
theorem dX0_perform_48 : decode cX0_perform 48 = .ok (.iload 4, 2) := fp_hdX0_perform_0.1.2.2.2.1.2
theorem dX0_perform_50 : decode cX0_perform 50 = .ok (.iconst 1, 1) := fp_hdX0_perform_0.1.2.2.2.2.1
theorem dX0_perform_51 : decode cX0_perform 51 = .ok (.iadd, 1) := fp_hdX0_perform_0.1.2.2.2.2.2
theorem fp_hdX0_perform_52 : (((((decode cX0_perform 52 = .ok (.aaload, 1) ∧ decode cX0_perform 53 = .ok (.aload_n 0, 1)) ∧ (decode cX0_perform 54 = .ok (.getfield 23, 3) ∧ decode cX0_perform 57 = .ok (.iload 4, 2))) ∧ ((decode cX0_perform 59 = .ok (.iaload, 1) ∧ decode cX0_perform 60 = .ok (.bipush 10, 2)) ∧ (decode cX0_perform 62 = .ok (.iastore, 1) ∧ decode cX0_perform 63 = .ok (.aload_n 0, 1)))) ∧ (((decode cX0_perform 64 = .ok (.getfield 23, 3) ∧ decode cX0_perform 67 = .ok (.iload 4, 2)) ∧ (decode cX0_perform 69 = .ok (.iconst 1, 1) ∧ decode cX0_perform 70 = .ok (.iadd, 1))) ∧ ((decode cX0_perform 71 = .ok (.dup2, 1) ∧ decode cX0_perform 72 = .ok (.iaload, 1)) ∧ (decode cX0_perform 73 = .ok (.iconst 1, 1) ∧ decode cX0_perform 74 = .ok (.iadd, 1))))) ∧ ((((decode cX0_perform 75 = .ok (.iastore, 1) ∧ decode cX0_perform 76 = .ok (.aload_n 0, 1)) ∧ (decode cX0_perform 77 = .ok (.getfield 15, 3) ∧ decode cX0_perform 80 = .ok (.iload 5, 2))) ∧ ((decode cX0_perform 82 = .ok (.dup2, 1) ∧ decode cX0_perform 83 = .ok (.iaload, 1)) ∧ (decode cX0_perform 84 = .ok (.iconst 1, 1) ∧ decode cX0_perform 85 = .ok (.isub, 1)))) ∧ (((decode cX0_perform 86 = .ok (.iastore, 1) ∧ decode cX0_perform 87 = .ok (.iload_n 3, 1)) ∧ (decode cX0_perform 88 = .ok (.ifCond .ne 13, 3) ∧ decode cX0_perform 91 = .ok (.aload_n 0, 1))) ∧ ((decode cX0_perform 92 = .ok (.getfield 23, 3) ∧ decode cX0_perform 95 = .ok (.iload 4, 2)) ∧ (decode cX0_perform 97 = .ok (.iaload, 1) ∧ decode cX0_perform 98 = .ok (.ifCond .ne 5, 3)))))) ∧ bA cX0_perform 101 fp_scX0_perform_2 :=
  have q0 := fp_o50 fp_hdX0_perform_0.2
  have q1 := fp_o42 q0.2
  have q2 := fp_o180 (v := 23) q1.2 rfl
  have q3 := fp_o21 q2.2
  have q4 := fp_o46 q3.2
  have q5 := fp_o16 (v := 10) q4.2 rfl
  have q6 := fp_o79 q5.2
  have q7 := fp_o42 q6.2
  have q8 := fp_o180 (v := 23) q7.2 rfl
  have q9 := fp_o21 q8.2
  have q10 := fp_o4 q9.2
  have q11 := fp_o96 q10.2
  have q12 := fp_o92 q11.2
  have q13 := fp_o46 q12.2
  have q14 := fp_o4 q13.2
  have q15 := fp_o96 q14.2
  have q16 := fp_o79 q15.2
  have q17 := fp_o42 q16.2
  have q18 := fp_o180 (v := 15) q17.2 rfl
  have q19 := fp_o21 q18.2
  have q20 := fp_o92 q19.2
  have q21 := fp_o46 q20.2
  have q22 := fp_o4 q21.2
  have q23 := fp_o100 q22.2
  have q24 := fp_o79 q23.2
  have q25 := fp_o29 q24.2
  have q26 := fp_o154 (v := 13) q25.2 rfl
  have q27 := fp_o42 q26.2
  have q28 := fp_o180 (v := 23) q27.2 rfl
  have q29 := fp_o21 q28.2
  have q30 := fp_o46 q29.2
  have q31 := fp_o154 (v := 5) q30.2 rfl
  ⟨⟨⟨⟨⟨⟨q0.1, q1.1⟩, ⟨q2.1, q3.1⟩⟩, ⟨⟨q4.1, q5.1⟩, ⟨q6.1, q7.1⟩⟩⟩, ⟨⟨⟨q8.1, q9.1⟩, ⟨q10.1, q11.1⟩⟩, ⟨⟨q12.1, q13.1⟩, ⟨q14.1, q15.1⟩⟩⟩⟩, ⟨⟨⟨⟨q16.1, q17.1⟩, ⟨q18.1, q19.1⟩⟩, ⟨⟨q20.1, q21.1⟩, ⟨q22.1, q23.1⟩⟩⟩, ⟨⟨⟨q24.1, q25.1⟩, ⟨q26.1, q27.1⟩⟩, ⟨⟨q28.1, q29.1⟩, ⟨q30.1, q31.1⟩⟩⟩⟩⟩, q31.2⟩
theorem dX0_perform_52 : decode cX0_perform 52 = .ok (.aaload, 1) := fp_hdX0_perform_52.1.1.1.1.1.1
theorem dX0_perform_53 : decode cX0_perform 53 = .ok (.aload_n 0, 1) := fp_hdX0_perform_52.1.1.1.1.1.2
theorem dX0_perform_54 : decode cX0_perform 54 = .ok (.getfield 23, 3) := fp_hdX0_perform_52.1.1.1.1.2.1
theorem dX0_perform_57 : decode cX0_perform 57 = .ok (.iload 4, 2) := fp_hdX0_perform_52.1.1.1.1.2.2
theorem dX0_perform_59 : decode cX0_perform 59 = .ok (.iaload, 1) := fp_hdX0_perform_52.1.1.1.2.1.1
theorem dX0_perform_60 : decode cX0_perform 60 = .ok (.bipush 10, 2) := fp_hdX0_perform_52.1.1.1.2.1.2
theorem dX0_perform_62 : decode cX0_perform 62 = .ok (.iastore, 1) := fp_hdX0_perform_52.1.1.1.2.2.1
theorem dX0_perform_63 : decode cX0_perform 63 = .ok (.aload_n 0, 1) := fp_hdX0_perform_52.1.1.1.2.2.2
theorem dX0_perform_64 : decode cX0_perform 64 = .ok (.getfield 23, 3) := fp_hdX0_perform_52.1.1.2.1.1.1
theorem dX0_perform_67 : decode cX0_perform 67 = .ok (.iload 4, 2) := fp_hdX0_perform_52.1.1.2.1.1.2
theorem dX0_perform_69 : decode cX0_perform 69 = .ok (.iconst 1, 1) := fp_hdX0_perform_52.1.1.2.1.2.1
theorem dX0_perform_70 : decode cX0_perform 70 = .ok (.iadd, 1) := fp_hdX0_perform_52.1.1.2.1.2.2
theorem dX0_perform_71 : decode cX0_perform 71 = .ok (.dup2, 1) := fp_hdX0_perform_52.1.1.2.2.1.1
theorem dX0_perform_72 : decode cX0_perform 72 = .ok (.iaload, 1) := fp_hdX0_perform_52.1.1.2.2.1.2
theorem dX0_perform_73 : decode cX0_perform 73 = .ok (.iconst 1, 1) := fp_hdX0_perform_52.1.1.2.2.2.1
theorem dX0_perform_74 : decode cX0_perform 74 = .ok (.iadd, 1) := fp_hdX0_perform_52.1.1.2.2.2.2
theorem dX0_perform_75 : decode cX0_perform 75 = .ok (.iastore, 1) := fp_hdX0_perform_52.1.2.1.1.1.1
theorem dX0_perform_76 : decode cX0_perform 76 = .ok (.aload_n 0, 1) := fp_hdX0_perform_52.1.2.1.1.1.2
theorem dX0_perform_77 : decode cX0_perform 77 = .ok (.getfield 15, 3) := fp_hdX0_perform_52.1.2.1.1.2.1
theorem dX0_perform_80 : decode cX0_perform 80 = .ok (.iload 5, 2) := fp_hdX0_perform_52.1.2.1.1.2.2
theorem dX0_perform_82 : decode cX0_perform 82 = .ok (.dup2, 1) := fp_hdX0_perform_52.1.2.1.2.1.1
theorem dX0_perform_83 : decode cX0_perform 83 = .ok (.iaload, 1) := fp_hdX0_perform_52.1.2.1.2.1.2
theorem dX0_perform_84 : decode cX0_perform 84 = .ok (.iconst 1, 1) := fp_hdX0_perform_52.1.2.1.2.2.1
theorem dX0_perform_85 : decode cX0_perform 85 = .ok (.isub, 1) := fp_hdX0_perform_52.1.2.1.2.2.2
theorem dX0_perform_86 : decode cX0_perform 86 = .ok (.iastore, 1) := fp_hdX0_perform_52.1.2.2.1.1.1
theorem dX0_perform_87 : decode cX0_perform 87 = .ok (.iload_n 3, 1) := fp_hdX0_perform_52.1.2.2.1.1.2
theorem dX0_perform_88 : decode cX0_perform 88 = .ok (.ifCond .ne 13, 3) := fp_hdX0_perform_52.1.2.2.1.2.1
theorem dX0_perform_91 : decode cX0_perform 91 = .ok (.aload_n 0, 1) := fp_hdX0_perform_52.1.2.2.1.2.2
theorem dX0_perform_92 : decode cX0_perform 92 = .ok (.getfield 23, 3) := fp_hdX0_perform_52.1.2.2.2.1.1
theorem dX0_perform_95 : decode cX0_perform 95 = .ok (.iload 4, 2) := fp_hdX0_perform_52.1.2.2.2.1.2
theorem dX0_perform_97 : decode cX0_perform 97 = .ok (.iaload, 1) := fp_hdX0_perform_52.1.2.2.2.2.1
theorem dX0_perform_98 : decode cX0_perform 98 = .ok (.ifCond .ne 5, 3) := fp_hdX0_perform_52.1.2.2.2.2.2
theorem fp_hdX0_perform_101 : (((((decode cX0_perform 101 = .ok (.iconst 0, 1) ∧ decode cX0_perform 102 = .ok (.ireturn, 1)) ∧ decode cX0_perform 103 = .ok (.aload_n 1, 1)) ∧ ((decode cX0_perform 104 = .ok (.aload_n 0, 1) ∧ decode cX0_perform 105 = .ok (.getfield 9, 3)) ∧ decode cX0_perform 108 = .ok (.iload 5, 2))) ∧ (((decode cX0_perform 110 = .ok (.iaload, 1) ∧ decode cX0_perform 111 = .ok (.aload_n 0, 1)) ∧ decode cX0_perform 112 = .ok (.aload_n 1, 1)) ∧ ((decode cX0_perform 113 = .ok (.iload_n 2, 1) ∧ decode cX0_perform 114 = .ok (.iload 4, 2)) ∧ decode cX0_perform 116 = .ok (.iconst 1, 1)))) ∧ ((((decode cX0_perform 117 = .ok (.iadd, 1) ∧ decode cX0_perform 118 = .ok (.invokevirtual 65, 3)) ∧ decode cX0_perform 121 = .ok (.invokevirtual 68, 3)) ∧ ((decode cX0_perform 124 = .ok (.istore 6, 2) ∧ decode cX0_perform 126 = .ok (.iload 5, 2)) ∧ decode cX0_perform 128 = .ok (.ifCond .ne 8, 3))) ∧ (((decode cX0_perform 131 = .ok (.iload 6, 2) ∧ decode cX0_perform 133 = .ok (.goto 6, 3)) ∧ decode cX0_perform 136 = .ok (.iload 6, 2)) ∧ (decode cX0_perform 138 = .ok (.ineg, 1) ∧ decode cX0_perform 139 = .ok (.ireturn, 1))))) ∧ bA cX0_perform 140 [] :=
  have q0 := fp_o3 fp_hdX0_perform_52.2
  have q1 := fp_o172 q0.2
  have q2 := fp_o43 q1.2
  have q3 := fp_o42 q2.2
  have q4 := fp_o180 (v := 9) q3.2 rfl
  have q5 := fp_o21 q4.2
  have q6 := fp_o46 q5.2
  have q7 := fp_o42 q6.2
  have q8 := fp_o43 q7.2
  have q9 := fp_o28 q8.2
  have q10 := fp_o21 q9.2
  have q11 := fp_o4 q10.2
  have q12 := fp_o96 q11.2
  have q13 := fp_o182 (v := 65) q12.2 rfl
  have q14 := fp_o182 (v := 68) q13.2 rfl
  have q15 := fp_o54 q14.2
  have q16 := fp_o21 q15.2
  have q17 := fp_o154 (v := 8) q16.2 rfl
  have q18 := fp_o21 q17.2
  have q19 := fp_o167 (v := 6) q18.2 rfl
  have q20 := fp_o21 q19.2
  have q21 := fp_o116 q20.2
  have q22 := fp_o172 q21.2
  ⟨⟨⟨⟨⟨⟨q0.1, q1.1⟩, q2.1⟩, ⟨⟨q3.1, q4.1⟩, q5.1⟩⟩, ⟨⟨⟨q6.1, q7.1⟩, q8.1⟩, ⟨⟨q9.1, q10.1⟩, q11.1⟩⟩⟩, ⟨⟨⟨⟨q12.1, q13.1⟩, q14.1⟩, ⟨⟨q15.1, q16.1⟩, q17.1⟩⟩, ⟨⟨⟨q18.1, q19.1⟩, q20.1⟩, ⟨q21.1, q22.1⟩⟩⟩⟩, q22.2⟩
theorem dX0_perform_101 : decode cX0_perform 101 = .ok (.iconst 0, 1) := fp_hdX0_perform_101.1.1.1.1.1.1
theorem dX0_perform_102 : decode cX0_perform 102 = .ok (.ireturn, 1) := fp_hdX0_perform_101.1.1.1.1.1.2
theorem dX0_perform_103 : decode cX0_perform 103 = .ok (.aload_n 1, 1) := fp_hdX0_perform_101.1.1.1.1.2
theorem dX0_perform_104 : decode cX0_perform 104 = .ok (.aload_n 0, 1) := fp_hdX0_perform_101.1.1.1.2.1.1
theorem dX0_perform_105 : decode cX0_perform 105 = .ok (.getfield 9, 3) := fp_hdX0_perform_101.1.1.1.2.1.2
theorem dX0_perform_108 : decode cX0_perform 108 = .ok (.iload 5, 2) := fp_hdX0_perform_101.1.1.1.2.2
theorem dX0_perform_110 : decode cX0_perform 110 = .ok (.iaload, 1) := fp_hdX0_perform_101.1.1.2.1.1.1
theorem dX0_perform_111 : decode cX0_perform 111 = .ok (.aload_n 0, 1) := fp_hdX0_perform_101.1.1.2.1.1.2
theorem dX0_perform_112 : decode cX0_perform 112 = .ok (.aload_n 1, 1) := fp_hdX0_perform_101.1.1.2.1.2
theorem dX0_perform_113 : decode cX0_perform 113 = .ok (.iload_n 2, 1) := fp_hdX0_perform_101.1.1.2.2.1.1
theorem dX0_perform_114 : decode cX0_perform 114 = .ok (.iload 4, 2) := fp_hdX0_perform_101.1.1.2.2.1.2
theorem dX0_perform_116 : decode cX0_perform 116 = .ok (.iconst 1, 1) := fp_hdX0_perform_101.1.1.2.2.2
theorem dX0_perform_117 : decode cX0_perform 117 = .ok (.iadd, 1) := fp_hdX0_perform_101.1.2.1.1.1.1
theorem dX0_perform_118 : decode cX0_perform 118 = .ok (.invokevirtual 65, 3) := fp_hdX0_perform_101.1.2.1.1.1.2
theorem dX0_perform_121 : decode cX0_perform 121 = .ok (.invokevirtual 68, 3) := fp_hdX0_perform_101.1.2.1.1.2
theorem dX0_perform_124 : decode cX0_perform 124 = .ok (.istore 6, 2) := fp_hdX0_perform_101.1.2.1.2.1.1
theorem dX0_perform_126 : decode cX0_perform 126 = .ok (.iload 5, 2) := fp_hdX0_perform_101.1.2.1.2.1.2
theorem dX0_perform_128 : decode cX0_perform 128 = .ok (.ifCond .ne 8, 3) := fp_hdX0_perform_101.1.2.1.2.2
theorem dX0_perform_131 : decode cX0_perform 131 = .ok (.iload 6, 2) := fp_hdX0_perform_101.1.2.2.1.1.1
theorem dX0_perform_133 : decode cX0_perform 133 = .ok (.goto 6, 3) := fp_hdX0_perform_101.1.2.2.1.1.2
theorem dX0_perform_136 : decode cX0_perform 136 = .ok (.iload 6, 2) := fp_hdX0_perform_101.1.2.2.1.2
theorem dX0_perform_138 : decode cX0_perform 138 = .ok (.ineg, 1) := fp_hdX0_perform_101.1.2.2.2.1
theorem dX0_perform_139 : decode cX0_perform 139 = .ok (.ireturn, 1) := fp_hdX0_perform_101.1.2.2.2.2
def fp_scX0_takeGiven_1 : List Nat := 29 :: 46 :: 162 :: 0 :: 21 :: 25 :: 4 :: 21 :: 7 :: 25 :: 4 :: 21 :: 7 :: 4 :: 96 :: 46 :: 79 :: 132 :: 7 :: 1 :: 167 :: 255 :: 230 :: 21 :: 6 :: 172 :: []
def fp_scX0_takeGiven_0 : List Nat := 42 :: 180 :: 0 :: 20 :: 29 :: 50 :: 58 :: 4 :: 43 :: 28 :: 25 :: 4 :: 3 :: 42 :: 180 :: 0 :: 23 :: 29 :: 46 :: 184 :: 0 :: 72 :: 54 :: 5 :: 25 :: 4 :: 21 :: 5 :: 46 :: 54 :: 6 :: 42 :: 180 :: 0 :: 23 :: 29 :: 92 :: 46 :: 4 :: 100 :: 79 :: 21 :: 5 :: 54 :: 7 :: 21 :: 7 :: 42 :: 180 :: 0 :: 23 :: fp_scX0_takeGiven_1
theorem fp_bcX0_takeGiven : bA cX0_takeGiven 0 fp_scX0_takeGiven_0 := show cX0_takeGiven.data.toList.map UInt8.toNat = fp_scX0_takeGiven_0 from by decide +kernel
theorem fp_hdX0_takeGiven_0 : (((((decode cX0_takeGiven 0 = .ok (.aload_n 0, 1) ∧ decode cX0_takeGiven 1 = .ok (.getfield 20, 3)) ∧ (decode cX0_takeGiven 4 = .ok (.iload_n 3, 1) ∧ decode cX0_takeGiven 5 = .ok (.aaload, 1))) ∧ ((decode cX0_takeGiven 6 = .ok (.astore 4, 2) ∧ decode cX0_takeGiven 8 = .ok (.aload_n 1, 1)) ∧ (decode cX0_takeGiven 9 = .ok (.iload_n 2, 1) ∧ decode cX0_takeGiven 10 = .ok (.aload 4, 2)))) ∧ (((decode cX0_takeGiven 12 = .ok (.iconst 0, 1) ∧ decode cX0_takeGiven 13 = .ok (.aload_n 0, 1)) ∧ (decode cX0_takeGiven 14 = .ok (.getfield 23, 3) ∧ decode cX0_takeGiven 17 = .ok (.iload_n 3, 1))) ∧ ((decode cX0_takeGiven 18 = .ok (.iaload, 1) ∧ decode cX0_takeGiven 19 = .ok (.invokestatic 72, 3)) ∧ (decode cX0_takeGiven 22 = .ok (.istore 5, 2) ∧ decode cX0_takeGiven 24 = .ok (.aload 4, 2))))) ∧ ((((decode cX0_takeGiven 26 = .ok (.iload 5, 2) ∧ decode cX0_takeGiven 28 = .ok (.iaload, 1)) ∧ (decode cX0_takeGiven 29 = .ok (.istore 6, 2) ∧ decode cX0_takeGiven 31 = .ok (.aload_n 0, 1))) ∧ ((decode cX0_takeGiven 32 = .ok (.getfield 23, 3) ∧ decode cX0_takeGiven 35 = .ok (.iload_n 3, 1)) ∧ (decode cX0_takeGiven 36 = .ok (.dup2, 1) ∧ decode cX0_takeGiven 37 = .ok (.iaload, 1)))) ∧ (((decode cX0_takeGiven 38 = .ok (.iconst 1, 1) ∧ decode cX0_takeGiven 39 = .ok (.isub, 1)) ∧ (decode cX0_takeGiven 40 = .ok (.iastore, 1) ∧ decode cX0_takeGiven 41 = .ok (.iload 5, 2))) ∧ ((decode cX0_takeGiven 43 = .ok (.istore 7, 2) ∧ decode cX0_takeGiven 45 = .ok (.iload 7, 2)) ∧ (decode cX0_takeGiven 47 = .ok (.aload_n 0, 1) ∧ decode cX0_takeGiven 48 = .ok (.getfield 23, 3)))))) ∧ bA cX0_takeGiven 51 fp_scX0_takeGiven_1 :=
  have q0 := fp_o42 fp_bcX0_takeGiven
  have q1 := fp_o180 (v := 20) q0.2 rfl
  have q2 := fp_o29 q1.2
  have q3 := fp_o50 q2.2
  have q4 := fp_o58 q3.2
  have q5 := fp_o43 q4.2
  have q6 := fp_o28 q5.2
  have q7 := fp_o25 q6.2
  have q8 := fp_o3 q7.2
  have q9 := fp_o42 q8.2
  have q10 := fp_o180 (v := 23) q9.2 rfl
  have q11 := fp_o29 q10.2
  have q12 := fp_o46 q11.2
  have q13 := fp_o184 (v := 72) q12.2 rfl
  have q14 := fp_o54 q13.2
  have q15 := fp_o25 q14.2
  have q16 := fp_o21 q15.2
  have q17 := fp_o46 q16.2
  have q18 := fp_o54 q17.2
  have q19 := fp_o42 q18.2
  have q20 := fp_o180 (v := 23) q19.2 rfl
  have q21 := fp_o29 q20.2
  have q22 := fp_o92 q21.2
  have q23 := fp_o46 q22.2
  have q24 := fp_o4 q23.2
  have q25 := fp_o100 q24.2
  have q26 := fp_o79 q25.2
  have q27 := fp_o21 q26.2
  have q28 := fp_o54 q27.2
  have q29 := fp_o21 q28.2
  have q30 := fp_o42 q29.2
  have q31 := fp_o180 (v := 23) q30.2 rfl
  ⟨⟨⟨⟨⟨⟨q0.1, q1.1⟩, ⟨q2.1, q3.1⟩⟩, ⟨⟨q4.1, q5.1⟩, ⟨q6.1, q7.1⟩⟩⟩, ⟨⟨⟨q8.1, q9.1⟩, ⟨q10.1, q11.1⟩⟩, ⟨⟨q12.1, q13.1⟩, ⟨q14.1, q15.1⟩⟩⟩⟩, ⟨⟨⟨⟨q16.1, q17.1⟩, ⟨q18.1, q19.1⟩⟩, ⟨⟨q20.1, q21.1⟩, ⟨q22.1, q23.1⟩⟩⟩, ⟨⟨⟨q24.1, q25.1⟩, ⟨q26.1, q27.1⟩⟩, ⟨⟨q28.1, q29.1⟩, ⟨q30.1, q31.1⟩⟩⟩⟩⟩, q31.2⟩
theorem dX0_takeGiven_0 : decode cX0_takeGiven 0 = .ok (.aload_n 0, 1) := fp_hdX0_takeGiven_0.1.1.1.1.1.1
theorem dX0_takeGiven_1 : decode cX0_takeGiven 1 = .ok (.getfield 20, 3) := fp_hdX0_takeGiven_0.1.1.1.1.1.2
theorem dX0_takeGiven_4 : decode cX0_takeGiven 4 = .ok (.iload_n 3, 1) := fp_hdX0_takeGiven_0.1.1.1.1.2.1
theorem dX0_takeGiven_5 : decode cX0_takeGiven 5 = .ok (.aaload, 1) := fp_hdX0_takeGiven_0.1.1.1.1.2.2
theorem dX0_takeGiven_6 : decode cX0_takeGiven 6 = .ok (.astore 4, 2) := fp_hdX0_takeGiven_0.1.1.1.2.1.1
theorem dX0_takeGiven_8 : decode cX0_takeGiven 8 = .ok (.aload_n 1, 1) := fp_hdX0_takeGiven_0.1.1.1.2.1.2
theorem dX0_takeGiven_9 : decode cX0_takeGiven 9 = .ok (.iload_n 2, 1) := fp_hdX0_takeGiven_0.1.1.1.2.2.1
theorem dX0_takeGiven_10 : decode cX0_takeGiven 10 = .ok (.aload 4, 2) := fp_hdX0_takeGiven_0.1.1.1.2.2.2
theorem dX0_takeGiven_12 : decode cX0_takeGiven 12 = .ok (.iconst 0, 1) := fp_hdX0_takeGiven_0.1.1.2.1.1.1
theorem dX0_takeGiven_13 : decode cX0_takeGiven 13 = .ok (.aload_n 0, 1) := fp_hdX0_takeGiven_0.1.1.2.1.1.2
theorem dX0_takeGiven_14 : decode cX0_takeGiven 14 = .ok (.getfield 23, 3) := fp_hdX0_takeGiven_0.1.1.2.1.2.1
theorem dX0_takeGiven_17 : decode cX0_takeGiven 17 = .ok (.iload_n 3, 1) := fp_hdX0_takeGiven_0.1.1.2.1.2.2
theorem dX0_takeGiven_18 : decode cX0_takeGiven 18 = .ok (.iaload, 1) := fp_hdX0_takeGiven_0.1.1.2.2.1.1
theorem dX0_takeGiven_19 : decode cX0_takeGiven 19 = .ok (.invokestatic 72, 3) := fp_hdX0_takeGiven_0.1.1.2.2.1.2
theorem dX0_takeGiven_22 : decode cX0_takeGiven 22 = .ok (.istore 5, 2) := fp_hdX0_takeGiven_0.1.1.2.2.2.1
theorem dX0_takeGiven_24 : decode cX0_takeGiven 24 = .ok (.aload 4, 2) := fp_hdX0_takeGiven_0.1.1.2.2.2.2
theorem dX0_takeGiven_26 : decode cX0_takeGiven 26 = .ok (.iload 5, 2) := fp_hdX0_takeGiven_0.1.2.1.1.1.1
theorem dX0_takeGiven_28 : decode cX0_takeGiven 28 = .ok (.iaload, 1) := fp_hdX0_takeGiven_0.1.2.1.1.1.2
theorem dX0_takeGiven_29 : decode cX0_takeGiven 29 = .ok (.istore 6, 2) := fp_hdX0_takeGiven_0.1.2.1.1.2.1
theorem dX0_takeGiven_31 : decode cX0_takeGiven 31 = .ok (.aload_n 0, 1) := fp_hdX0_takeGiven_0.1.2.1.1.2.2
theorem dX0_takeGiven_32 : decode cX0_takeGiven 32 = .ok (.getfield 23, 3) := fp_hdX0_takeGiven_0.1.2.1.2.1.1
theorem dX0_takeGiven_35 : decode cX0_takeGiven 35 = .ok (.iload_n 3, 1) := fp_hdX0_takeGiven_0.1.2.1.2.1.2
theorem dX0_takeGiven_36 : decode cX0_takeGiven 36 = .ok (.dup2, 1) := fp_hdX0_takeGiven_0.1.2.1.2.2.1
theorem dX0_takeGiven_37 : decode cX0_takeGiven 37 = .ok (.iaload, 1) := fp_hdX0_takeGiven_0.1.2.1.2.2.2
theorem dX0_takeGiven_38 : decode cX0_takeGiven 38 = .ok (.iconst 1, 1) := fp_hdX0_takeGiven_0.1.2.2.1.1.1
theorem dX0_takeGiven_39 : decode cX0_takeGiven 39 = .ok (.isub, 1) := fp_hdX0_takeGiven_0.1.2.2.1.1.2
theorem dX0_takeGiven_40 : decode cX0_takeGiven 40 = .ok (.iastore, 1) := fp_hdX0_takeGiven_0.1.2.2.1.2.1
theorem dX0_takeGiven_41 : decode cX0_takeGiven 41 = .ok (.iload 5, 2) := fp_hdX0_takeGiven_0.1.2.2.1.2.2
theorem dX0_takeGiven_43 : decode cX0_takeGiven 43 = .ok (.istore 7, 2) := fp_hdX0_takeGiven_0.1.2.2.2.1.1
theorem dX0_takeGiven_45 : decode cX0_takeGiven 45 = .ok (.iload 7, 2) := fp_hdX0_takeGiven_0.1.2.2.2.1.2
theorem dX0_takeGiven_47 : decode cX0_takeGiven 47 = .ok (.aload_n 0, 1) := fp_hdX0_takeGiven_0.1.2.2.2.2.1
theorem dX0_takeGiven_48 : decode cX0_takeGiven 48 = .ok (.getfield 23, 3) := fp_hdX0_takeGiven_0.1.2.2.2.2.2
theorem fp_hdX0_takeGiven_51 : ((((decode cX0_takeGiven 51 = .ok (.iload_n 3, 1) ∧ decode cX0_takeGiven 52 = .ok (.iaload, 1)) ∧ (decode cX0_takeGiven 53 = .ok (.if_icmp .ge 21, 3) ∧ decode cX0_takeGiven 56 = .ok (.aload 4, 2))) ∧ ((decode cX0_takeGiven 58 = .ok (.iload 7, 2) ∧ decode cX0_takeGiven 60 = .ok (.aload 4, 2)) ∧ (decode cX0_takeGiven 62 = .ok (.iload 7, 2) ∧ decode cX0_takeGiven 64 = .ok (.iconst 1, 1)))) ∧ (((decode cX0_takeGiven 65 = .ok (.iadd, 1) ∧ decode cX0_takeGiven 66 = .ok (.iaload, 1)) ∧ (decode cX0_takeGiven 67 = .ok (.iastore, 1) ∧ decode cX0_takeGiven 68 = .ok (.iinc 7 1, 3))) ∧ ((decode cX0_takeGiven 71 = .ok (.goto (-26), 3) ∧ decode cX0_takeGiven 74 = .ok (.iload 6, 2)) ∧ decode cX0_takeGiven 76 = .ok (.ireturn, 1)))) ∧ bA cX0_takeGiven 77 [] :=
  have q0 := fp_o29 fp_hdX0_takeGiven_0.2
  have q1 := fp_o46 q0.2
  have q2 := fp_o162 (v := 21) q1.2 rfl
  have q3 := fp_o25 q2.2
  have q4 := fp_o21 q3.2
  have q5 := fp_o25 q4.2
  have q6 := fp_o21 q5.2
  have q7 := fp_o4 q6.2
  have q8 := fp_o96 q7.2
  have q9 := fp_o46 q8.2
  have q10 := fp_o79 q9.2
  have q11 := fp_o132 (v := 1) q10.2 rfl
  have q12 := fp_o167 (v := (-26)) q11.2 rfl
  have q13 := fp_o21 q12.2
  have q14 := fp_o172 q13.2
  ⟨⟨⟨⟨⟨q0.1, q1.1⟩, ⟨q2.1, q3.1⟩⟩, ⟨⟨q4.1, q5.1⟩, ⟨q6.1, q7.1⟩⟩⟩, ⟨⟨⟨q8.1, q9.1⟩, ⟨q10.1, q11.1⟩⟩, ⟨⟨q12.1, q13.1⟩, q14.1⟩⟩⟩, q14.2⟩
theorem dX0_takeGiven_51 : decode cX0_takeGiven 51 = .ok (.iload_n 3, 1) := fp_hdX0_takeGiven_51.1.1.1.1.1
theorem dX0_takeGiven_52 : decode cX0_takeGiven 52 = .ok (.iaload, 1) := fp_hdX0_takeGiven_51.1.1.1.1.2
theorem dX0_takeGiven_53 : decode cX0_takeGiven 53 = .ok (.if_icmp .ge 21, 3) := fp_hdX0_takeGiven_51.1.1.1.2.1
theorem dX0_takeGiven_56 : decode cX0_takeGiven 56 = .ok (.aload 4, 2) := fp_hdX0_takeGiven_51.1.1.1.2.2
theorem dX0_takeGiven_58 : decode cX0_takeGiven 58 = .ok (.iload 7, 2) := fp_hdX0_takeGiven_51.1.1.2.1.1
theorem dX0_takeGiven_60 : decode cX0_takeGiven 60 = .ok (.aload 4, 2) := fp_hdX0_takeGiven_51.1.1.2.1.2
theorem dX0_takeGiven_62 : decode cX0_takeGiven 62 = .ok (.iload 7, 2) := fp_hdX0_takeGiven_51.1.1.2.2.1
theorem dX0_takeGiven_64 : decode cX0_takeGiven 64 = .ok (.iconst 1, 1) := fp_hdX0_takeGiven_51.1.1.2.2.2
theorem dX0_takeGiven_65 : decode cX0_takeGiven 65 = .ok (.iadd, 1) := fp_hdX0_takeGiven_51.1.2.1.1.1
theorem dX0_takeGiven_66 : decode cX0_takeGiven 66 = .ok (.iaload, 1) := fp_hdX0_takeGiven_51.1.2.1.1.2
theorem dX0_takeGiven_67 : decode cX0_takeGiven 67 = .ok (.iastore, 1) := fp_hdX0_takeGiven_51.1.2.1.2.1
theorem dX0_takeGiven_68 : decode cX0_takeGiven 68 = .ok (.iinc 7 1, 3) := fp_hdX0_takeGiven_51.1.2.1.2.2
theorem dX0_takeGiven_71 : decode cX0_takeGiven 71 = .ok (.goto (-26), 3) := fp_hdX0_takeGiven_51.1.2.2.1.1
theorem dX0_takeGiven_74 : decode cX0_takeGiven 74 = .ok (.iload 6, 2) := fp_hdX0_takeGiven_51.1.2.2.1.2
theorem dX0_takeGiven_76 : decode cX0_takeGiven 76 = .ok (.ireturn, 1) := fp_hdX0_takeGiven_51.1.2.2.2
def fp_scX0_takeBack_0 : List Nat := 27 :: 4 :: 160 :: 0 :: 13 :: 42 :: 180 :: 0 :: 15 :: 28 :: 92 :: 46 :: 4 :: 96 :: 79 :: 177 :: []
theorem fp_bcX0_takeBack : bA cX0_takeBack 0 fp_scX0_takeBack_0 := show cX0_takeBack.data.toList.map UInt8.toNat = fp_scX0_takeBack_0 from by decide +kernel
theorem fp_hdX0_takeBack_0 : ((((decode cX0_takeBack 0 = .ok (.iload_n 1, 1) ∧ decode cX0_takeBack 1 = .ok (.iconst 1, 1)) ∧ decode cX0_takeBack 2 = .ok (.if_icmp .ne 13, 3)) ∧ ((decode cX0_takeBack 5 = .ok (.aload_n 0, 1) ∧ decode cX0_takeBack 6 = .ok (.getfield 15, 3)) ∧ decode cX0_takeBack 9 = .ok (.iload_n 2, 1))) ∧ (((decode cX0_takeBack 10 = .ok (.dup2, 1) ∧ decode cX0_takeBack 11 = .ok (.iaload, 1)) ∧ decode cX0_takeBack 12 = .ok (.iconst 1, 1)) ∧ ((decode cX0_takeBack 13 = .ok (.iadd, 1) ∧ decode cX0_takeBack 14 = .ok (.iastore, 1)) ∧ decode cX0_takeBack 15 = .ok (.return_, 1)))) ∧ bA cX0_takeBack 16 [] :=
  have q0 := fp_o27 fp_bcX0_takeBack
  have q1 := fp_o4 q0.2
  have q2 := fp_o160 (v := 13) q1.2 rfl
  have q3 := fp_o42 q2.2
  have q4 := fp_o180 (v := 15) q3.2 rfl
  have q5 := fp_o28 q4.2
  have q6 := fp_o92 q5.2
  have q7 := fp_o46 q6.2
  have q8 := fp_o4 q7.2
  have q9 := fp_o96 q8.2
  have q10 := fp_o79 q9.2
  have q11 := fp_o177 q10.2
  ⟨⟨⟨⟨⟨q0.1, q1.1⟩, q2.1⟩, ⟨⟨q3.1, q4.1⟩, q5.1⟩⟩, ⟨⟨⟨q6.1, q7.1⟩, q8.1⟩, ⟨⟨q9.1, q10.1⟩, q11.1⟩⟩⟩, q11.2⟩
theorem dX0_takeBack_0 : decode cX0_takeBack 0 = .ok (.iload_n 1, 1) := fp_hdX0_takeBack_0.1.1.1.1.1
theorem dX0_takeBack_1 : decode cX0_takeBack 1 = .ok (.iconst 1, 1) := fp_hdX0_takeBack_0.1.1.1.1.2
theorem dX0_takeBack_2 : decode cX0_takeBack 2 = .ok (.if_icmp .ne 13, 3) := fp_hdX0_takeBack_0.1.1.1.2
theorem dX0_takeBack_5 : decode cX0_takeBack 5 = .ok (.aload_n 0, 1) := fp_hdX0_takeBack_0.1.1.2.1.1
theorem dX0_takeBack_6 : decode cX0_takeBack 6 = .ok (.getfield 15, 3) := fp_hdX0_takeBack_0.1.1.2.1.2
theorem dX0_takeBack_9 : decode cX0_takeBack 9 = .ok (.iload_n 2, 1) := fp_hdX0_takeBack_0.1.1.2.2
theorem dX0_takeBack_10 : decode cX0_takeBack 10 = .ok (.dup2, 1) := fp_hdX0_takeBack_0.1.2.1.1.1
theorem dX0_takeBack_11 : decode cX0_takeBack 11 = .ok (.iaload, 1) := fp_hdX0_takeBack_0.1.2.1.1.2
theorem dX0_takeBack_12 : decode cX0_takeBack 12 = .ok (.iconst 1, 1) := fp_hdX0_takeBack_0.1.2.1.2
theorem dX0_takeBack_13 : decode cX0_takeBack 13 = .ok (.iadd, 1) := fp_hdX0_takeBack_0.1.2.2.1.1
theorem dX0_takeBack_14 : decode cX0_takeBack 14 = .ok (.iastore, 1) := fp_hdX0_takeBack_0.1.2.2.1.2
theorem dX0_takeBack_15 : decode cX0_takeBack 15 = .ok (.return_, 1) := fp_hdX0_takeBack_0.1.2.2.2
def fp_scX0_noteFirst_0 : List Nat := 27 :: 154 :: 0 :: 8 :: 42 :: 28 :: 181 :: 0 :: 76 :: 177 :: []
theorem fp_bcX0_noteFirst : bA cX0_noteFirst 0 fp_scX0_noteFirst_0 := show cX0_noteFirst.data.toList.map UInt8.toNat = fp_scX0_noteFirst_0 from by decide +kernel
theorem fp_hdX0_noteFirst_0 : (((decode cX0_noteFirst 0 = .ok (.iload_n 1, 1) ∧ decode cX0_noteFirst 1 = .ok (.ifCond .ne 8, 3)) ∧ decode cX0_noteFirst 4 = .ok (.aload_n 0, 1)) ∧ ((decode cX0_noteFirst 5 = .ok (.iload_n 2, 1) ∧ decode cX0_noteFirst 6 = .ok (.putfield 76, 3)) ∧ decode cX0_noteFirst 9 = .ok (.return_, 1))) ∧ bA cX0_noteFirst 10 [] :=
  have q0 := fp_o27 fp_bcX0_noteFirst
  have q1 := fp_o154 (v := 8) q0.2 rfl
  have q2 := fp_o42 q1.2
  have q3 := fp_o28 q2.2
  have q4 := fp_o181 (v := 76) q3.2 rfl
  have q5 := fp_o177 q4.2
  ⟨⟨⟨⟨q0.1, q1.1⟩, q2.1⟩, ⟨⟨q3.1, q4.1⟩, q5.1⟩⟩, q5.2⟩
theorem dX0_noteFirst_0 : decode cX0_noteFirst 0 = .ok (.iload_n 1, 1) := fp_hdX0_noteFirst_0.1.1.1.1
theorem dX0_noteFirst_1 : decode cX0_noteFirst 1 = .ok (.ifCond .ne 8, 3) := fp_hdX0_noteFirst_0.1.1.1.2
theorem dX0_noteFirst_4 : decode cX0_noteFirst 4 = .ok (.aload_n 0, 1) := fp_hdX0_noteFirst_0.1.1.2
theorem dX0_noteFirst_5 : decode cX0_noteFirst 5 = .ok (.iload_n 2, 1) := fp_hdX0_noteFirst_0.1.2.1.1
theorem dX0_noteFirst_6 : decode cX0_noteFirst 6 = .ok (.putfield 76, 3) := fp_hdX0_noteFirst_0.1.2.1.2
theorem dX0_noteFirst_9 : decode cX0_noteFirst 9 = .ok (.return_, 1) := fp_hdX0_noteFirst_0.1.2.2
def fp_scX1_init_0 : List Nat := 42 :: 183 :: 0 :: 3 :: 42 :: 16 :: 10 :: 181 :: 0 :: 9 :: 42 :: 16 :: 11 :: 188 :: 10 :: 181 :: 0 :: 15 :: 42 :: 16 :: 44 :: 188 :: 10 :: 181 :: 0 :: 19 :: 42 :: 6 :: 188 :: 10 :: 181 :: 0 :: 22 :: 177 :: []
theorem fp_bcX1_init : bA cX1_init 0 fp_scX1_init_0 := show cX1_init.data.toList.map UInt8.toNat = fp_scX1_init_0 from by decide +kernel
theorem fp_hdX1_init_0 : (((((decode cX1_init 0 = .ok (.aload_n 0, 1) ∧ decode cX1_init 1 = .ok (.invokespecial 3, 3)) ∧ decode cX1_init 4 = .ok (.aload_n 0, 1)) ∧ (decode cX1_init 5 = .ok (.bipush 10, 2) ∧ decode cX1_init 7 = .ok (.putfield 9, 3))) ∧ ((decode cX1_init 10 = .ok (.aload_n 0, 1) ∧ decode cX1_init 11 = .ok (.bipush 11, 2)) ∧ (decode cX1_init 13 = .ok (.newarray .int, 2) ∧ decode cX1_init 15 = .ok (.putfield 15, 3)))) ∧ ((((decode cX1_init 18 = .ok (.aload_n 0, 1) ∧ decode cX1_init 19 = .ok (.bipush 44, 2)) ∧ decode cX1_init 21 = .ok (.newarray .int, 2)) ∧ (decode cX1_init 23 = .ok (.putfield 19, 3) ∧ decode cX1_init 26 = .ok (.aload_n 0, 1))) ∧ ((decode cX1_init 27 = .ok (.iconst 3, 1) ∧ decode cX1_init 28 = .ok (.newarray .int, 2)) ∧ (decode cX1_init 30 = .ok (.putfield 22, 3) ∧ decode cX1_init 33 = .ok (.return_, 1))))) ∧ bA cX1_init 34 [] :=
  have q0 := fp_o42 fp_bcX1_init
  have q1 := fp_o183 (v := 3) q0.2 rfl
  have q2 := fp_o42 q1.2
  have q3 := fp_o16 (v := 10) q2.2 rfl
  have q4 := fp_o181 (v := 9) q3.2 rfl
  have q5 := fp_o42 q4.2
  have q6 := fp_o16 (v := 11) q5.2 rfl
  have q7 := fp_o188_10 q6.2
  have q8 := fp_o181 (v := 15) q7.2 rfl
  have q9 := fp_o42 q8.2
  have q10 := fp_o16 (v := 44) q9.2 rfl
  have q11 := fp_o188_10 q10.2
  have q12 := fp_o181 (v := 19) q11.2 rfl
  have q13 := fp_o42 q12.2
  have q14 := fp_o6 q13.2
  have q15 := fp_o188_10 q14.2
  have q16 := fp_o181 (v := 22) q15.2 rfl
  have q17 := fp_o177 q16.2
  ⟨⟨⟨⟨⟨⟨q0.1, q1.1⟩, q2.1⟩, ⟨q3.1, q4.1⟩⟩, ⟨⟨q5.1, q6.1⟩, ⟨q7.1, q8.1⟩⟩⟩, ⟨⟨⟨⟨q9.1, q10.1⟩, q11.1⟩, ⟨q12.1, q13.1⟩⟩, ⟨⟨q14.1, q15.1⟩, ⟨q16.1, q17.1⟩⟩⟩⟩, q17.2⟩
theorem dX1_init_0 : decode cX1_init 0 = .ok (.aload_n 0, 1) := fp_hdX1_init_0.1.1.1.1.1.1
theorem dX1_init_1 : decode cX1_init 1 = .ok (.invokespecial 3, 3) := fp_hdX1_init_0.1.1.1.1.1.2
theorem dX1_init_4 : decode cX1_init 4 = .ok (.aload_n 0, 1) := fp_hdX1_init_0.1.1.1.1.2
theorem dX1_init_5 : decode cX1_init 5 = .ok (.bipush 10, 2) := fp_hdX1_init_0.1.1.1.2.1
theorem dX1_init_7 : decode cX1_init 7 = .ok (.putfield 9, 3) := fp_hdX1_init_0.1.1.1.2.2
theorem dX1_init_10 : decode cX1_init 10 = .ok (.aload_n 0, 1) := fp_hdX1_init_0.1.1.2.1.1
theorem dX1_init_11 : decode cX1_init 11 = .ok (.bipush 11, 2) := fp_hdX1_init_0.1.1.2.1.2
theorem dX1_init_13 : decode cX1_init 13 = .ok (.newarray .int, 2) := fp_hdX1_init_0.1.1.2.2.1
theorem dX1_init_15 : decode cX1_init 15 = .ok (.putfield 15, 3) := fp_hdX1_init_0.1.1.2.2.2
theorem dX1_init_18 : decode cX1_init 18 = .ok (.aload_n 0, 1) := fp_hdX1_init_0.1.2.1.1.1.1
theorem dX1_init_19 : decode cX1_init 19 = .ok (.bipush 44, 2) := fp_hdX1_init_0.1.2.1.1.1.2
theorem dX1_init_21 : decode cX1_init 21 = .ok (.newarray .int, 2) := fp_hdX1_init_0.1.2.1.1.2
theorem dX1_init_23 : decode cX1_init 23 = .ok (.putfield 19, 3) := fp_hdX1_init_0.1.2.1.2.1
theorem dX1_init_26 : decode cX1_init 26 = .ok (.aload_n 0, 1) := fp_hdX1_init_0.1.2.1.2.2
theorem dX1_init_27 : decode cX1_init 27 = .ok (.iconst 3, 1) := fp_hdX1_init_0.1.2.2.1.1
theorem dX1_init_28 : decode cX1_init 28 = .ok (.newarray .int, 2) := fp_hdX1_init_0.1.2.2.1.2
theorem dX1_init_30 : decode cX1_init 30 = .ok (.putfield 22, 3) := fp_hdX1_init_0.1.2.2.2.1
theorem dX1_init_33 : decode cX1_init 33 = .ok (.return_, 1) := fp_hdX1_init_0.1.2.2.2.2
def fp_scX1_clear_0 : List Nat := 42 :: 3 :: 181 :: 0 :: 25 :: 42 :: 3 :: 181 :: 0 :: 28 :: 42 :: 16 :: 10 :: 181 :: 0 :: 9 :: 177 :: []
theorem fp_bcX1_clear : bA cX1_clear 0 fp_scX1_clear_0 := show cX1_clear.data.toList.map UInt8.toNat = fp_scX1_clear_0 from by decide +kernel
theorem fp_hdX1_clear_0 : ((((decode cX1_clear 0 = .ok (.aload_n 0, 1) ∧ decode cX1_clear 1 = .ok (.iconst 0, 1)) ∧ decode cX1_clear 2 = .ok (.putfield 25, 3)) ∧ (decode cX1_clear 5 = .ok (.aload_n 0, 1) ∧ decode cX1_clear 6 = .ok (.iconst 0, 1))) ∧ (((decode cX1_clear 7 = .ok (.putfield 28, 3) ∧ decode cX1_clear 10 = .ok (.aload_n 0, 1)) ∧ decode cX1_clear 11 = .ok (.bipush 10, 2)) ∧ (decode cX1_clear 13 = .ok (.putfield 9, 3) ∧ decode cX1_clear 16 = .ok (.return_, 1)))) ∧ bA cX1_clear 17 [] :=
  have q0 := fp_o42 fp_bcX1_clear
  have q1 := fp_o3 q0.2
  have q2 := fp_o181 (v := 25) q1.2 rfl
  have q3 := fp_o42 q2.2
  have q4 := fp_o3 q3.2
  have q5 := fp_o181 (v := 28) q4.2 rfl
  have q6 := fp_o42 q5.2
  have q7 := fp_o16 (v := 10) q6.2 rfl
  have q8 := fp_o181 (v := 9) q7.2 rfl
  have q9 := fp_o177 q8.2
  ⟨⟨⟨⟨⟨q0.1, q1.1⟩, q2.1⟩, ⟨q3.1, q4.1⟩⟩, ⟨⟨⟨q5.1, q6.1⟩, q7.1⟩, ⟨q8.1, q9.1⟩⟩⟩, q9.2⟩
theorem dX1_clear_0 : decode cX1_clear 0 = .ok (.aload_n 0, 1) := fp_hdX1_clear_0.1.1.1.1.1
theorem dX1_clear_1 : decode cX1_clear 1 = .ok (.iconst 0, 1) := fp_hdX1_clear_0.1.1.1.1.2
theorem dX1_clear_2 : decode cX1_clear 2 = .ok (.putfield 25, 3) := fp_hdX1_clear_0.1.1.1.2
theorem dX1_clear_5 : decode cX1_clear 5 = .ok (.aload_n 0, 1) := fp_hdX1_clear_0.1.1.2.1
theorem dX1_clear_6 : decode cX1_clear 6 = .ok (.iconst 0, 1) := fp_hdX1_clear_0.1.1.2.2
theorem dX1_clear_7 : decode cX1_clear 7 = .ok (.putfield 28, 3) := fp_hdX1_clear_0.1.2.1.1.1
theorem dX1_clear_10 : decode cX1_clear 10 = .ok (.aload_n 0, 1) := fp_hdX1_clear_0.1.2.1.1.2
theorem dX1_clear_11 : decode cX1_clear 11 = .ok (.bipush 10, 2) := fp_hdX1_clear_0.1.2.1.2
theorem dX1_clear_13 : decode cX1_clear 13 = .ok (.putfield 9, 3) := fp_hdX1_clear_0.1.2.2.1
theorem dX1_clear_16 : decode cX1_clear 16 = .ok (.return_, 1) := fp_hdX1_clear_0.1.2.2.2
def fp_scX1_copyFrom_1 : List Nat := 43 :: 180 :: 0 :: 22 :: 3 :: 42 :: 180 :: 0 :: 22 :: 3 :: 42 :: 180 :: 0 :: 22 :: 190 :: 184 :: 0 :: 31 :: 177 :: []
def fp_scX1_copyFrom_0 : List Nat := 42 :: 43 :: 180 :: 0 :: 25 :: 181 :: 0 :: 25 :: 42 :: 43 :: 180 :: 0 :: 28 :: 181 :: 0 :: 28 :: 42 :: 43 :: 180 :: 0 :: 9 :: 181 :: 0 :: 9 :: 43 :: 180 :: 0 :: 15 :: 3 :: 42 :: 180 :: 0 :: 15 :: 3 :: 42 :: 180 :: 0 :: 15 :: 190 :: 184 :: 0 :: 31 :: 43 :: 180 :: 0 :: 19 :: 3 :: 42 :: 180 :: 0 :: 19 :: 3 :: 42 :: 180 :: 0 :: 19 :: 190 :: 184 :: 0 :: 31 :: fp_scX1_copyFrom_1
theorem fp_bcX1_copyFrom : bA cX1_copyFrom 0 fp_scX1_copyFrom_0 := show cX1_copyFrom.data.toList.map UInt8.toNat = fp_scX1_copyFrom_0 from by decide +kernel
theorem fp_hdX1_copyFrom_0 : (((((decode cX1_copyFrom 0 = .ok (.aload_n 0, 1) ∧ decode cX1_copyFrom 1 = .ok (.aload_n 1, 1)) ∧ (decode cX1_copyFrom 2 = .ok (.getfield 25, 3) ∧ decode cX1_copyFrom 5 = .ok (.putfield 25, 3))) ∧ ((decode cX1_copyFrom 8 = .ok (.aload_n 0, 1) ∧ decode cX1_copyFrom 9 = .ok (.aload_n 1, 1)) ∧ (decode cX1_copyFrom 10 = .ok (.getfield 28, 3) ∧ decode cX1_copyFrom 13 = .ok (.putfield 28, 3)))) ∧ (((decode cX1_copyFrom 16 = .ok (.aload_n 0, 1) ∧ decode cX1_copyFrom 17 = .ok (.aload_n 1, 1)) ∧ (decode cX1_copyFrom 18 = .ok (.getfield 9, 3) ∧ decode cX1_copyFrom 21 = .ok (.putfield 9, 3))) ∧ ((decode cX1_copyFrom 24 = .ok (.aload_n 1, 1) ∧ decode cX1_copyFrom 25 = .ok (.getfield 15, 3)) ∧ (decode cX1_copyFrom 28 = .ok (.iconst 0, 1) ∧ decode cX1_copyFrom 29 = .ok (.aload_n 0, 1))))) ∧ ((((decode cX1_copyFrom 30 = .ok (.getfield 15, 3) ∧ decode cX1_copyFrom 33 = .ok (.iconst 0, 1)) ∧ (decode cX1_copyFrom 34 = .ok (.aload_n 0, 1) ∧ decode cX1_copyFrom 35 = .ok (.getfield 15, 3))) ∧ ((decode cX1_copyFrom 38 = .ok (.arraylength, 1) ∧ decode cX1_copyFrom 39 = .ok (.invokestatic 31, 3)) ∧ (decode cX1_copyFrom 42 = .ok (.aload_n 1, 1) ∧ decode cX1_copyFrom 43 = .ok (.getfield 19, 3)))) ∧ (((decode cX1_copyFrom 46 = .ok (.iconst 0, 1) ∧ decode cX1_copyFrom 47 = .ok (.aload_n 0, 1)) ∧ (decode cX1_copyFrom 48 = .ok (.getfield 19, 3) ∧ decode cX1_copyFrom 51 = .ok (.iconst 0, 1))) ∧ ((decode cX1_copyFrom 52 = .ok (.aload_n 0, 1) ∧ decode cX1_copyFrom 53 = .ok (.getfield 19, 3)) ∧ (decode cX1_copyFrom 56 = .ok (.arraylength, 1) ∧ decode cX1_copyFrom 57 = .ok (.invokestatic 31, 3)))))) ∧ bA cX1_copyFrom 60 fp_scX1_copyFrom_1 :=
  have q0 := fp_o42 fp_bcX1_copyFrom
  have q1 := fp_o43 q0.2
  have q2 := fp_o180 (v := 25) q1.2 rfl
  have q3 := fp_o181 (v := 25) q2.2 rfl
  have q4 := fp_o42 q3.2
  have q5 := fp_o43 q4.2
  have q6 := fp_o180 (v := 28) q5.2 rfl
  have q7 := fp_o181 (v := 28) q6.2 rfl
  have q8 := fp_o42 q7.2
  have q9 := fp_o43 q8.2
  have q10 := fp_o180 (v := 9) q9.2 rfl
  have q11 := fp_o181 (v := 9) q10.2 rfl
  have q12 := fp_o43 q11.2
  have q13 := fp_o180 (v := 15) q12.2 rfl
  have q14 := fp_o3 q13.2
  have q15 := fp_o42 q14.2
  have q16 := fp_o180 (v := 15) q15.2 rfl
  have q17 := fp_o3 q16.2
  have q18 := fp_o42 q17.2
  have q19 := fp_o180 (v := 15) q18.2 rfl
  have q20 := fp_o190 q19.2
  have q21 := fp_o184 (v := 31) q20.2 rfl
  have q22 := fp_o43 q21.2
  have q23 := fp_o180 (v := 19) q22.2 rfl
  have q24 := fp_o3 q23.2
  have q25 := fp_o42 q24.2
  have q26 := fp_o180 (v := 19) q25.2 rfl
  have q27 := fp_o3 q26.2
  have q28 := fp_o42 q27.2
  have q29 := fp_o180 (v := 19) q28.2 rfl
  have q30 := fp_o190 q29.2
  have q31 := fp_o184 (v := 31) q30.2 rfl
  ⟨⟨⟨⟨⟨⟨q0.1, q1.1⟩, ⟨q2.1, q3.1⟩⟩, ⟨⟨q4.1, q5.1⟩, ⟨q6.1, q7.1⟩⟩⟩, ⟨⟨⟨q8.1, q9.1⟩, ⟨q10.1, q11.1⟩⟩, ⟨⟨q12.1, q13.1⟩, ⟨q14.1, q15.1⟩⟩⟩⟩, ⟨⟨⟨⟨q16.1, q17.1⟩, ⟨q18.1, q19.1⟩⟩, ⟨⟨q20.1, q21.1⟩, ⟨q22.1, q23.1⟩⟩⟩, ⟨⟨⟨q24.1, q25.1⟩, ⟨q26.1, q27.1⟩⟩, ⟨⟨q28.1, q29.1⟩, ⟨q30.1, q31.1⟩⟩⟩⟩⟩, q31.2⟩
theorem dX1_copyFrom_0 : decode cX1_copyFrom 0 = .ok (.aload_n 0, 1) := fp_hdX1_copyFrom_0.1.1.1.1.1.1
theorem dX1_copyFrom_1 : decode cX1_copyFrom 1 = .ok (.aload_n 1, 1) := fp_hdX1_copyFrom_0.1.1.1.1.1.2
theorem dX1_copyFrom_2 : decode cX1_copyFrom 2 = .ok (.getfield 25, 3) := fp_hdX1_copyFrom_0.1.1.1.1.2.1
theorem dX1_copyFrom_5 : decode cX1_copyFrom 5 = .ok (.putfield 25, 3) := fp_hdX1_copyFrom_0.1.1.1.1.2.2
theorem dX1_copyFrom_8 : decode cX1_copyFrom 8 = .ok (.aload_n 0, 1) := fp_hdX1_copyFrom_0.1.1.1.2.1.1
theorem dX1_copyFrom_9 : decode cX1_copyFrom 9 = .ok (.aload_n 1, 1) := fp_hdX1_copyFrom_0.1.1.1.2.1.2
theorem dX1_copyFrom_10 : decode cX1_copyFrom 10 = .ok (.getfield 28, 3) := fp_hdX1_copyFrom_0.1.1.1.2.2.1
theorem dX1_copyFrom_13 : decode cX1_copyFrom 13 = .ok (.putfield 28, 3) := fp_hdX1_copyFrom_0.1.1.1.2.2.2
theorem dX1_copyFrom_16 : decode cX1_copyFrom 16 = .ok (.aload_n 0, 1) := fp_hdX1_copyFrom_0.1.1.2.1.1.1
theorem dX1_copyFrom_17 : decode cX1_copyFrom 17 = .ok (.aload_n 1, 1) := fp_hdX1_copyFrom_0.1.1.2.1.1.2
theorem dX1_copyFrom_18 : decode cX1_copyFrom 18 = .ok (.getfield 9, 3) := fp_hdX1_copyFrom_0.1.1.2.1.2.1
theorem dX1_copyFrom_21 : decode cX1_copyFrom 21 = .ok (.putfield 9, 3) := fp_hdX1_copyFrom_0.1.1.2.1.2.2
theorem dX1_copyFrom_24 : decode cX1_copyFrom 24 = .ok (.aload_n 1, 1) := fp_hdX1_copyFrom_0.1.1.2.2.1.1
theorem dX1_copyFrom_25 : decode cX1_copyFrom 25 = .ok (.getfield 15, 3) := fp_hdX1_copyFrom_0.1.1.2.2.1.2
theorem dX1_copyFrom_28 : decode cX1_copyFrom 28 = .ok (.iconst 0, 1) := fp_hdX1_copyFrom_0.1.1.2.2.2.1
theorem dX1_copyFrom_29 : decode cX1_copyFrom 29 = .ok (.aload_n 0, 1) := fp_hdX1_copyFrom_0.1.1.2.2.2.2
theorem dX1_copyFrom_30 : decode cX1_copyFrom 30 = .ok (.getfield 15, 3) := fp_hdX1_copyFrom_0.1.2.1.1.1.1
theorem dX1_copyFrom_33 : decode cX1_copyFrom 33 = .ok (.iconst 0, 1) := fp_hdX1_copyFrom_0.1.2.1.1.1.2
theorem dX1_copyFrom_34 : decode cX1_copyFrom 34 = .ok (.aload_n 0, 1) := fp_hdX1_copyFrom_0.1.2.1.1.2.1
theorem dX1_copyFrom_35 : decode cX1_copyFrom 35 = .ok (.getfield 15, 3) := fp_hdX1_copyFrom_0.1.2.1.1.2.2
theorem dX1_copyFrom_38 : decode cX1_copyFrom 38 = .ok (.arraylength, 1) := fp_hdX1_copyFrom_0.1.2.1.2.1.1
theorem dX1_copyFrom_39 : decode cX1_copyFrom 39 = .ok (.invokestatic 31, 3) := fp_hdX1_copyFrom_0.1.2.1.2.1.2
theorem dX1_copyFrom_42 : decode cX1_copyFrom 42 = .ok (.aload_n 1, 1) := fp_hdX1_copyFrom_0.1.2.1.2.2.1
theorem dX1_copyFrom_43 : decode cX1_copyFrom 43 = .ok (.getfield 19, 3) := fp_hdX1_copyFrom_0.1.2.1.2.2.2
theorem dX1_copyFrom_46 : decode cX1_copyFrom 46 = .ok (.iconst 0, 1) := fp_hdX1_copyFrom_0.1.2.2.1.1.1
theorem dX1_copyFrom_47 : decode cX1_copyFrom 47 = .ok (.aload_n 0, 1) := fp_hdX1_copyFrom_0.1.2.2.1.1.2
theorem dX1_copyFrom_48 : decode cX1_copyFrom 48 = .ok (.getfield 19, 3) := fp_hdX1_copyFrom_0.1.2.2.1.2.1
theorem dX1_copyFrom_51 : decode cX1_copyFrom 51 = .ok (.iconst 0, 1) := fp_hdX1_copyFrom_0.1.2.2.1.2.2
theorem dX1_copyFrom_52 : decode cX1_copyFrom 52 = .ok (.aload_n 0, 1) := fp_hdX1_copyFrom_0.1.2.2.2.1.1
theorem dX1_copyFrom_53 : decode cX1_copyFrom 53 = .ok (.getfield 19, 3) := fp_hdX1_copyFrom_0.1.2.2.2.1.2
theorem dX1_copyFrom_56 : decode cX1_copyFrom 56 = .ok (.arraylength, 1) := fp_hdX1_copyFrom_0.1.2.2.2.2.1
theorem dX1_copyFrom_57 : decode cX1_copyFrom 57 = .ok (.invokestatic 31, 3) := fp_hdX1_copyFrom_0.1.2.2.2.2.2
theorem fp_hdX1_copyFrom_60 : ((((decode cX1_copyFrom 60 = .ok (.aload_n 1, 1) ∧ decode cX1_copyFrom 61 = .ok (.getfield 22, 3)) ∧ decode cX1_copyFrom 64 = .ok (.iconst 0, 1)) ∧ ((decode cX1_copyFrom 65 = .ok (.aload_n 0, 1) ∧ decode cX1_copyFrom 66 = .ok (.getfield 22, 3)) ∧ decode cX1_copyFrom 69 = .ok (.iconst 0, 1))) ∧ (((decode cX1_copyFrom 70 = .ok (.aload_n 0, 1) ∧ decode cX1_copyFrom 71 = .ok (.getfield 22, 3)) ∧ decode cX1_copyFrom 74 = .ok (.arraylength, 1)) ∧ (decode cX1_copyFrom 75 = .ok (.invokestatic 31, 3) ∧ decode cX1_copyFrom 78 = .ok (.return_, 1)))) ∧ bA cX1_copyFrom 79 [] :=
  have q0 := fp_o43 fp_hdX1_copyFrom_0.2
  have q1 := fp_o180 (v := 22) q0.2 rfl
  have q2 := fp_o3 q1.2
  have q3 := fp_o42 q2.2
  have q4 := fp_o180 (v := 22) q3.2 rfl
  have q5 := fp_o3 q4.2
  have q6 := fp_o42 q5.2
  have q7 := fp_o180 (v := 22) q6.2 rfl
  have q8 := fp_o190 q7.2
  have q9 := fp_o184 (v := 31) q8.2 rfl
  have q10 := fp_o177 q9.2
  ⟨⟨⟨⟨⟨q0.1, q1.1⟩, q2.1⟩, ⟨⟨q3.1, q4.1⟩, q5.1⟩⟩, ⟨⟨⟨q6.1, q7.1⟩, q8.1⟩, ⟨q9.1, q10.1⟩⟩⟩, q10.2⟩
theorem dX1_copyFrom_60 : decode cX1_copyFrom 60 = .ok (.aload_n 1, 1) := fp_hdX1_copyFrom_60.1.1.1.1.1
theorem dX1_copyFrom_61 : decode cX1_copyFrom 61 = .ok (.getfield 22, 3) := fp_hdX1_copyFrom_60.1.1.1.1.2
theorem dX1_copyFrom_64 : decode cX1_copyFrom 64 = .ok (.iconst 0, 1) := fp_hdX1_copyFrom_60.1.1.1.2
theorem dX1_copyFrom_65 : decode cX1_copyFrom 65 = .ok (.aload_n 0, 1) := fp_hdX1_copyFrom_60.1.1.2.1.1
theorem dX1_copyFrom_66 : decode cX1_copyFrom 66 = .ok (.getfield 22, 3) := fp_hdX1_copyFrom_60.1.1.2.1.2
theorem dX1_copyFrom_69 : decode cX1_copyFrom 69 = .ok (.iconst 0, 1) := fp_hdX1_copyFrom_60.1.1.2.2
theorem dX1_copyFrom_70 : decode cX1_copyFrom 70 = .ok (.aload_n 0, 1) := fp_hdX1_copyFrom_60.1.2.1.1.1
theorem dX1_copyFrom_71 : decode cX1_copyFrom 71 = .ok (.getfield 22, 3) := fp_hdX1_copyFrom_60.1.2.1.1.2
theorem dX1_copyFrom_74 : decode cX1_copyFrom 74 = .ok (.arraylength, 1) := fp_hdX1_copyFrom_60.1.2.1.2
theorem dX1_copyFrom_75 : decode cX1_copyFrom 75 = .ok (.invokestatic 31, 3) := fp_hdX1_copyFrom_60.1.2.2.1
theorem dX1_copyFrom_78 : decode cX1_copyFrom 78 = .ok (.return_, 1) := fp_hdX1_copyFrom_60.1.2.2.2
def fp_scX1_hasThing_0 : List Nat := 27 :: 155 :: 0 :: 15 :: 27 :: 42 :: 180 :: 0 :: 25 :: 162 :: 0 :: 7 :: 4 :: 167 :: 0 :: 4 :: 3 :: 172 :: []
theorem fp_bcX1_hasThing : bA cX1_hasThing 0 fp_scX1_hasThing_0 := show cX1_hasThing.data.toList.map UInt8.toNat = fp_scX1_hasThing_0 from by decide +kernel
theorem fp_hdX1_hasThing_0 : ((((decode cX1_hasThing 0 = .ok (.iload_n 1, 1) ∧ decode cX1_hasThing 1 = .ok (.ifCond .lt 15, 3)) ∧ decode cX1_hasThing 4 = .ok (.iload_n 1, 1)) ∧ (decode cX1_hasThing 5 = .ok (.aload_n 0, 1) ∧ decode cX1_hasThing 6 = .ok (.getfield 25, 3))) ∧ (((decode cX1_hasThing 9 = .ok (.if_icmp .ge 7, 3) ∧ decode cX1_hasThing 12 = .ok (.iconst 1, 1)) ∧ decode cX1_hasThing 13 = .ok (.goto 4, 3)) ∧ (decode cX1_hasThing 16 = .ok (.iconst 0, 1) ∧ decode cX1_hasThing 17 = .ok (.ireturn, 1)))) ∧ bA cX1_hasThing 18 [] :=
  have q0 := fp_o27 fp_bcX1_hasThing
  have q1 := fp_o155 (v := 15) q0.2 rfl
  have q2 := fp_o27 q1.2
  have q3 := fp_o42 q2.2
  have q4 := fp_o180 (v := 25) q3.2 rfl
  have q5 := fp_o162 (v := 7) q4.2 rfl
  have q6 := fp_o4 q5.2
  have q7 := fp_o167 (v := 4) q6.2 rfl
  have q8 := fp_o3 q7.2
  have q9 := fp_o172 q8.2
  ⟨⟨⟨⟨⟨q0.1, q1.1⟩, q2.1⟩, ⟨q3.1, q4.1⟩⟩, ⟨⟨⟨q5.1, q6.1⟩, q7.1⟩, ⟨q8.1, q9.1⟩⟩⟩, q9.2⟩
theorem dX1_hasThing_0 : decode cX1_hasThing 0 = .ok (.iload_n 1, 1) := fp_hdX1_hasThing_0.1.1.1.1.1
theorem dX1_hasThing_1 : decode cX1_hasThing 1 = .ok (.ifCond .lt 15, 3) := fp_hdX1_hasThing_0.1.1.1.1.2
theorem dX1_hasThing_4 : decode cX1_hasThing 4 = .ok (.iload_n 1, 1) := fp_hdX1_hasThing_0.1.1.1.2
theorem dX1_hasThing_5 : decode cX1_hasThing 5 = .ok (.aload_n 0, 1) := fp_hdX1_hasThing_0.1.1.2.1
theorem dX1_hasThing_6 : decode cX1_hasThing 6 = .ok (.getfield 25, 3) := fp_hdX1_hasThing_0.1.1.2.2
theorem dX1_hasThing_9 : decode cX1_hasThing 9 = .ok (.if_icmp .ge 7, 3) := fp_hdX1_hasThing_0.1.2.1.1.1
theorem dX1_hasThing_12 : decode cX1_hasThing 12 = .ok (.iconst 1, 1) := fp_hdX1_hasThing_0.1.2.1.1.2
theorem dX1_hasThing_13 : decode cX1_hasThing 13 = .ok (.goto 4, 3) := fp_hdX1_hasThing_0.1.2.1.2
theorem dX1_hasThing_16 : decode cX1_hasThing 16 = .ok (.iconst 0, 1) := fp_hdX1_hasThing_0.1.2.2.1
theorem dX1_hasThing_17 : decode cX1_hasThing 17 = .ok (.ireturn, 1) := fp_hdX1_hasThing_0.1.2.2.2
def fp_scX1_hasLine_0 : List Nat := 27 :: 155 :: 0 :: 15 :: 27 :: 42 :: 180 :: 0 :: 28 :: 162 :: 0 :: 7 :: 4 :: 167 :: 0 :: 4 :: 3 :: 172 :: []
theorem fp_bcX1_hasLine : bA cX1_hasLine 0 fp_scX1_hasLine_0 := show cX1_hasLine.data.toList.map UInt8.toNat = fp_scX1_hasLine_0 from by decide +kernel
theorem fp_hdX1_hasLine_0 : ((((decode cX1_hasLine 0 = .ok (.iload_n 1, 1) ∧ decode cX1_hasLine 1 = .ok (.ifCond .lt 15, 3)) ∧ decode cX1_hasLine 4 = .ok (.iload_n 1, 1)) ∧ (decode cX1_hasLine 5 = .ok (.aload_n 0, 1) ∧ decode cX1_hasLine 6 = .ok (.getfield 28, 3))) ∧ (((decode cX1_hasLine 9 = .ok (.if_icmp .ge 7, 3) ∧ decode cX1_hasLine 12 = .ok (.iconst 1, 1)) ∧ decode cX1_hasLine 13 = .ok (.goto 4, 3)) ∧ (decode cX1_hasLine 16 = .ok (.iconst 0, 1) ∧ decode cX1_hasLine 17 = .ok (.ireturn, 1)))) ∧ bA cX1_hasLine 18 [] :=
  have q0 := fp_o27 fp_bcX1_hasLine
  have q1 := fp_o155 (v := 15) q0.2 rfl
  have q2 := fp_o27 q1.2
  have q3 := fp_o42 q2.2
  have q4 := fp_o180 (v := 28) q3.2 rfl
  have q5 := fp_o162 (v := 7) q4.2 rfl
  have q6 := fp_o4 q5.2
  have q7 := fp_o167 (v := 4) q6.2 rfl
  have q8 := fp_o3 q7.2
  have q9 := fp_o172 q8.2
  ⟨⟨⟨⟨⟨q0.1, q1.1⟩, q2.1⟩, ⟨q3.1, q4.1⟩⟩, ⟨⟨⟨q5.1, q6.1⟩, q7.1⟩, ⟨q8.1, q9.1⟩⟩⟩, q9.2⟩
theorem dX1_hasLine_0 : decode cX1_hasLine 0 = .ok (.iload_n 1, 1) := fp_hdX1_hasLine_0.1.1.1.1.1
theorem dX1_hasLine_1 : decode cX1_hasLine 1 = .ok (.ifCond .lt 15, 3) := fp_hdX1_hasLine_0.1.1.1.1.2
theorem dX1_hasLine_4 : decode cX1_hasLine 4 = .ok (.iload_n 1, 1) := fp_hdX1_hasLine_0.1.1.1.2
theorem dX1_hasLine_5 : decode cX1_hasLine 5 = .ok (.aload_n 0, 1) := fp_hdX1_hasLine_0.1.1.2.1
theorem dX1_hasLine_6 : decode cX1_hasLine 6 = .ok (.getfield 28, 3) := fp_hdX1_hasLine_0.1.1.2.2
theorem dX1_hasLine_9 : decode cX1_hasLine 9 = .ok (.if_icmp .ge 7, 3) := fp_hdX1_hasLine_0.1.2.1.1.1
theorem dX1_hasLine_12 : decode cX1_hasLine 12 = .ok (.iconst 1, 1) := fp_hdX1_hasLine_0.1.2.1.1.2
theorem dX1_hasLine_13 : decode cX1_hasLine 13 = .ok (.goto 4, 3) := fp_hdX1_hasLine_0.1.2.1.2
theorem dX1_hasLine_16 : decode cX1_hasLine 16 = .ok (.iconst 0, 1) := fp_hdX1_hasLine_0.1.2.2.1
theorem dX1_hasLine_17 : decode cX1_hasLine 17 = .ok (.ireturn, 1) := fp_hdX1_hasLine_0.1.2.2.2
def fp_scX1_valueTo_0 : List Nat := 42 :: 180 :: 0 :: 19 :: 28 :: 7 :: 104 :: 27 :: 96 :: 46 :: 172 :: []
theorem fp_bcX1_valueTo : bA cX1_valueTo 0 fp_scX1_valueTo_0 := show cX1_valueTo.data.toList.map UInt8.toNat = fp_scX1_valueTo_0 from by decide +kernel
theorem fp_hdX1_valueTo_0 : ((((decode cX1_valueTo 0 = .ok (.aload_n 0, 1) ∧ decode cX1_valueTo 1 = .ok (.getfield 19, 3)) ∧ decode cX1_valueTo 4 = .ok (.iload_n 2, 1)) ∧ (decode cX1_valueTo 5 = .ok (.iconst 4, 1) ∧ decode cX1_valueTo 6 = .ok (.imul, 1))) ∧ ((decode cX1_valueTo 7 = .ok (.iload_n 1, 1) ∧ decode cX1_valueTo 8 = .ok (.iadd, 1)) ∧ (decode cX1_valueTo 9 = .ok (.iaload, 1) ∧ decode cX1_valueTo 10 = .ok (.ireturn, 1)))) ∧ bA cX1_valueTo 11 [] :=
  have q0 := fp_o42 fp_bcX1_valueTo
  have q1 := fp_o180 (v := 19) q0.2 rfl
  have q2 := fp_o28 q1.2
  have q3 := fp_o7 q2.2
  have q4 := fp_o104 q3.2
  have q5 := fp_o27 q4.2
  have q6 := fp_o96 q5.2
  have q7 := fp_o46 q6.2
  have q8 := fp_o172 q7.2
  ⟨⟨⟨⟨⟨q0.1, q1.1⟩, q2.1⟩, ⟨q3.1, q4.1⟩⟩, ⟨⟨q5.1, q6.1⟩, ⟨q7.1, q8.1⟩⟩⟩, q8.2⟩
theorem dX1_valueTo_0 : decode cX1_valueTo 0 = .ok (.aload_n 0, 1) := fp_hdX1_valueTo_0.1.1.1.1.1
theorem dX1_valueTo_1 : decode cX1_valueTo 1 = .ok (.getfield 19, 3) := fp_hdX1_valueTo_0.1.1.1.1.2
theorem dX1_valueTo_4 : decode cX1_valueTo 4 = .ok (.iload_n 2, 1) := fp_hdX1_valueTo_0.1.1.1.2
theorem dX1_valueTo_5 : decode cX1_valueTo 5 = .ok (.iconst 4, 1) := fp_hdX1_valueTo_0.1.1.2.1
theorem dX1_valueTo_6 : decode cX1_valueTo 6 = .ok (.imul, 1) := fp_hdX1_valueTo_0.1.1.2.2
theorem dX1_valueTo_7 : decode cX1_valueTo 7 = .ok (.iload_n 1, 1) := fp_hdX1_valueTo_0.1.2.1.1
theorem dX1_valueTo_8 : decode cX1_valueTo 8 = .ok (.iadd, 1) := fp_hdX1_valueTo_0.1.2.1.2
theorem dX1_valueTo_9 : decode cX1_valueTo 9 = .ok (.iaload, 1) := fp_hdX1_valueTo_0.1.2.2.1
theorem dX1_valueTo_10 : decode cX1_valueTo 10 = .ok (.ireturn, 1) := fp_hdX1_valueTo_0.1.2.2.2
def fp_scX2_init_0 : List Nat := 42 :: 183 :: 0 :: 1 :: 42 :: 187 :: 0 :: 7 :: 89 :: 183 :: 0 :: 9 :: 181 :: 0 :: 10 :: 42 :: 187 :: 0 :: 16 :: 89 :: 183 :: 0 :: 18 :: 181 :: 0 :: 19 :: 42 :: 187 :: 0 :: 23 :: 89 :: 183 :: 0 :: 25 :: 181 :: 0 :: 26 :: 177 :: []
theorem fp_bcX2_init : bA cX2_init 0 fp_scX2_init_0 := show cX2_init.data.toList.map UInt8.toNat = fp_scX2_init_0 from by decide +kernel
theorem fp_hdX2_init_0 : (((((decode cX2_init 0 = .ok (.aload_n 0, 1) ∧ decode cX2_init 1 = .ok (.invokespecial 1, 3)) ∧ decode cX2_init 4 = .ok (.aload_n 0, 1)) ∧ (decode cX2_init 5 = .ok (.new 7, 3) ∧ decode cX2_init 8 = .ok (.dup, 1))) ∧ ((decode cX2_init 9 = .ok (.invokespecial 9, 3) ∧ decode cX2_init 12 = .ok (.putfield 10, 3)) ∧ (decode cX2_init 15 = .ok (.aload_n 0, 1) ∧ decode cX2_init 16 = .ok (.new 16, 3)))) ∧ ((((decode cX2_init 19 = .ok (.dup, 1) ∧ decode cX2_init 20 = .ok (.invokespecial 18, 3)) ∧ decode cX2_init 23 = .ok (.putfield 19, 3)) ∧ (decode cX2_init 26 = .ok (.aload_n 0, 1) ∧ decode cX2_init 27 = .ok (.new 23, 3))) ∧ ((decode cX2_init 30 = .ok (.dup, 1) ∧ decode cX2_init 31 = .ok (.invokespecial 25, 3)) ∧ (decode cX2_init 34 = .ok (.putfield 26, 3) ∧ decode cX2_init 37 = .ok (.return_, 1))))) ∧ bA cX2_init 38 [] :=
  have q0 := fp_o42 fp_bcX2_init
  have q1 := fp_o183 (v := 1) q0.2 rfl
  have q2 := fp_o42 q1.2
  have q3 := fp_o187 (v := 7) q2.2 rfl
  have q4 := fp_o89 q3.2
  have q5 := fp_o183 (v := 9) q4.2 rfl
  have q6 := fp_o181 (v := 10) q5.2 rfl
  have q7 := fp_o42 q6.2
  have q8 := fp_o187 (v := 16) q7.2 rfl
  have q9 := fp_o89 q8.2
  have q10 := fp_o183 (v := 18) q9.2 rfl
  have q11 := fp_o181 (v := 19) q10.2 rfl
  have q12 := fp_o42 q11.2
  have q13 := fp_o187 (v := 23) q12.2 rfl
  have q14 := fp_o89 q13.2
  have q15 := fp_o183 (v := 25) q14.2 rfl
  have q16 := fp_o181 (v := 26) q15.2 rfl
  have q17 := fp_o177 q16.2
  ⟨⟨⟨⟨⟨⟨q0.1, q1.1⟩, q2.1⟩, ⟨q3.1, q4.1⟩⟩, ⟨⟨q5.1, q6.1⟩, ⟨q7.1, q8.1⟩⟩⟩, ⟨⟨⟨⟨q9.1, q10.1⟩, q11.1⟩, ⟨q12.1, q13.1⟩⟩, ⟨⟨q14.1, q15.1⟩, ⟨q16.1, q17.1⟩⟩⟩⟩, q17.2⟩
theorem dX2_init_0 : decode cX2_init 0 = .ok (.aload_n 0, 1) := fp_hdX2_init_0.1.1.1.1.1.1
theorem dX2_init_1 : decode cX2_init 1 = .ok (.invokespecial 1, 3) := fp_hdX2_init_0.1.1.1.1.1.2
theorem dX2_init_4 : decode cX2_init 4 = .ok (.aload_n 0, 1) := fp_hdX2_init_0.1.1.1.1.2
theorem dX2_init_5 : decode cX2_init 5 = .ok (.new 7, 3) := fp_hdX2_init_0.1.1.1.2.1
theorem dX2_init_8 : decode cX2_init 8 = .ok (.dup, 1) := fp_hdX2_init_0.1.1.1.2.2
theorem dX2_init_9 : decode cX2_init 9 = .ok (.invokespecial 9, 3) := fp_hdX2_init_0.1.1.2.1.1
theorem dX2_init_12 : decode cX2_init 12 = .ok (.putfield 10, 3) := fp_hdX2_init_0.1.1.2.1.2
theorem dX2_init_15 : decode cX2_init 15 = .ok (.aload_n 0, 1) := fp_hdX2_init_0.1.1.2.2.1
theorem dX2_init_16 : decode cX2_init 16 = .ok (.new 16, 3) := fp_hdX2_init_0.1.1.2.2.2
theorem dX2_init_19 : decode cX2_init 19 = .ok (.dup, 1) := fp_hdX2_init_0.1.2.1.1.1.1
theorem dX2_init_20 : decode cX2_init 20 = .ok (.invokespecial 18, 3) := fp_hdX2_init_0.1.2.1.1.1.2
theorem dX2_init_23 : decode cX2_init 23 = .ok (.putfield 19, 3) := fp_hdX2_init_0.1.2.1.1.2
theorem dX2_init_26 : decode cX2_init 26 = .ok (.aload_n 0, 1) := fp_hdX2_init_0.1.2.1.2.1
theorem dX2_init_27 : decode cX2_init 27 = .ok (.new 23, 3) := fp_hdX2_init_0.1.2.1.2.2
theorem dX2_init_30 : decode cX2_init 30 = .ok (.dup, 1) := fp_hdX2_init_0.1.2.2.1.1
theorem dX2_init_31 : decode cX2_init 31 = .ok (.invokespecial 25, 3) := fp_hdX2_init_0.1.2.2.1.2
theorem dX2_init_34 : decode cX2_init 34 = .ok (.putfield 26, 3) := fp_hdX2_init_0.1.2.2.2.1
theorem dX2_init_37 : decode cX2_init 37 = .ok (.return_, 1) := fp_hdX2_init_0.1.2.2.2.2
def fp_scX3_init_0 : List Nat := 42 :: 183 :: 0 :: 3 :: 42 :: 16 :: 8 :: 188 :: 10 :: 181 :: 0 :: 9 :: 177 :: []
theorem fp_bcX3_init : bA cX3_init 0 fp_scX3_init_0 := show cX3_init.data.toList.map UInt8.toNat = fp_scX3_init_0 from by decide +kernel
theorem fp_hdX3_init_0 : (((decode cX3_init 0 = .ok (.aload_n 0, 1) ∧ decode cX3_init 1 = .ok (.invokespecial 3, 3)) ∧ (decode cX3_init 4 = .ok (.aload_n 0, 1) ∧ decode cX3_init 5 = .ok (.bipush 8, 2))) ∧ ((decode cX3_init 7 = .ok (.newarray .int, 2) ∧ decode cX3_init 9 = .ok (.putfield 9, 3)) ∧ decode cX3_init 12 = .ok (.return_, 1))) ∧ bA cX3_init 13 [] :=
  have q0 := fp_o42 fp_bcX3_init
  have q1 := fp_o183 (v := 3) q0.2 rfl
  have q2 := fp_o42 q1.2
  have q3 := fp_o16 (v := 8) q2.2 rfl
  have q4 := fp_o188_10 q3.2
  have q5 := fp_o181 (v := 9) q4.2 rfl
  have q6 := fp_o177 q5.2
  ⟨⟨⟨⟨q0.1, q1.1⟩, ⟨q2.1, q3.1⟩⟩, ⟨⟨q4.1, q5.1⟩, q6.1⟩⟩, q6.2⟩
theorem dX3_init_0 : decode cX3_init 0 = .ok (.aload_n 0, 1) := fp_hdX3_init_0.1.1.1.1
theorem dX3_init_1 : decode cX3_init 1 = .ok (.invokespecial 3, 3) := fp_hdX3_init_0.1.1.1.2
theorem dX3_init_4 : decode cX3_init 4 = .ok (.aload_n 0, 1) := fp_hdX3_init_0.1.1.2.1
theorem dX3_init_5 : decode cX3_init 5 = .ok (.bipush 8, 2) := fp_hdX3_init_0.1.1.2.2
theorem dX3_init_7 : decode cX3_init 7 = .ok (.newarray .int, 2) := fp_hdX3_init_0.1.2.1.1
theorem dX3_init_9 : decode cX3_init 9 = .ok (.putfield 9, 3) := fp_hdX3_init_0.1.2.1.2
theorem dX3_init_12 : decode cX3_init 12 = .ok (.return_, 1) := fp_hdX3_init_0.1.2.2
def fp_scX3_copyFrom_0 : List Nat := 42 :: 43 :: 180 :: 0 :: 15 :: 181 :: 0 :: 15 :: 43 :: 180 :: 0 :: 9 :: 3 :: 42 :: 180 :: 0 :: 9 :: 3 :: 42 :: 180 :: 0 :: 9 :: 190 :: 184 :: 0 :: 19 :: 177 :: []
theorem fp_bcX3_copyFrom : bA cX3_copyFrom 0 fp_scX3_copyFrom_0 := show cX3_copyFrom.data.toList.map UInt8.toNat = fp_scX3_copyFrom_0 from by decide +kernel
theorem fp_hdX3_copyFrom_0 : ((((decode cX3_copyFrom 0 = .ok (.aload_n 0, 1) ∧ decode cX3_copyFrom 1 = .ok (.aload_n 1, 1)) ∧ (decode cX3_copyFrom 2 = .ok (.getfield 15, 3) ∧ decode cX3_copyFrom 5 = .ok (.putfield 15, 3))) ∧ ((decode cX3_copyFrom 8 = .ok (.aload_n 1, 1) ∧ decode cX3_copyFrom 9 = .ok (.getfield 9, 3)) ∧ (decode cX3_copyFrom 12 = .ok (.iconst 0, 1) ∧ decode cX3_copyFrom 13 = .ok (.aload_n 0, 1)))) ∧ (((decode cX3_copyFrom 14 = .ok (.getfield 9, 3) ∧ decode cX3_copyFrom 17 = .ok (.iconst 0, 1)) ∧ (decode cX3_copyFrom 18 = .ok (.aload_n 0, 1) ∧ decode cX3_copyFrom 19 = .ok (.getfield 9, 3))) ∧ ((decode cX3_copyFrom 22 = .ok (.arraylength, 1) ∧ decode cX3_copyFrom 23 = .ok (.invokestatic 19, 3)) ∧ decode cX3_copyFrom 26 = .ok (.return_, 1)))) ∧ bA cX3_copyFrom 27 [] :=
  have q0 := fp_o42 fp_bcX3_copyFrom
  have q1 := fp_o43 q0.2
  have q2 := fp_o180 (v := 15) q1.2 rfl
  have q3 := fp_o181 (v := 15) q2.2 rfl
  have q4 := fp_o43 q3.2
  have q5 := fp_o180 (v := 9) q4.2 rfl
  have q6 := fp_o3 q5.2
  have q7 := fp_o42 q6.2
  have q8 := fp_o180 (v := 9) q7.2 rfl
  have q9 := fp_o3 q8.2
  have q10 := fp_o42 q9.2
  have q11 := fp_o180 (v := 9) q10.2 rfl
  have q12 := fp_o190 q11.2
  have q13 := fp_o184 (v := 19) q12.2 rfl
  have q14 := fp_o177 q13.2
  ⟨⟨⟨⟨⟨q0.1, q1.1⟩, ⟨q2.1, q3.1⟩⟩, ⟨⟨q4.1, q5.1⟩, ⟨q6.1, q7.1⟩⟩⟩, ⟨⟨⟨q8.1, q9.1⟩, ⟨q10.1, q11.1⟩⟩, ⟨⟨q12.1, q13.1⟩, q14.1⟩⟩⟩, q14.2⟩
theorem dX3_copyFrom_0 : decode cX3_copyFrom 0 = .ok (.aload_n 0, 1) := fp_hdX3_copyFrom_0.1.1.1.1.1
theorem dX3_copyFrom_1 : decode cX3_copyFrom 1 = .ok (.aload_n 1, 1) := fp_hdX3_copyFrom_0.1.1.1.1.2
theorem dX3_copyFrom_2 : decode cX3_copyFrom 2 = .ok (.getfield 15, 3) := fp_hdX3_copyFrom_0.1.1.1.2.1
theorem dX3_copyFrom_5 : decode cX3_copyFrom 5 = .ok (.putfield 15, 3) := fp_hdX3_copyFrom_0.1.1.1.2.2
theorem dX3_copyFrom_8 : decode cX3_copyFrom 8 = .ok (.aload_n 1, 1) := fp_hdX3_copyFrom_0.1.1.2.1.1
theorem dX3_copyFrom_9 : decode cX3_copyFrom 9 = .ok (.getfield 9, 3) := fp_hdX3_copyFrom_0.1.1.2.1.2
theorem dX3_copyFrom_12 : decode cX3_copyFrom 12 = .ok (.iconst 0, 1) := fp_hdX3_copyFrom_0.1.1.2.2.1
theorem dX3_copyFrom_13 : decode cX3_copyFrom 13 = .ok (.aload_n 0, 1) := fp_hdX3_copyFrom_0.1.1.2.2.2
theorem dX3_copyFrom_14 : decode cX3_copyFrom 14 = .ok (.getfield 9, 3) := fp_hdX3_copyFrom_0.1.2.1.1.1
theorem dX3_copyFrom_17 : decode cX3_copyFrom 17 = .ok (.iconst 0, 1) := fp_hdX3_copyFrom_0.1.2.1.1.2
theorem dX3_copyFrom_18 : decode cX3_copyFrom 18 = .ok (.aload_n 0, 1) := fp_hdX3_copyFrom_0.1.2.1.2.1
theorem dX3_copyFrom_19 : decode cX3_copyFrom 19 = .ok (.getfield 9, 3) := fp_hdX3_copyFrom_0.1.2.1.2.2
theorem dX3_copyFrom_22 : decode cX3_copyFrom 22 = .ok (.arraylength, 1) := fp_hdX3_copyFrom_0.1.2.2.1.1
theorem dX3_copyFrom_23 : decode cX3_copyFrom 23 = .ok (.invokestatic 19, 3) := fp_hdX3_copyFrom_0.1.2.2.1.2
theorem dX3_copyFrom_26 : decode cX3_copyFrom 26 = .ok (.return_, 1) := fp_hdX3_copyFrom_0.1.2.2.2
def fp_scX3_spotOf_0 : List Nat := 3 :: 61 :: 28 :: 42 :: 180 :: 0 :: 15 :: 162 :: 0 :: 21 :: 42 :: 180 :: 0 :: 9 :: 28 :: 46 :: 27 :: 160 :: 0 :: 5 :: 28 :: 172 :: 132 :: 2 :: 1 :: 167 :: 255 :: 233 :: 16 :: 252 :: 172 :: []
theorem fp_bcX3_spotOf : bA cX3_spotOf 0 fp_scX3_spotOf_0 := show cX3_spotOf.data.toList.map UInt8.toNat = fp_scX3_spotOf_0 from by decide +kernel
theorem fp_hdX3_spotOf_0 : (((((decode cX3_spotOf 0 = .ok (.iconst 0, 1) ∧ decode cX3_spotOf 1 = .ok (.istore_n 2, 1)) ∧ decode cX3_spotOf 2 = .ok (.iload_n 2, 1)) ∧ (decode cX3_spotOf 3 = .ok (.aload_n 0, 1) ∧ decode cX3_spotOf 4 = .ok (.getfield 15, 3))) ∧ ((decode cX3_spotOf 7 = .ok (.if_icmp .ge 21, 3) ∧ decode cX3_spotOf 10 = .ok (.aload_n 0, 1)) ∧ (decode cX3_spotOf 11 = .ok (.getfield 9, 3) ∧ decode cX3_spotOf 14 = .ok (.iload_n 2, 1)))) ∧ ((((decode cX3_spotOf 15 = .ok (.iaload, 1) ∧ decode cX3_spotOf 16 = .ok (.iload_n 1, 1)) ∧ decode cX3_spotOf 17 = .ok (.if_icmp .ne 5, 3)) ∧ (decode cX3_spotOf 20 = .ok (.iload_n 2, 1) ∧ decode cX3_spotOf 21 = .ok (.ireturn, 1))) ∧ ((decode cX3_spotOf 22 = .ok (.iinc 2 1, 3) ∧ decode cX3_spotOf 25 = .ok (.goto (-23), 3)) ∧ (decode cX3_spotOf 28 = .ok (.bipush (-4), 2) ∧ decode cX3_spotOf 30 = .ok (.ireturn, 1))))) ∧ bA cX3_spotOf 31 [] :=
  have q0 := fp_o3 fp_bcX3_spotOf
  have q1 := fp_o61 q0.2
  have q2 := fp_o28 q1.2
  have q3 := fp_o42 q2.2
  have q4 := fp_o180 (v := 15) q3.2 rfl
  have q5 := fp_o162 (v := 21) q4.2 rfl
  have q6 := fp_o42 q5.2
  have q7 := fp_o180 (v := 9) q6.2 rfl
  have q8 := fp_o28 q7.2
  have q9 := fp_o46 q8.2
  have q10 := fp_o27 q9.2
  have q11 := fp_o160 (v := 5) q10.2 rfl
  have q12 := fp_o28 q11.2
  have q13 := fp_o172 q12.2
  have q14 := fp_o132 (v := 1) q13.2 rfl
  have q15 := fp_o167 (v := (-23)) q14.2 rfl
  have q16 := fp_o16 (v := (-4)) q15.2 rfl
  have q17 := fp_o172 q16.2
  ⟨⟨⟨⟨⟨⟨q0.1, q1.1⟩, q2.1⟩, ⟨q3.1, q4.1⟩⟩, ⟨⟨q5.1, q6.1⟩, ⟨q7.1, q8.1⟩⟩⟩, ⟨⟨⟨⟨q9.1, q10.1⟩, q11.1⟩, ⟨q12.1, q13.1⟩⟩, ⟨⟨q14.1, q15.1⟩, ⟨q16.1, q17.1⟩⟩⟩⟩, q17.2⟩
theorem dX3_spotOf_0 : decode cX3_spotOf 0 = .ok (.iconst 0, 1) := fp_hdX3_spotOf_0.1.1.1.1.1.1
theorem dX3_spotOf_1 : decode cX3_spotOf 1 = .ok (.istore_n 2, 1) := fp_hdX3_spotOf_0.1.1.1.1.1.2
theorem dX3_spotOf_2 : decode cX3_spotOf 2 = .ok (.iload_n 2, 1) := fp_hdX3_spotOf_0.1.1.1.1.2
theorem dX3_spotOf_3 : decode cX3_spotOf 3 = .ok (.aload_n 0, 1) := fp_hdX3_spotOf_0.1.1.1.2.1
theorem dX3_spotOf_4 : decode cX3_spotOf 4 = .ok (.getfield 15, 3) := fp_hdX3_spotOf_0.1.1.1.2.2
theorem dX3_spotOf_7 : decode cX3_spotOf 7 = .ok (.if_icmp .ge 21, 3) := fp_hdX3_spotOf_0.1.1.2.1.1
theorem dX3_spotOf_10 : decode cX3_spotOf 10 = .ok (.aload_n 0, 1) := fp_hdX3_spotOf_0.1.1.2.1.2
theorem dX3_spotOf_11 : decode cX3_spotOf 11 = .ok (.getfield 9, 3) := fp_hdX3_spotOf_0.1.1.2.2.1
theorem dX3_spotOf_14 : decode cX3_spotOf 14 = .ok (.iload_n 2, 1) := fp_hdX3_spotOf_0.1.1.2.2.2
theorem dX3_spotOf_15 : decode cX3_spotOf 15 = .ok (.iaload, 1) := fp_hdX3_spotOf_0.1.2.1.1.1.1
theorem dX3_spotOf_16 : decode cX3_spotOf 16 = .ok (.iload_n 1, 1) := fp_hdX3_spotOf_0.1.2.1.1.1.2
theorem dX3_spotOf_17 : decode cX3_spotOf 17 = .ok (.if_icmp .ne 5, 3) := fp_hdX3_spotOf_0.1.2.1.1.2
theorem dX3_spotOf_20 : decode cX3_spotOf 20 = .ok (.iload_n 2, 1) := fp_hdX3_spotOf_0.1.2.1.2.1
theorem dX3_spotOf_21 : decode cX3_spotOf 21 = .ok (.ireturn, 1) := fp_hdX3_spotOf_0.1.2.1.2.2
theorem dX3_spotOf_22 : decode cX3_spotOf 22 = .ok (.iinc 2 1, 3) := fp_hdX3_spotOf_0.1.2.2.1.1
theorem dX3_spotOf_25 : decode cX3_spotOf 25 = .ok (.goto (-23), 3) := fp_hdX3_spotOf_0.1.2.2.1.2
theorem dX3_spotOf_28 : decode cX3_spotOf 28 = .ok (.bipush (-4), 2) := fp_hdX3_spotOf_0.1.2.2.2.1
theorem dX3_spotOf_30 : decode cX3_spotOf 30 = .ok (.ireturn, 1) := fp_hdX3_spotOf_0.1.2.2.2.2
def fp_scX3_add_0 : List Nat := 42 :: 180 :: 0 :: 15 :: 16 :: 8 :: 161 :: 0 :: 5 :: 3 :: 172 :: 42 :: 180 :: 0 :: 9 :: 42 :: 180 :: 0 :: 15 :: 27 :: 79 :: 42 :: 89 :: 180 :: 0 :: 15 :: 4 :: 96 :: 181 :: 0 :: 15 :: 4 :: 172 :: []
theorem fp_bcX3_add : bA cX3_add 0 fp_scX3_add_0 := show cX3_add.data.toList.map UInt8.toNat = fp_scX3_add_0 from by decide +kernel
theorem fp_hdX3_add_0 : (((((decode cX3_add 0 = .ok (.aload_n 0, 1) ∧ decode cX3_add 1 = .ok (.getfield 15, 3)) ∧ decode cX3_add 4 = .ok (.bipush 8, 2)) ∧ (decode cX3_add 6 = .ok (.if_icmp .lt 5, 3) ∧ decode cX3_add 9 = .ok (.iconst 0, 1))) ∧ (((decode cX3_add 10 = .ok (.ireturn, 1) ∧ decode cX3_add 11 = .ok (.aload_n 0, 1)) ∧ decode cX3_add 12 = .ok (.getfield 9, 3)) ∧ (decode cX3_add 15 = .ok (.aload_n 0, 1) ∧ decode cX3_add 16 = .ok (.getfield 15, 3)))) ∧ ((((decode cX3_add 19 = .ok (.iload_n 1, 1) ∧ decode cX3_add 20 = .ok (.iastore, 1)) ∧ decode cX3_add 21 = .ok (.aload_n 0, 1)) ∧ (decode cX3_add 22 = .ok (.dup, 1) ∧ decode cX3_add 23 = .ok (.getfield 15, 3))) ∧ (((decode cX3_add 26 = .ok (.iconst 1, 1) ∧ decode cX3_add 27 = .ok (.iadd, 1)) ∧ decode cX3_add 28 = .ok (.putfield 15, 3)) ∧ (decode cX3_add 31 = .ok (.iconst 1, 1) ∧ decode cX3_add 32 = .ok (.ireturn, 1))))) ∧ bA cX3_add 33 [] :=
  have q0 := fp_o42 fp_bcX3_add
  have q1 := fp_o180 (v := 15) q0.2 rfl
  have q2 := fp_o16 (v := 8) q1.2 rfl
  have q3 := fp_o161 (v := 5) q2.2 rfl
  have q4 := fp_o3 q3.2
  have q5 := fp_o172 q4.2
  have q6 := fp_o42 q5.2
  have q7 := fp_o180 (v := 9) q6.2 rfl
  have q8 := fp_o42 q7.2
  have q9 := fp_o180 (v := 15) q8.2 rfl
  have q10 := fp_o27 q9.2
  have q11 := fp_o79 q10.2
  have q12 := fp_o42 q11.2
  have q13 := fp_o89 q12.2
  have q14 := fp_o180 (v := 15) q13.2 rfl
  have q15 := fp_o4 q14.2
  have q16 := fp_o96 q15.2
  have q17 := fp_o181 (v := 15) q16.2 rfl
  have q18 := fp_o4 q17.2
  have q19 := fp_o172 q18.2
  ⟨⟨⟨⟨⟨⟨q0.1, q1.1⟩, q2.1⟩, ⟨q3.1, q4.1⟩⟩, ⟨⟨⟨q5.1, q6.1⟩, q7.1⟩, ⟨q8.1, q9.1⟩⟩⟩, ⟨⟨⟨⟨q10.1, q11.1⟩, q12.1⟩, ⟨q13.1, q14.1⟩⟩, ⟨⟨⟨q15.1, q16.1⟩, q17.1⟩, ⟨q18.1, q19.1⟩⟩⟩⟩, q19.2⟩
theorem dX3_add_0 : decode cX3_add 0 = .ok (.aload_n 0, 1) := fp_hdX3_add_0.1.1.1.1.1.1
theorem dX3_add_1 : decode cX3_add 1 = .ok (.getfield 15, 3) := fp_hdX3_add_0.1.1.1.1.1.2
theorem dX3_add_4 : decode cX3_add 4 = .ok (.bipush 8, 2) := fp_hdX3_add_0.1.1.1.1.2
theorem dX3_add_6 : decode cX3_add 6 = .ok (.if_icmp .lt 5, 3) := fp_hdX3_add_0.1.1.1.2.1
theorem dX3_add_9 : decode cX3_add 9 = .ok (.iconst 0, 1) := fp_hdX3_add_0.1.1.1.2.2
theorem dX3_add_10 : decode cX3_add 10 = .ok (.ireturn, 1) := fp_hdX3_add_0.1.1.2.1.1.1
theorem dX3_add_11 : decode cX3_add 11 = .ok (.aload_n 0, 1) := fp_hdX3_add_0.1.1.2.1.1.2
theorem dX3_add_12 : decode cX3_add 12 = .ok (.getfield 9, 3) := fp_hdX3_add_0.1.1.2.1.2
theorem dX3_add_15 : decode cX3_add 15 = .ok (.aload_n 0, 1) := fp_hdX3_add_0.1.1.2.2.1
theorem dX3_add_16 : decode cX3_add 16 = .ok (.getfield 15, 3) := fp_hdX3_add_0.1.1.2.2.2
theorem dX3_add_19 : decode cX3_add 19 = .ok (.iload_n 1, 1) := fp_hdX3_add_0.1.2.1.1.1.1
theorem dX3_add_20 : decode cX3_add 20 = .ok (.iastore, 1) := fp_hdX3_add_0.1.2.1.1.1.2
theorem dX3_add_21 : decode cX3_add 21 = .ok (.aload_n 0, 1) := fp_hdX3_add_0.1.2.1.1.2
theorem dX3_add_22 : decode cX3_add 22 = .ok (.dup, 1) := fp_hdX3_add_0.1.2.1.2.1
theorem dX3_add_23 : decode cX3_add 23 = .ok (.getfield 15, 3) := fp_hdX3_add_0.1.2.1.2.2
theorem dX3_add_26 : decode cX3_add 26 = .ok (.iconst 1, 1) := fp_hdX3_add_0.1.2.2.1.1.1
theorem dX3_add_27 : decode cX3_add 27 = .ok (.iadd, 1) := fp_hdX3_add_0.1.2.2.1.1.2
theorem dX3_add_28 : decode cX3_add 28 = .ok (.putfield 15, 3) := fp_hdX3_add_0.1.2.2.1.2
theorem dX3_add_31 : decode cX3_add 31 = .ok (.iconst 1, 1) := fp_hdX3_add_0.1.2.2.2.1
theorem dX3_add_32 : decode cX3_add 32 = .ok (.ireturn, 1) := fp_hdX3_add_0.1.2.2.2.2
def fp_scX4_init_0 : List Nat := 42 :: 183 :: 0 :: 3 :: 42 :: 16 :: 8 :: 188 :: 10 :: 181 :: 0 :: 9 :: 42 :: 16 :: 8 :: 188 :: 10 :: 181 :: 0 :: 15 :: 177 :: []
theorem fp_bcX4_init : bA cX4_init 0 fp_scX4_init_0 := show cX4_init.data.toList.map UInt8.toNat = fp_scX4_init_0 from by decide +kernel
theorem fp_hdX4_init_0 : ((((decode cX4_init 0 = .ok (.aload_n 0, 1) ∧ decode cX4_init 1 = .ok (.invokespecial 3, 3)) ∧ decode cX4_init 4 = .ok (.aload_n 0, 1)) ∧ ((decode cX4_init 5 = .ok (.bipush 8, 2) ∧ decode cX4_init 7 = .ok (.newarray .int, 2)) ∧ decode cX4_init 9 = .ok (.putfield 9, 3))) ∧ (((decode cX4_init 12 = .ok (.aload_n 0, 1) ∧ decode cX4_init 13 = .ok (.bipush 8, 2)) ∧ decode cX4_init 15 = .ok (.newarray .int, 2)) ∧ (decode cX4_init 17 = .ok (.putfield 15, 3) ∧ decode cX4_init 20 = .ok (.return_, 1)))) ∧ bA cX4_init 21 [] :=
  have q0 := fp_o42 fp_bcX4_init
  have q1 := fp_o183 (v := 3) q0.2 rfl
  have q2 := fp_o42 q1.2
  have q3 := fp_o16 (v := 8) q2.2 rfl
  have q4 := fp_o188_10 q3.2
  have q5 := fp_o181 (v := 9) q4.2 rfl
  have q6 := fp_o42 q5.2
  have q7 := fp_o16 (v := 8) q6.2 rfl
  have q8 := fp_o188_10 q7.2
  have q9 := fp_o181 (v := 15) q8.2 rfl
  have q10 := fp_o177 q9.2
  ⟨⟨⟨⟨⟨q0.1, q1.1⟩, q2.1⟩, ⟨⟨q3.1, q4.1⟩, q5.1⟩⟩, ⟨⟨⟨q6.1, q7.1⟩, q8.1⟩, ⟨q9.1, q10.1⟩⟩⟩, q10.2⟩
theorem dX4_init_0 : decode cX4_init 0 = .ok (.aload_n 0, 1) := fp_hdX4_init_0.1.1.1.1.1
theorem dX4_init_1 : decode cX4_init 1 = .ok (.invokespecial 3, 3) := fp_hdX4_init_0.1.1.1.1.2
theorem dX4_init_4 : decode cX4_init 4 = .ok (.aload_n 0, 1) := fp_hdX4_init_0.1.1.1.2
theorem dX4_init_5 : decode cX4_init 5 = .ok (.bipush 8, 2) := fp_hdX4_init_0.1.1.2.1.1
theorem dX4_init_7 : decode cX4_init 7 = .ok (.newarray .int, 2) := fp_hdX4_init_0.1.1.2.1.2
theorem dX4_init_9 : decode cX4_init 9 = .ok (.putfield 9, 3) := fp_hdX4_init_0.1.1.2.2
theorem dX4_init_12 : decode cX4_init 12 = .ok (.aload_n 0, 1) := fp_hdX4_init_0.1.2.1.1.1
theorem dX4_init_13 : decode cX4_init 13 = .ok (.bipush 8, 2) := fp_hdX4_init_0.1.2.1.1.2
theorem dX4_init_15 : decode cX4_init 15 = .ok (.newarray .int, 2) := fp_hdX4_init_0.1.2.1.2
theorem dX4_init_17 : decode cX4_init 17 = .ok (.putfield 15, 3) := fp_hdX4_init_0.1.2.2.1
theorem dX4_init_20 : decode cX4_init 20 = .ok (.return_, 1) := fp_hdX4_init_0.1.2.2.2
def fp_scX4_prepare_0 : List Nat := 42 :: 43 :: 180 :: 0 :: 18 :: 29 :: 46 :: 181 :: 0 :: 23 :: 42 :: 44 :: 180 :: 0 :: 26 :: 29 :: 46 :: 181 :: 0 :: 31 :: 44 :: 180 :: 0 :: 33 :: 29 :: 16 :: 8 :: 104 :: 42 :: 180 :: 0 :: 9 :: 3 :: 16 :: 8 :: 184 :: 0 :: 36 :: 177 :: []
theorem fp_bcX4_prepare : bA cX4_prepare 0 fp_scX4_prepare_0 := show cX4_prepare.data.toList.map UInt8.toNat = fp_scX4_prepare_0 from by decide +kernel
theorem fp_hdX4_prepare_0 : (((((decode cX4_prepare 0 = .ok (.aload_n 0, 1) ∧ decode cX4_prepare 1 = .ok (.aload_n 1, 1)) ∧ decode cX4_prepare 2 = .ok (.getfield 18, 3)) ∧ ((decode cX4_prepare 5 = .ok (.iload_n 3, 1) ∧ decode cX4_prepare 6 = .ok (.iaload, 1)) ∧ decode cX4_prepare 7 = .ok (.putfield 23, 3))) ∧ (((decode cX4_prepare 10 = .ok (.aload_n 0, 1) ∧ decode cX4_prepare 11 = .ok (.aload_n 2, 1)) ∧ decode cX4_prepare 12 = .ok (.getfield 26, 3)) ∧ ((decode cX4_prepare 15 = .ok (.iload_n 3, 1) ∧ decode cX4_prepare 16 = .ok (.iaload, 1)) ∧ decode cX4_prepare 17 = .ok (.putfield 31, 3)))) ∧ ((((decode cX4_prepare 20 = .ok (.aload_n 2, 1) ∧ decode cX4_prepare 21 = .ok (.getfield 33, 3)) ∧ decode cX4_prepare 24 = .ok (.iload_n 3, 1)) ∧ ((decode cX4_prepare 25 = .ok (.bipush 8, 2) ∧ decode cX4_prepare 27 = .ok (.imul, 1)) ∧ decode cX4_prepare 28 = .ok (.aload_n 0, 1))) ∧ (((decode cX4_prepare 29 = .ok (.getfield 9, 3) ∧ decode cX4_prepare 32 = .ok (.iconst 0, 1)) ∧ decode cX4_prepare 33 = .ok (.bipush 8, 2)) ∧ (decode cX4_prepare 35 = .ok (.invokestatic 36, 3) ∧ decode cX4_prepare 38 = .ok (.return_, 1))))) ∧ bA cX4_prepare 39 [] :=
  have q0 := fp_o42 fp_bcX4_prepare
  have q1 := fp_o43 q0.2
  have q2 := fp_o180 (v := 18) q1.2 rfl
  have q3 := fp_o29 q2.2
  have q4 := fp_o46 q3.2
  have q5 := fp_o181 (v := 23) q4.2 rfl
  have q6 := fp_o42 q5.2
  have q7 := fp_o44 q6.2
  have q8 := fp_o180 (v := 26) q7.2 rfl
  have q9 := fp_o29 q8.2
  have q10 := fp_o46 q9.2
  have q11 := fp_o181 (v := 31) q10.2 rfl
  have q12 := fp_o44 q11.2
  have q13 := fp_o180 (v := 33) q12.2 rfl
  have q14 := fp_o29 q13.2
  have q15 := fp_o16 (v := 8) q14.2 rfl
  have q16 := fp_o104 q15.2
  have q17 := fp_o42 q16.2
  have q18 := fp_o180 (v := 9) q17.2 rfl
  have q19 := fp_o3 q18.2
  have q20 := fp_o16 (v := 8) q19.2 rfl
  have q21 := fp_o184 (v := 36) q20.2 rfl
  have q22 := fp_o177 q21.2
  ⟨⟨⟨⟨⟨⟨q0.1, q1.1⟩, q2.1⟩, ⟨⟨q3.1, q4.1⟩, q5.1⟩⟩, ⟨⟨⟨q6.1, q7.1⟩, q8.1⟩, ⟨⟨q9.1, q10.1⟩, q11.1⟩⟩⟩, ⟨⟨⟨⟨q12.1, q13.1⟩, q14.1⟩, ⟨⟨q15.1, q16.1⟩, q17.1⟩⟩, ⟨⟨⟨q18.1, q19.1⟩, q20.1⟩, ⟨q21.1, q22.1⟩⟩⟩⟩, q22.2⟩
theorem dX4_prepare_0 : decode cX4_prepare 0 = .ok (.aload_n 0, 1) := fp_hdX4_prepare_0.1.1.1.1.1.1
theorem dX4_prepare_1 : decode cX4_prepare 1 = .ok (.aload_n 1, 1) := fp_hdX4_prepare_0.1.1.1.1.1.2
theorem dX4_prepare_2 : decode cX4_prepare 2 = .ok (.getfield 18, 3) := fp_hdX4_prepare_0.1.1.1.1.2
theorem dX4_prepare_5 : decode cX4_prepare 5 = .ok (.iload_n 3, 1) := fp_hdX4_prepare_0.1.1.1.2.1.1
theorem dX4_prepare_6 : decode cX4_prepare 6 = .ok (.iaload, 1) := fp_hdX4_prepare_0.1.1.1.2.1.2
theorem dX4_prepare_7 : decode cX4_prepare 7 = .ok (.putfield 23, 3) := fp_hdX4_prepare_0.1.1.1.2.2
theorem dX4_prepare_10 : decode cX4_prepare 10 = .ok (.aload_n 0, 1) := fp_hdX4_prepare_0.1.1.2.1.1.1
theorem dX4_prepare_11 : decode cX4_prepare 11 = .ok (.aload_n 2, 1) := fp_hdX4_prepare_0.1.1.2.1.1.2
theorem dX4_prepare_12 : decode cX4_prepare 12 = .ok (.getfield 26, 3) := fp_hdX4_prepare_0.1.1.2.1.2
theorem dX4_prepare_15 : decode cX4_prepare 15 = .ok (.iload_n 3, 1) := fp_hdX4_prepare_0.1.1.2.2.1.1
theorem dX4_prepare_16 : decode cX4_prepare 16 = .ok (.iaload, 1) := fp_hdX4_prepare_0.1.1.2.2.1.2
theorem dX4_prepare_17 : decode cX4_prepare 17 = .ok (.putfield 31, 3) := fp_hdX4_prepare_0.1.1.2.2.2
theorem dX4_prepare_20 : decode cX4_prepare 20 = .ok (.aload_n 2, 1) := fp_hdX4_prepare_0.1.2.1.1.1.1
theorem dX4_prepare_21 : decode cX4_prepare 21 = .ok (.getfield 33, 3) := fp_hdX4_prepare_0.1.2.1.1.1.2
theorem dX4_prepare_24 : decode cX4_prepare 24 = .ok (.iload_n 3, 1) := fp_hdX4_prepare_0.1.2.1.1.2
theorem dX4_prepare_25 : decode cX4_prepare 25 = .ok (.bipush 8, 2) := fp_hdX4_prepare_0.1.2.1.2.1.1
theorem dX4_prepare_27 : decode cX4_prepare 27 = .ok (.imul, 1) := fp_hdX4_prepare_0.1.2.1.2.1.2
theorem dX4_prepare_28 : decode cX4_prepare 28 = .ok (.aload_n 0, 1) := fp_hdX4_prepare_0.1.2.1.2.2
theorem dX4_prepare_29 : decode cX4_prepare 29 = .ok (.getfield 9, 3) := fp_hdX4_prepare_0.1.2.2.1.1.1
theorem dX4_prepare_32 : decode cX4_prepare 32 = .ok (.iconst 0, 1) := fp_hdX4_prepare_0.1.2.2.1.1.2
theorem dX4_prepare_33 : decode cX4_prepare 33 = .ok (.bipush 8, 2) := fp_hdX4_prepare_0.1.2.2.1.2
theorem dX4_prepare_35 : decode cX4_prepare 35 = .ok (.invokestatic 36, 3) := fp_hdX4_prepare_0.1.2.2.2.1
theorem dX4_prepare_38 : decode cX4_prepare 38 = .ok (.return_, 1) := fp_hdX4_prepare_0.1.2.2.2.2
def fp_scX4_weightThatCounts_0 : List Nat := 42 :: 180 :: 0 :: 23 :: 5 :: 160 :: 0 :: 12 :: 43 :: 180 :: 0 :: 42 :: 28 :: 46 :: 167 :: 0 :: 4 :: 3 :: 172 :: []
theorem fp_bcX4_weightThatCounts : bA cX4_weightThatCounts 0 fp_scX4_weightThatCounts_0 := show cX4_weightThatCounts.data.toList.map UInt8.toNat = fp_scX4_weightThatCounts_0 from by decide +kernel
theorem fp_hdX4_weightThatCounts_0 : ((((decode cX4_weightThatCounts 0 = .ok (.aload_n 0, 1) ∧ decode cX4_weightThatCounts 1 = .ok (.getfield 23, 3)) ∧ decode cX4_weightThatCounts 4 = .ok (.iconst 2, 1)) ∧ ((decode cX4_weightThatCounts 5 = .ok (.if_icmp .ne 12, 3) ∧ decode cX4_weightThatCounts 8 = .ok (.aload_n 1, 1)) ∧ decode cX4_weightThatCounts 9 = .ok (.getfield 42, 3))) ∧ (((decode cX4_weightThatCounts 12 = .ok (.iload_n 2, 1) ∧ decode cX4_weightThatCounts 13 = .ok (.iaload, 1)) ∧ decode cX4_weightThatCounts 14 = .ok (.goto 4, 3)) ∧ (decode cX4_weightThatCounts 17 = .ok (.iconst 0, 1) ∧ decode cX4_weightThatCounts 18 = .ok (.ireturn, 1)))) ∧ bA cX4_weightThatCounts 19 [] :=
  have q0 := fp_o42 fp_bcX4_weightThatCounts
  have q1 := fp_o180 (v := 23) q0.2 rfl
  have q2 := fp_o5 q1.2
  have q3 := fp_o160 (v := 12) q2.2 rfl
  have q4 := fp_o43 q3.2
  have q5 := fp_o180 (v := 42) q4.2 rfl
  have q6 := fp_o28 q5.2
  have q7 := fp_o46 q6.2
  have q8 := fp_o167 (v := 4) q7.2 rfl
  have q9 := fp_o3 q8.2
  have q10 := fp_o172 q9.2
  ⟨⟨⟨⟨⟨q0.1, q1.1⟩, q2.1⟩, ⟨⟨q3.1, q4.1⟩, q5.1⟩⟩, ⟨⟨⟨q6.1, q7.1⟩, q8.1⟩, ⟨q9.1, q10.1⟩⟩⟩, q10.2⟩
theorem dX4_weightThatCounts_0 : decode cX4_weightThatCounts 0 = .ok (.aload_n 0, 1) := fp_hdX4_weightThatCounts_0.1.1.1.1.1
theorem dX4_weightThatCounts_1 : decode cX4_weightThatCounts 1 = .ok (.getfield 23, 3) := fp_hdX4_weightThatCounts_0.1.1.1.1.2
theorem dX4_weightThatCounts_4 : decode cX4_weightThatCounts 4 = .ok (.iconst 2, 1) := fp_hdX4_weightThatCounts_0.1.1.1.2
theorem dX4_weightThatCounts_5 : decode cX4_weightThatCounts 5 = .ok (.if_icmp .ne 12, 3) := fp_hdX4_weightThatCounts_0.1.1.2.1.1
theorem dX4_weightThatCounts_8 : decode cX4_weightThatCounts 8 = .ok (.aload_n 1, 1) := fp_hdX4_weightThatCounts_0.1.1.2.1.2
theorem dX4_weightThatCounts_9 : decode cX4_weightThatCounts 9 = .ok (.getfield 42, 3) := fp_hdX4_weightThatCounts_0.1.1.2.2
theorem dX4_weightThatCounts_12 : decode cX4_weightThatCounts 12 = .ok (.iload_n 2, 1) := fp_hdX4_weightThatCounts_0.1.2.1.1.1
theorem dX4_weightThatCounts_13 : decode cX4_weightThatCounts 13 = .ok (.iaload, 1) := fp_hdX4_weightThatCounts_0.1.2.1.1.2
theorem dX4_weightThatCounts_14 : decode cX4_weightThatCounts 14 = .ok (.goto 4, 3) := fp_hdX4_weightThatCounts_0.1.2.1.2
theorem dX4_weightThatCounts_17 : decode cX4_weightThatCounts 17 = .ok (.iconst 0, 1) := fp_hdX4_weightThatCounts_0.1.2.2.1
theorem dX4_weightThatCounts_18 : decode cX4_weightThatCounts 18 = .ok (.ireturn, 1) := fp_hdX4_weightThatCounts_0.1.2.2.2
def fp_scX4_isMember_0 : List Nat := 3 :: 61 :: 28 :: 42 :: 180 :: 0 :: 31 :: 162 :: 0 :: 21 :: 42 :: 180 :: 0 :: 9 :: 28 :: 46 :: 27 :: 160 :: 0 :: 5 :: 4 :: 172 :: 132 :: 2 :: 1 :: 167 :: 255 :: 233 :: 3 :: 172 :: []
theorem fp_bcX4_isMember : bA cX4_isMember 0 fp_scX4_isMember_0 := show cX4_isMember.data.toList.map UInt8.toNat = fp_scX4_isMember_0 from by decide +kernel
theorem fp_hdX4_isMember_0 : (((((decode cX4_isMember 0 = .ok (.iconst 0, 1) ∧ decode cX4_isMember 1 = .ok (.istore_n 2, 1)) ∧ decode cX4_isMember 2 = .ok (.iload_n 2, 1)) ∧ (decode cX4_isMember 3 = .ok (.aload_n 0, 1) ∧ decode cX4_isMember 4 = .ok (.getfield 31, 3))) ∧ ((decode cX4_isMember 7 = .ok (.if_icmp .ge 21, 3) ∧ decode cX4_isMember 10 = .ok (.aload_n 0, 1)) ∧ (decode cX4_isMember 11 = .ok (.getfield 9, 3) ∧ decode cX4_isMember 14 = .ok (.iload_n 2, 1)))) ∧ ((((decode cX4_isMember 15 = .ok (.iaload, 1) ∧ decode cX4_isMember 16 = .ok (.iload_n 1, 1)) ∧ decode cX4_isMember 17 = .ok (.if_icmp .ne 5, 3)) ∧ (decode cX4_isMember 20 = .ok (.iconst 1, 1) ∧ decode cX4_isMember 21 = .ok (.ireturn, 1))) ∧ ((decode cX4_isMember 22 = .ok (.iinc 2 1, 3) ∧ decode cX4_isMember 25 = .ok (.goto (-23), 3)) ∧ (decode cX4_isMember 28 = .ok (.iconst 0, 1) ∧ decode cX4_isMember 29 = .ok (.ireturn, 1))))) ∧ bA cX4_isMember 30 [] :=
  have q0 := fp_o3 fp_bcX4_isMember
  have q1 := fp_o61 q0.2
  have q2 := fp_o28 q1.2
  have q3 := fp_o42 q2.2
  have q4 := fp_o180 (v := 31) q3.2 rfl
  have q5 := fp_o162 (v := 21) q4.2 rfl
  have q6 := fp_o42 q5.2
  have q7 := fp_o180 (v := 9) q6.2 rfl
  have q8 := fp_o28 q7.2
  have q9 := fp_o46 q8.2
  have q10 := fp_o27 q9.2
  have q11 := fp_o160 (v := 5) q10.2 rfl
  have q12 := fp_o4 q11.2
  have q13 := fp_o172 q12.2
  have q14 := fp_o132 (v := 1) q13.2 rfl
  have q15 := fp_o167 (v := (-23)) q14.2 rfl
  have q16 := fp_o3 q15.2
  have q17 := fp_o172 q16.2
  ⟨⟨⟨⟨⟨⟨q0.1, q1.1⟩, q2.1⟩, ⟨q3.1, q4.1⟩⟩, ⟨⟨q5.1, q6.1⟩, ⟨q7.1, q8.1⟩⟩⟩, ⟨⟨⟨⟨q9.1, q10.1⟩, q11.1⟩, ⟨q12.1, q13.1⟩⟩, ⟨⟨q14.1, q15.1⟩, ⟨q16.1, q17.1⟩⟩⟩⟩, q17.2⟩
theorem dX4_isMember_0 : decode cX4_isMember 0 = .ok (.iconst 0, 1) := fp_hdX4_isMember_0.1.1.1.1.1.1
theorem dX4_isMember_1 : decode cX4_isMember 1 = .ok (.istore_n 2, 1) := fp_hdX4_isMember_0.1.1.1.1.1.2
theorem dX4_isMember_2 : decode cX4_isMember 2 = .ok (.iload_n 2, 1) := fp_hdX4_isMember_0.1.1.1.1.2
theorem dX4_isMember_3 : decode cX4_isMember 3 = .ok (.aload_n 0, 1) := fp_hdX4_isMember_0.1.1.1.2.1
theorem dX4_isMember_4 : decode cX4_isMember 4 = .ok (.getfield 31, 3) := fp_hdX4_isMember_0.1.1.1.2.2
theorem dX4_isMember_7 : decode cX4_isMember 7 = .ok (.if_icmp .ge 21, 3) := fp_hdX4_isMember_0.1.1.2.1.1
theorem dX4_isMember_10 : decode cX4_isMember 10 = .ok (.aload_n 0, 1) := fp_hdX4_isMember_0.1.1.2.1.2
theorem dX4_isMember_11 : decode cX4_isMember 11 = .ok (.getfield 9, 3) := fp_hdX4_isMember_0.1.1.2.2.1
theorem dX4_isMember_14 : decode cX4_isMember 14 = .ok (.iload_n 2, 1) := fp_hdX4_isMember_0.1.1.2.2.2
theorem dX4_isMember_15 : decode cX4_isMember 15 = .ok (.iaload, 1) := fp_hdX4_isMember_0.1.2.1.1.1.1
theorem dX4_isMember_16 : decode cX4_isMember 16 = .ok (.iload_n 1, 1) := fp_hdX4_isMember_0.1.2.1.1.1.2
theorem dX4_isMember_17 : decode cX4_isMember 17 = .ok (.if_icmp .ne 5, 3) := fp_hdX4_isMember_0.1.2.1.1.2
theorem dX4_isMember_20 : decode cX4_isMember 20 = .ok (.iconst 1, 1) := fp_hdX4_isMember_0.1.2.1.2.1
theorem dX4_isMember_21 : decode cX4_isMember 21 = .ok (.ireturn, 1) := fp_hdX4_isMember_0.1.2.1.2.2
theorem dX4_isMember_22 : decode cX4_isMember 22 = .ok (.iinc 2 1, 3) := fp_hdX4_isMember_0.1.2.2.1.1
theorem dX4_isMember_25 : decode cX4_isMember 25 = .ok (.goto (-23), 3) := fp_hdX4_isMember_0.1.2.2.1.2
theorem dX4_isMember_28 : decode cX4_isMember 28 = .ok (.iconst 0, 1) := fp_hdX4_isMember_0.1.2.2.2.1
theorem dX4_isMember_29 : decode cX4_isMember 29 = .ok (.ireturn, 1) := fp_hdX4_isMember_0.1.2.2.2.2
def fp_scX4_canFit_0 : List Nat := 3 :: 62 :: 29 :: 44 :: 180 :: 0 :: 45 :: 162 :: 0 :: 34 :: 42 :: 44 :: 180 :: 0 :: 48 :: 29 :: 46 :: 182 :: 0 :: 51 :: 153 :: 0 :: 13 :: 42 :: 43 :: 44 :: 29 :: 182 :: 0 :: 55 :: 154 :: 0 :: 5 :: 3 :: 172 :: 132 :: 3 :: 1 :: 167 :: 255 :: 220 :: 4 :: 172 :: []
theorem fp_bcX4_canFit : bA cX4_canFit 0 fp_scX4_canFit_0 := show cX4_canFit.data.toList.map UInt8.toNat = fp_scX4_canFit_0 from by decide +kernel
theorem fp_hdX4_canFit_0 : (((((decode cX4_canFit 0 = .ok (.iconst 0, 1) ∧ decode cX4_canFit 1 = .ok (.istore_n 3, 1)) ∧ (decode cX4_canFit 2 = .ok (.iload_n 3, 1) ∧ decode cX4_canFit 3 = .ok (.aload_n 2, 1))) ∧ ((decode cX4_canFit 4 = .ok (.getfield 45, 3) ∧ decode cX4_canFit 7 = .ok (.if_icmp .ge 34, 3)) ∧ decode cX4_canFit 10 = .ok (.aload_n 0, 1))) ∧ (((decode cX4_canFit 11 = .ok (.aload_n 2, 1) ∧ decode cX4_canFit 12 = .ok (.getfield 48, 3)) ∧ decode cX4_canFit 15 = .ok (.iload_n 3, 1)) ∧ ((decode cX4_canFit 16 = .ok (.iaload, 1) ∧ decode cX4_canFit 17 = .ok (.invokevirtual 51, 3)) ∧ decode cX4_canFit 20 = .ok (.ifCond .eq 13, 3)))) ∧ ((((decode cX4_canFit 23 = .ok (.aload_n 0, 1) ∧ decode cX4_canFit 24 = .ok (.aload_n 1, 1)) ∧ decode cX4_canFit 25 = .ok (.aload_n 2, 1)) ∧ ((decode cX4_canFit 26 = .ok (.iload_n 3, 1) ∧ decode cX4_canFit 27 = .ok (.invokevirtual 55, 3)) ∧ decode cX4_canFit 30 = .ok (.ifCond .ne 5, 3))) ∧ (((decode cX4_canFit 33 = .ok (.iconst 0, 1) ∧ decode cX4_canFit 34 = .ok (.ireturn, 1)) ∧ decode cX4_canFit 35 = .ok (.iinc 3 1, 3)) ∧ ((decode cX4_canFit 38 = .ok (.goto (-36), 3) ∧ decode cX4_canFit 41 = .ok (.iconst 1, 1)) ∧ decode cX4_canFit 42 = .ok (.ireturn, 1))))) ∧ bA cX4_canFit 43 [] :=
  have q0 := fp_o3 fp_bcX4_canFit
  have q1 := fp_o62 q0.2
  have q2 := fp_o29 q1.2
  have q3 := fp_o44 q2.2
  have q4 := fp_o180 (v := 45) q3.2 rfl
  have q5 := fp_o162 (v := 34) q4.2 rfl
  have q6 := fp_o42 q5.2
  have q7 := fp_o44 q6.2
  have q8 := fp_o180 (v := 48) q7.2 rfl
  have q9 := fp_o29 q8.2
  have q10 := fp_o46 q9.2
  have q11 := fp_o182 (v := 51) q10.2 rfl
  have q12 := fp_o153 (v := 13) q11.2 rfl
  have q13 := fp_o42 q12.2
  have q14 := fp_o43 q13.2
  have q15 := fp_o44 q14.2
  have q16 := fp_o29 q15.2
  have q17 := fp_o182 (v := 55) q16.2 rfl
  have q18 := fp_o154 (v := 5) q17.2 rfl
  have q19 := fp_o3 q18.2
  have q20 := fp_o172 q19.2
  have q21 := fp_o132 (v := 1) q20.2 rfl
  have q22 := fp_o167 (v := (-36)) q21.2 rfl
  have q23 := fp_o4 q22.2
  have q24 := fp_o172 q23.2
  ⟨⟨⟨⟨⟨⟨q0.1, q1.1⟩, ⟨q2.1, q3.1⟩⟩, ⟨⟨q4.1, q5.1⟩, q6.1⟩⟩, ⟨⟨⟨q7.1, q8.1⟩, q9.1⟩, ⟨⟨q10.1, q11.1⟩, q12.1⟩⟩⟩, ⟨⟨⟨⟨q13.1, q14.1⟩, q15.1⟩, ⟨⟨q16.1, q17.1⟩, q18.1⟩⟩, ⟨⟨⟨q19.1, q20.1⟩, q21.1⟩, ⟨⟨q22.1, q23.1⟩, q24.1⟩⟩⟩⟩, q24.2⟩
theorem dX4_canFit_0 : decode cX4_canFit 0 = .ok (.iconst 0, 1) := fp_hdX4_canFit_0.1.1.1.1.1.1
theorem dX4_canFit_1 : decode cX4_canFit 1 = .ok (.istore_n 3, 1) := fp_hdX4_canFit_0.1.1.1.1.1.2
theorem dX4_canFit_2 : decode cX4_canFit 2 = .ok (.iload_n 3, 1) := fp_hdX4_canFit_0.1.1.1.1.2.1
theorem dX4_canFit_3 : decode cX4_canFit 3 = .ok (.aload_n 2, 1) := fp_hdX4_canFit_0.1.1.1.1.2.2
theorem dX4_canFit_4 : decode cX4_canFit 4 = .ok (.getfield 45, 3) := fp_hdX4_canFit_0.1.1.1.2.1.1
theorem dX4_canFit_7 : decode cX4_canFit 7 = .ok (.if_icmp .ge 34, 3) := fp_hdX4_canFit_0.1.1.1.2.1.2
theorem dX4_canFit_10 : decode cX4_canFit 10 = .ok (.aload_n 0, 1) := fp_hdX4_canFit_0.1.1.1.2.2
theorem dX4_canFit_11 : decode cX4_canFit 11 = .ok (.aload_n 2, 1) := fp_hdX4_canFit_0.1.1.2.1.1.1
theorem dX4_canFit_12 : decode cX4_canFit 12 = .ok (.getfield 48, 3) := fp_hdX4_canFit_0.1.1.2.1.1.2
theorem dX4_canFit_15 : decode cX4_canFit 15 = .ok (.iload_n 3, 1) := fp_hdX4_canFit_0.1.1.2.1.2
theorem dX4_canFit_16 : decode cX4_canFit 16 = .ok (.iaload, 1) := fp_hdX4_canFit_0.1.1.2.2.1.1
theorem dX4_canFit_17 : decode cX4_canFit 17 = .ok (.invokevirtual 51, 3) := fp_hdX4_canFit_0.1.1.2.2.1.2
theorem dX4_canFit_20 : decode cX4_canFit 20 = .ok (.ifCond .eq 13, 3) := fp_hdX4_canFit_0.1.1.2.2.2
theorem dX4_canFit_23 : decode cX4_canFit 23 = .ok (.aload_n 0, 1) := fp_hdX4_canFit_0.1.2.1.1.1.1
theorem dX4_canFit_24 : decode cX4_canFit 24 = .ok (.aload_n 1, 1) := fp_hdX4_canFit_0.1.2.1.1.1.2
theorem dX4_canFit_25 : decode cX4_canFit 25 = .ok (.aload_n 2, 1) := fp_hdX4_canFit_0.1.2.1.1.2
theorem dX4_canFit_26 : decode cX4_canFit 26 = .ok (.iload_n 3, 1) := fp_hdX4_canFit_0.1.2.1.2.1.1
theorem dX4_canFit_27 : decode cX4_canFit 27 = .ok (.invokevirtual 55, 3) := fp_hdX4_canFit_0.1.2.1.2.1.2
theorem dX4_canFit_30 : decode cX4_canFit 30 = .ok (.ifCond .ne 5, 3) := fp_hdX4_canFit_0.1.2.1.2.2
theorem dX4_canFit_33 : decode cX4_canFit 33 = .ok (.iconst 0, 1) := fp_hdX4_canFit_0.1.2.2.1.1.1
theorem dX4_canFit_34 : decode cX4_canFit 34 = .ok (.ireturn, 1) := fp_hdX4_canFit_0.1.2.2.1.1.2
theorem dX4_canFit_35 : decode cX4_canFit 35 = .ok (.iinc 3 1, 3) := fp_hdX4_canFit_0.1.2.2.1.2
theorem dX4_canFit_38 : decode cX4_canFit 38 = .ok (.goto (-36), 3) := fp_hdX4_canFit_0.1.2.2.2.1.1
theorem dX4_canFit_41 : decode cX4_canFit 41 = .ok (.iconst 1, 1) := fp_hdX4_canFit_0.1.2.2.2.1.2
theorem dX4_canFit_42 : decode cX4_canFit 42 = .ok (.ireturn, 1) := fp_hdX4_canFit_0.1.2.2.2.2
def fp_scX4_isLightestBehind_1 : List Nat := 154 :: 0 :: 22 :: 42 :: 43 :: 42 :: 180 :: 0 :: 9 :: 21 :: 5 :: 46 :: 182 :: 0 :: 59 :: 21 :: 4 :: 162 :: 0 :: 5 :: 3 :: 172 :: 132 :: 5 :: 1 :: 167 :: 255 :: 187 :: 4 :: 172 :: []
def fp_scX4_isLightestBehind_0 : List Nat := 42 :: 43 :: 44 :: 180 :: 0 :: 48 :: 29 :: 46 :: 182 :: 0 :: 59 :: 54 :: 4 :: 3 :: 54 :: 5 :: 21 :: 5 :: 42 :: 180 :: 0 :: 31 :: 162 :: 0 :: 66 :: 44 :: 42 :: 180 :: 0 :: 9 :: 21 :: 5 :: 46 :: 182 :: 0 :: 63 :: 54 :: 6 :: 21 :: 6 :: 16 :: 252 :: 159 :: 0 :: 13 :: 21 :: 6 :: 29 :: 162 :: 0 :: 7 :: 4 :: 167 :: 0 :: 4 :: 3 :: 54 :: 7 :: 21 :: 7 :: fp_scX4_isLightestBehind_1
theorem fp_bcX4_isLightestBehind : bA cX4_isLightestBehind 0 fp_scX4_isLightestBehind_0 := show cX4_isLightestBehind.data.toList.map UInt8.toNat = fp_scX4_isLightestBehind_0 from by decide +kernel
theorem fp_hdX4_isLightestBehind_0 : (((((decode cX4_isLightestBehind 0 = .ok (.aload_n 0, 1) ∧ decode cX4_isLightestBehind 1 = .ok (.aload_n 1, 1)) ∧ (decode cX4_isLightestBehind 2 = .ok (.aload_n 2, 1) ∧ decode cX4_isLightestBehind 3 = .ok (.getfield 48, 3))) ∧ ((decode cX4_isLightestBehind 6 = .ok (.iload_n 3, 1) ∧ decode cX4_isLightestBehind 7 = .ok (.iaload, 1)) ∧ (decode cX4_isLightestBehind 8 = .ok (.invokevirtual 59, 3) ∧ decode cX4_isLightestBehind 11 = .ok (.istore 4, 2)))) ∧ (((decode cX4_isLightestBehind 13 = .ok (.iconst 0, 1) ∧ decode cX4_isLightestBehind 14 = .ok (.istore 5, 2)) ∧ (decode cX4_isLightestBehind 16 = .ok (.iload 5, 2) ∧ decode cX4_isLightestBehind 18 = .ok (.aload_n 0, 1))) ∧ ((decode cX4_isLightestBehind 19 = .ok (.getfield 31, 3) ∧ decode cX4_isLightestBehind 22 = .ok (.if_icmp .ge 66, 3)) ∧ (decode cX4_isLightestBehind 25 = .ok (.aload_n 2, 1) ∧ decode cX4_isLightestBehind 26 = .ok (.aload_n 0, 1))))) ∧ ((((decode cX4_isLightestBehind 27 = .ok (.getfield 9, 3) ∧ decode cX4_isLightestBehind 30 = .ok (.iload 5, 2)) ∧ (decode cX4_isLightestBehind 32 = .ok (.iaload, 1) ∧ decode cX4_isLightestBehind 33 = .ok (.invokevirtual 63, 3))) ∧ ((decode cX4_isLightestBehind 36 = .ok (.istore 6, 2) ∧ decode cX4_isLightestBehind 38 = .ok (.iload 6, 2)) ∧ (decode cX4_isLightestBehind 40 = .ok (.bipush (-4), 2) ∧ decode cX4_isLightestBehind 42 = .ok (.if_icmp .eq 13, 3)))) ∧ (((decode cX4_isLightestBehind 45 = .ok (.iload 6, 2) ∧ decode cX4_isLightestBehind 47 = .ok (.iload_n 3, 1)) ∧ (decode cX4_isLightestBehind 48 = .ok (.if_icmp .ge 7, 3) ∧ decode cX4_isLightestBehind 51 = .ok (.iconst 1, 1))) ∧ ((decode cX4_isLightestBehind 52 = .ok (.goto 4, 3) ∧ decode cX4_isLightestBehind 55 = .ok (.iconst 0, 1)) ∧ (decode cX4_isLightestBehind 56 = .ok (.istore 7, 2) ∧ decode cX4_isLightestBehind 58 = .ok (.iload 7, 2)))))) ∧ bA cX4_isLightestBehind 60 fp_scX4_isLightestBehind_1 :=
  have q0 := fp_o42 fp_bcX4_isLightestBehind
  have q1 := fp_o43 q0.2
  have q2 := fp_o44 q1.2
  have q3 := fp_o180 (v := 48) q2.2 rfl
  have q4 := fp_o29 q3.2
  have q5 := fp_o46 q4.2
  have q6 := fp_o182 (v := 59) q5.2 rfl
  have q7 := fp_o54 q6.2
  have q8 := fp_o3 q7.2
  have q9 := fp_o54 q8.2
  have q10 := fp_o21 q9.2
  have q11 := fp_o42 q10.2
  have q12 := fp_o180 (v := 31) q11.2 rfl
  have q13 := fp_o162 (v := 66) q12.2 rfl
  have q14 := fp_o44 q13.2
  have q15 := fp_o42 q14.2
  have q16 := fp_o180 (v := 9) q15.2 rfl
  have q17 := fp_o21 q16.2
  have q18 := fp_o46 q17.2
  have q19 := fp_o182 (v := 63) q18.2 rfl
  have q20 := fp_o54 q19.2
  have q21 := fp_o21 q20.2
  have q22 := fp_o16 (v := (-4)) q21.2 rfl
  have q23 := fp_o159 (v := 13) q22.2 rfl
  have q24 := fp_o21 q23.2
  have q25 := fp_o29 q24.2
  have q26 := fp_o162 (v := 7) q25.2 rfl
  have q27 := fp_o4 q26.2
  have q28 := fp_o167 (v := 4) q27.2 rfl
  have q29 := fp_o3 q28.2
  have q30 := fp_o54 q29.2
  have q31 := fp_o21 q30.2
  ⟨⟨⟨⟨⟨⟨q0.1, q1.1⟩, ⟨q2.1, q3.1⟩⟩, ⟨⟨q4.1, q5.1⟩, ⟨q6.1, q7.1⟩⟩⟩, ⟨⟨⟨q8.1, q9.1⟩, ⟨q10.1, q11.1⟩⟩, ⟨⟨q12.1, q13.1⟩, ⟨q14.1, q15.1⟩⟩⟩⟩, ⟨⟨⟨⟨q16.1, q17.1⟩, ⟨q18.1, q19.1⟩⟩, ⟨⟨q20.1, q21.1⟩, ⟨q22.1, q23.1⟩⟩⟩, ⟨⟨⟨q24.1, q25.1⟩, ⟨q26.1, q27.1⟩⟩, ⟨⟨q28.1, q29.1⟩, ⟨q30.1, q31.1⟩⟩⟩⟩⟩, q31.2⟩
theorem dX4_isLightestBehind_0 : decode cX4_isLightestBehind 0 = .ok (.aload_n 0, 1) := fp_hdX4_isLightestBehind_0.1.1.1.1.1.1
theorem dX4_isLightestBehind_1 : decode cX4_isLightestBehind 1 = .ok (.aload_n 1, 1) := fp_hdX4_isLightestBehind_0.1.1.1.1.1.2
theorem dX4_isLightestBehind_2 : decode cX4_isLightestBehind 2 = .ok (.aload_n 2, 1) := fp_hdX4_isLightestBehind_0.1.1.1.1.2.1
theorem dX4_isLightestBehind_3 : decode cX4_isLightestBehind 3 = .ok (.getfield 48, 3) := fp_hdX4_isLightestBehind_0.1.1.1.1.2.2
theorem dX4_isLightestBehind_6 : decode cX4_isLightestBehind 6 = .ok (.iload_n 3, 1) := fp_hdX4_isLightestBehind_0.1.1.1.2.1.1
theorem dX4_isLightestBehind_7 : decode cX4_isLightestBehind 7 = .ok (.iaload, 1) := fp_hdX4_isLightestBehind_0.1.1.1.2.1.2
theorem dX4_isLightestBehind_8 : decode cX4_isLightestBehind 8 = .ok (.invokevirtual 59, 3) := fp_hdX4_isLightestBehind_0.1.1.1.2.2.1
theorem dX4_isLightestBehind_11 : decode cX4_isLightestBehind 11 = .ok (.istore 4, 2) := fp_hdX4_isLightestBehind_0.1.1.1.2.2.2
theorem dX4_isLightestBehind_13 : decode cX4_isLightestBehind 13 = .ok (.iconst 0, 1) := fp_hdX4_isLightestBehind_0.1.1.2.1.1.1
theorem dX4_isLightestBehind_14 : decode cX4_isLightestBehind 14 = .ok (.istore 5, 2) := fp_hdX4_isLightestBehind_0.1.1.2.1.1.2
theorem dX4_isLightestBehind_16 : decode cX4_isLightestBehind 16 = .ok (.iload 5, 2) := fp_hdX4_isLightestBehind_0.1.1.2.1.2.1
theorem dX4_isLightestBehind_18 : decode cX4_isLightestBehind 18 = .ok (.aload_n 0, 1) := fp_hdX4_isLightestBehind_0.1.1.2.1.2.2
theorem dX4_isLightestBehind_19 : decode cX4_isLightestBehind 19 = .ok (.getfield 31, 3) := fp_hdX4_isLightestBehind_0.1.1.2.2.1.1
theorem dX4_isLightestBehind_22 : decode cX4_isLightestBehind 22 = .ok (.if_icmp .ge 66, 3) := fp_hdX4_isLightestBehind_0.1.1.2.2.1.2
theorem dX4_isLightestBehind_25 : decode cX4_isLightestBehind 25 = .ok (.aload_n 2, 1) := fp_hdX4_isLightestBehind_0.1.1.2.2.2.1
theorem dX4_isLightestBehind_26 : decode cX4_isLightestBehind 26 = .ok (.aload_n 0, 1) := fp_hdX4_isLightestBehind_0.1.1.2.2.2.2
theorem dX4_isLightestBehind_27 : decode cX4_isLightestBehind 27 = .ok (.getfield 9, 3) := fp_hdX4_isLightestBehind_0.1.2.1.1.1.1
theorem dX4_isLightestBehind_30 : decode cX4_isLightestBehind 30 = .ok (.iload 5, 2) := fp_hdX4_isLightestBehind_0.1.2.1.1.1.2
theorem dX4_isLightestBehind_32 : decode cX4_isLightestBehind 32 = .ok (.iaload, 1) := fp_hdX4_isLightestBehind_0.1.2.1.1.2.1
theorem dX4_isLightestBehind_33 : decode cX4_isLightestBehind 33 = .ok (.invokevirtual 63, 3) := fp_hdX4_isLightestBehind_0.1.2.1.1.2.2
theorem dX4_isLightestBehind_36 : decode cX4_isLightestBehind 36 = .ok (.istore 6, 2) := fp_hdX4_isLightestBehind_0.1.2.1.2.1.1
theorem dX4_isLightestBehind_38 : decode cX4_isLightestBehind 38 = .ok (.iload 6, 2) := fp_hdX4_isLightestBehind_0.1.2.1.2.1.2
theorem dX4_isLightestBehind_40 : decode cX4_isLightestBehind 40 = .ok (.bipush (-4), 2) := fp_hdX4_isLightestBehind_0.1.2.1.2.2.1
theorem dX4_isLightestBehind_42 : decode cX4_isLightestBehind 42 = .ok (.if_icmp .eq 13, 3) := fp_hdX4_isLightestBehind_0.1.2.1.2.2.2
theorem dX4_isLightestBehind_45 : decode cX4_isLightestBehind 45 = .ok (.iload 6, 2) := fp_hdX4_isLightestBehind_0.1.2.2.1.1.1
theorem dX4_isLightestBehind_47 : decode cX4_isLightestBehind 47 = .ok (.iload_n 3, 1) := fp_hdX4_isLightestBehind_0.1.2.2.1.1.2
theorem dX4_isLightestBehind_48 : decode cX4_isLightestBehind 48 = .ok (.if_icmp .ge 7, 3) := fp_hdX4_isLightestBehind_0.1.2.2.1.2.1
theorem dX4_isLightestBehind_51 : decode cX4_isLightestBehind 51 = .ok (.iconst 1, 1) := fp_hdX4_isLightestBehind_0.1.2.2.1.2.2
theorem dX4_isLightestBehind_52 : decode cX4_isLightestBehind 52 = .ok (.goto 4, 3) := fp_hdX4_isLightestBehind_0.1.2.2.2.1.1
theorem dX4_isLightestBehind_55 : decode cX4_isLightestBehind 55 = .ok (.iconst 0, 1) := fp_hdX4_isLightestBehind_0.1.2.2.2.1.2
theorem dX4_isLightestBehind_56 : decode cX4_isLightestBehind 56 = .ok (.istore 7, 2) := fp_hdX4_isLightestBehind_0.1.2.2.2.2.1
theorem dX4_isLightestBehind_58 : decode cX4_isLightestBehind 58 = .ok (.iload 7, 2) := fp_hdX4_isLightestBehind_0.1.2.2.2.2.2
theorem fp_hdX4_isLightestBehind_60 : ((((decode cX4_isLightestBehind 60 = .ok (.ifCond .ne 22, 3) ∧ decode cX4_isLightestBehind 63 = .ok (.aload_n 0, 1)) ∧ (decode cX4_isLightestBehind 64 = .ok (.aload_n 1, 1) ∧ decode cX4_isLightestBehind 65 = .ok (.aload_n 0, 1))) ∧ ((decode cX4_isLightestBehind 66 = .ok (.getfield 9, 3) ∧ decode cX4_isLightestBehind 69 = .ok (.iload 5, 2)) ∧ (decode cX4_isLightestBehind 71 = .ok (.iaload, 1) ∧ decode cX4_isLightestBehind 72 = .ok (.invokevirtual 59, 3)))) ∧ (((decode cX4_isLightestBehind 75 = .ok (.iload 4, 2) ∧ decode cX4_isLightestBehind 77 = .ok (.if_icmp .ge 5, 3)) ∧ (decode cX4_isLightestBehind 80 = .ok (.iconst 0, 1) ∧ decode cX4_isLightestBehind 81 = .ok (.ireturn, 1))) ∧ ((decode cX4_isLightestBehind 82 = .ok (.iinc 5 1, 3) ∧ decode cX4_isLightestBehind 85 = .ok (.goto (-69), 3)) ∧ (decode cX4_isLightestBehind 88 = .ok (.iconst 1, 1) ∧ decode cX4_isLightestBehind 89 = .ok (.ireturn, 1))))) ∧ bA cX4_isLightestBehind 90 [] :=
  have q0 := fp_o154 (v := 22) fp_hdX4_isLightestBehind_0.2 rfl
  have q1 := fp_o42 q0.2
  have q2 := fp_o43 q1.2
  have q3 := fp_o42 q2.2
  have q4 := fp_o180 (v := 9) q3.2 rfl
  have q5 := fp_o21 q4.2
  have q6 := fp_o46 q5.2
  have q7 := fp_o182 (v := 59) q6.2 rfl
  have q8 := fp_o21 q7.2
  have q9 := fp_o162 (v := 5) q8.2 rfl
  have q10 := fp_o3 q9.2
  have q11 := fp_o172 q10.2
  have q12 := fp_o132 (v := 1) q11.2 rfl
  have q13 := fp_o167 (v := (-69)) q12.2 rfl
  have q14 := fp_o4 q13.2
  have q15 := fp_o172 q14.2
  ⟨⟨⟨⟨⟨q0.1, q1.1⟩, ⟨q2.1, q3.1⟩⟩, ⟨⟨q4.1, q5.1⟩, ⟨q6.1, q7.1⟩⟩⟩, ⟨⟨⟨q8.1, q9.1⟩, ⟨q10.1, q11.1⟩⟩, ⟨⟨q12.1, q13.1⟩, ⟨q14.1, q15.1⟩⟩⟩⟩, q15.2⟩
theorem dX4_isLightestBehind_60 : decode cX4_isLightestBehind 60 = .ok (.ifCond .ne 22, 3) := fp_hdX4_isLightestBehind_60.1.1.1.1.1
theorem dX4_isLightestBehind_63 : decode cX4_isLightestBehind 63 = .ok (.aload_n 0, 1) := fp_hdX4_isLightestBehind_60.1.1.1.1.2
theorem dX4_isLightestBehind_64 : decode cX4_isLightestBehind 64 = .ok (.aload_n 1, 1) := fp_hdX4_isLightestBehind_60.1.1.1.2.1
theorem dX4_isLightestBehind_65 : decode cX4_isLightestBehind 65 = .ok (.aload_n 0, 1) := fp_hdX4_isLightestBehind_60.1.1.1.2.2
theorem dX4_isLightestBehind_66 : decode cX4_isLightestBehind 66 = .ok (.getfield 9, 3) := fp_hdX4_isLightestBehind_60.1.1.2.1.1
theorem dX4_isLightestBehind_69 : decode cX4_isLightestBehind 69 = .ok (.iload 5, 2) := fp_hdX4_isLightestBehind_60.1.1.2.1.2
theorem dX4_isLightestBehind_71 : decode cX4_isLightestBehind 71 = .ok (.iaload, 1) := fp_hdX4_isLightestBehind_60.1.1.2.2.1
theorem dX4_isLightestBehind_72 : decode cX4_isLightestBehind 72 = .ok (.invokevirtual 59, 3) := fp_hdX4_isLightestBehind_60.1.1.2.2.2
theorem dX4_isLightestBehind_75 : decode cX4_isLightestBehind 75 = .ok (.iload 4, 2) := fp_hdX4_isLightestBehind_60.1.2.1.1.1
theorem dX4_isLightestBehind_77 : decode cX4_isLightestBehind 77 = .ok (.if_icmp .ge 5, 3) := fp_hdX4_isLightestBehind_60.1.2.1.1.2
theorem dX4_isLightestBehind_80 : decode cX4_isLightestBehind 80 = .ok (.iconst 0, 1) := fp_hdX4_isLightestBehind_60.1.2.1.2.1
theorem dX4_isLightestBehind_81 : decode cX4_isLightestBehind 81 = .ok (.ireturn, 1) := fp_hdX4_isLightestBehind_60.1.2.1.2.2
theorem dX4_isLightestBehind_82 : decode cX4_isLightestBehind 82 = .ok (.iinc 5 1, 3) := fp_hdX4_isLightestBehind_60.1.2.2.1.1
theorem dX4_isLightestBehind_85 : decode cX4_isLightestBehind 85 = .ok (.goto (-69), 3) := fp_hdX4_isLightestBehind_60.1.2.2.1.2
theorem dX4_isLightestBehind_88 : decode cX4_isLightestBehind 88 = .ok (.iconst 1, 1) := fp_hdX4_isLightestBehind_60.1.2.2.2.1
theorem dX4_isLightestBehind_89 : decode cX4_isLightestBehind 89 = .ok (.ireturn, 1) := fp_hdX4_isLightestBehind_60.1.2.2.2.2
def fp_scX4_howMany_1 : List Nat := 54 :: 5 :: 21 :: 5 :: 158 :: 0 :: 8 :: 29 :: 21 :: 5 :: 108 :: 62 :: 132 :: 4 :: 1 :: 167 :: 255 :: 224 :: 29 :: 172 :: []
def fp_scX4_howMany_0 : List Nat := 42 :: 43 :: 44 :: 182 :: 0 :: 67 :: 154 :: 0 :: 5 :: 3 :: 172 :: 4 :: 62 :: 5 :: 54 :: 4 :: 21 :: 4 :: 42 :: 180 :: 0 :: 31 :: 163 :: 0 :: 14 :: 29 :: 21 :: 4 :: 104 :: 62 :: 132 :: 4 :: 1 :: 167 :: 255 :: 239 :: 3 :: 54 :: 4 :: 21 :: 4 :: 44 :: 180 :: 0 :: 45 :: 162 :: 0 :: 29 :: 42 :: 43 :: 44 :: 21 :: 4 :: 182 :: 0 :: 71 :: fp_scX4_howMany_1
theorem fp_bcX4_howMany : bA cX4_howMany 0 fp_scX4_howMany_0 := show cX4_howMany.data.toList.map UInt8.toNat = fp_scX4_howMany_0 from by decide +kernel
theorem fp_hdX4_howMany_0 : (((((decode cX4_howMany 0 = .ok (.aload_n 0, 1) ∧ decode cX4_howMany 1 = .ok (.aload_n 1, 1)) ∧ (decode cX4_howMany 2 = .ok (.aload_n 2, 1) ∧ decode cX4_howMany 3 = .ok (.invokevirtual 67, 3))) ∧ ((decode cX4_howMany 6 = .ok (.ifCond .ne 5, 3) ∧ decode cX4_howMany 9 = .ok (.iconst 0, 1)) ∧ (decode cX4_howMany 10 = .ok (.ireturn, 1) ∧ decode cX4_howMany 11 = .ok (.iconst 1, 1)))) ∧ (((decode cX4_howMany 12 = .ok (.istore_n 3, 1) ∧ decode cX4_howMany 13 = .ok (.iconst 2, 1)) ∧ (decode cX4_howMany 14 = .ok (.istore 4, 2) ∧ decode cX4_howMany 16 = .ok (.iload 4, 2))) ∧ ((decode cX4_howMany 18 = .ok (.aload_n 0, 1) ∧ decode cX4_howMany 19 = .ok (.getfield 31, 3)) ∧ (decode cX4_howMany 22 = .ok (.if_icmp .gt 14, 3) ∧ decode cX4_howMany 25 = .ok (.iload_n 3, 1))))) ∧ ((((decode cX4_howMany 26 = .ok (.iload 4, 2) ∧ decode cX4_howMany 28 = .ok (.imul, 1)) ∧ (decode cX4_howMany 29 = .ok (.istore_n 3, 1) ∧ decode cX4_howMany 30 = .ok (.iinc 4 1, 3))) ∧ ((decode cX4_howMany 33 = .ok (.goto (-17), 3) ∧ decode cX4_howMany 36 = .ok (.iconst 0, 1)) ∧ (decode cX4_howMany 37 = .ok (.istore 4, 2) ∧ decode cX4_howMany 39 = .ok (.iload 4, 2)))) ∧ (((decode cX4_howMany 41 = .ok (.aload_n 2, 1) ∧ decode cX4_howMany 42 = .ok (.getfield 45, 3)) ∧ (decode cX4_howMany 45 = .ok (.if_icmp .ge 29, 3) ∧ decode cX4_howMany 48 = .ok (.aload_n 0, 1))) ∧ ((decode cX4_howMany 49 = .ok (.aload_n 1, 1) ∧ decode cX4_howMany 50 = .ok (.aload_n 2, 1)) ∧ (decode cX4_howMany 51 = .ok (.iload 4, 2) ∧ decode cX4_howMany 53 = .ok (.invokevirtual 71, 3)))))) ∧ bA cX4_howMany 56 fp_scX4_howMany_1 :=
  have q0 := fp_o42 fp_bcX4_howMany
  have q1 := fp_o43 q0.2
  have q2 := fp_o44 q1.2
  have q3 := fp_o182 (v := 67) q2.2 rfl
  have q4 := fp_o154 (v := 5) q3.2 rfl
  have q5 := fp_o3 q4.2
  have q6 := fp_o172 q5.2
  have q7 := fp_o4 q6.2
  have q8 := fp_o62 q7.2
  have q9 := fp_o5 q8.2
  have q10 := fp_o54 q9.2
  have q11 := fp_o21 q10.2
  have q12 := fp_o42 q11.2
  have q13 := fp_o180 (v := 31) q12.2 rfl
  have q14 := fp_o163 (v := 14) q13.2 rfl
  have q15 := fp_o29 q14.2
  have q16 := fp_o21 q15.2
  have q17 := fp_o104 q16.2
  have q18 := fp_o62 q17.2
  have q19 := fp_o132 (v := 1) q18.2 rfl
  have q20 := fp_o167 (v := (-17)) q19.2 rfl
  have q21 := fp_o3 q20.2
  have q22 := fp_o54 q21.2
  have q23 := fp_o21 q22.2
  have q24 := fp_o44 q23.2
  have q25 := fp_o180 (v := 45) q24.2 rfl
  have q26 := fp_o162 (v := 29) q25.2 rfl
  have q27 := fp_o42 q26.2
  have q28 := fp_o43 q27.2
  have q29 := fp_o44 q28.2
  have q30 := fp_o21 q29.2
  have q31 := fp_o182 (v := 71) q30.2 rfl
  ⟨⟨⟨⟨⟨⟨q0.1, q1.1⟩, ⟨q2.1, q3.1⟩⟩, ⟨⟨q4.1, q5.1⟩, ⟨q6.1, q7.1⟩⟩⟩, ⟨⟨⟨q8.1, q9.1⟩, ⟨q10.1, q11.1⟩⟩, ⟨⟨q12.1, q13.1⟩, ⟨q14.1, q15.1⟩⟩⟩⟩, ⟨⟨⟨⟨q16.1, q17.1⟩, ⟨q18.1, q19.1⟩⟩, ⟨⟨q20.1, q21.1⟩, ⟨q22.1, q23.1⟩⟩⟩, ⟨⟨⟨q24.1, q25.1⟩, ⟨q26.1, q27.1⟩⟩, ⟨⟨q28.1, q29.1⟩, ⟨q30.1, q31.1⟩⟩⟩⟩⟩, q31.2⟩
theorem dX4_howMany_0 : decode cX4_howMany 0 = .ok (.aload_n 0, 1) := fp_hdX4_howMany_0.1.1.1.1.1.1
theorem dX4_howMany_1 : decode cX4_howMany 1 = .ok (.aload_n 1, 1) := fp_hdX4_howMany_0.1.1.1.1.1.2
theorem dX4_howMany_2 : decode cX4_howMany 2 = .ok (.aload_n 2, 1) := fp_hdX4_howMany_0.1.1.1.1.2.1
theorem dX4_howMany_3 : decode cX4_howMany 3 = .ok (.invokevirtual 67, 3) := fp_hdX4_howMany_0.1.1.1.1.2.2
theorem dX4_howMany_6 : decode cX4_howMany 6 = .ok (.ifCond .ne 5, 3) := fp_hdX4_howMany_0.1.1.1.2.1.1
theorem dX4_howMany_9 : decode cX4_howMany 9 = .ok (.iconst 0, 1) := fp_hdX4_howMany_0.1.1.1.2.1.2
theorem dX4_howMany_10 : decode cX4_howMany 10 = .ok (.ireturn, 1) := fp_hdX4_howMany_0.1.1.1.2.2.1
theorem dX4_howMany_11 : decode cX4_howMany 11 = .ok (.iconst 1, 1) := fp_hdX4_howMany_0.1.1.1.2.2.2
theorem dX4_howMany_12 : decode cX4_howMany 12 = .ok (.istore_n 3, 1) := fp_hdX4_howMany_0.1.1.2.1.1.1
theorem dX4_howMany_13 : decode cX4_howMany 13 = .ok (.iconst 2, 1) := fp_hdX4_howMany_0.1.1.2.1.1.2
theorem dX4_howMany_14 : decode cX4_howMany 14 = .ok (.istore 4, 2) := fp_hdX4_howMany_0.1.1.2.1.2.1
theorem dX4_howMany_16 : decode cX4_howMany 16 = .ok (.iload 4, 2) := fp_hdX4_howMany_0.1.1.2.1.2.2
theorem dX4_howMany_18 : decode cX4_howMany 18 = .ok (.aload_n 0, 1) := fp_hdX4_howMany_0.1.1.2.2.1.1
theorem dX4_howMany_19 : decode cX4_howMany 19 = .ok (.getfield 31, 3) := fp_hdX4_howMany_0.1.1.2.2.1.2
theorem dX4_howMany_22 : decode cX4_howMany 22 = .ok (.if_icmp .gt 14, 3) := fp_hdX4_howMany_0.1.1.2.2.2.1
theorem dX4_howMany_25 : decode cX4_howMany 25 = .ok (.iload_n 3, 1) := fp_hdX4_howMany_0.1.1.2.2.2.2
theorem dX4_howMany_26 : decode cX4_howMany 26 = .ok (.iload 4, 2) := fp_hdX4_howMany_0.1.2.1.1.1.1
theorem dX4_howMany_28 : decode cX4_howMany 28 = .ok (.imul, 1) := fp_hdX4_howMany_0.1.2.1.1.1.2
theorem dX4_howMany_29 : decode cX4_howMany 29 = .ok (.istore_n 3, 1) := fp_hdX4_howMany_0.1.2.1.1.2.1
theorem dX4_howMany_30 : decode cX4_howMany 30 = .ok (.iinc 4 1, 3) := fp_hdX4_howMany_0.1.2.1.1.2.2
theorem dX4_howMany_33 : decode cX4_howMany 33 = .ok (.goto (-17), 3) := fp_hdX4_howMany_0.1.2.1.2.1.1
theorem dX4_howMany_36 : decode cX4_howMany 36 = .ok (.iconst 0, 1) := fp_hdX4_howMany_0.1.2.1.2.1.2
theorem dX4_howMany_37 : decode cX4_howMany 37 = .ok (.istore 4, 2) := fp_hdX4_howMany_0.1.2.1.2.2.1
theorem dX4_howMany_39 : decode cX4_howMany 39 = .ok (.iload 4, 2) := fp_hdX4_howMany_0.1.2.1.2.2.2
theorem dX4_howMany_41 : decode cX4_howMany 41 = .ok (.aload_n 2, 1) := fp_hdX4_howMany_0.1.2.2.1.1.1
theorem dX4_howMany_42 : decode cX4_howMany 42 = .ok (.getfield 45, 3) := fp_hdX4_howMany_0.1.2.2.1.1.2
theorem dX4_howMany_45 : decode cX4_howMany 45 = .ok (.if_icmp .ge 29, 3) := fp_hdX4_howMany_0.1.2.2.1.2.1
theorem dX4_howMany_48 : decode cX4_howMany 48 = .ok (.aload_n 0, 1) := fp_hdX4_howMany_0.1.2.2.1.2.2
theorem dX4_howMany_49 : decode cX4_howMany 49 = .ok (.aload_n 1, 1) := fp_hdX4_howMany_0.1.2.2.2.1.1
theorem dX4_howMany_50 : decode cX4_howMany 50 = .ok (.aload_n 2, 1) := fp_hdX4_howMany_0.1.2.2.2.1.2
theorem dX4_howMany_51 : decode cX4_howMany 51 = .ok (.iload 4, 2) := fp_hdX4_howMany_0.1.2.2.2.2.1
theorem dX4_howMany_53 : decode cX4_howMany 53 = .ok (.invokevirtual 71, 3) := fp_hdX4_howMany_0.1.2.2.2.2.2
theorem fp_hdX4_howMany_56 : ((((decode cX4_howMany 56 = .ok (.istore 5, 2) ∧ decode cX4_howMany 58 = .ok (.iload 5, 2)) ∧ decode cX4_howMany 60 = .ok (.ifCond .le 8, 3)) ∧ ((decode cX4_howMany 63 = .ok (.iload_n 3, 1) ∧ decode cX4_howMany 64 = .ok (.iload 5, 2)) ∧ decode cX4_howMany 66 = .ok (.idiv, 1))) ∧ (((decode cX4_howMany 67 = .ok (.istore_n 3, 1) ∧ decode cX4_howMany 68 = .ok (.iinc 4 1, 3)) ∧ decode cX4_howMany 71 = .ok (.goto (-32), 3)) ∧ (decode cX4_howMany 74 = .ok (.iload_n 3, 1) ∧ decode cX4_howMany 75 = .ok (.ireturn, 1)))) ∧ bA cX4_howMany 76 [] :=
  have q0 := fp_o54 fp_hdX4_howMany_0.2
  have q1 := fp_o21 q0.2
  have q2 := fp_o158 (v := 8) q1.2 rfl
  have q3 := fp_o29 q2.2
  have q4 := fp_o21 q3.2
  have q5 := fp_o108 q4.2
  have q6 := fp_o62 q5.2
  have q7 := fp_o132 (v := 1) q6.2 rfl
  have q8 := fp_o167 (v := (-32)) q7.2 rfl
  have q9 := fp_o29 q8.2
  have q10 := fp_o172 q9.2
  ⟨⟨⟨⟨⟨q0.1, q1.1⟩, q2.1⟩, ⟨⟨q3.1, q4.1⟩, q5.1⟩⟩, ⟨⟨⟨q6.1, q7.1⟩, q8.1⟩, ⟨q9.1, q10.1⟩⟩⟩, q10.2⟩
theorem dX4_howMany_56 : decode cX4_howMany 56 = .ok (.istore 5, 2) := fp_hdX4_howMany_56.1.1.1.1.1
theorem dX4_howMany_58 : decode cX4_howMany 58 = .ok (.iload 5, 2) := fp_hdX4_howMany_56.1.1.1.1.2
theorem dX4_howMany_60 : decode cX4_howMany 60 = .ok (.ifCond .le 8, 3) := fp_hdX4_howMany_56.1.1.1.2
theorem dX4_howMany_63 : decode cX4_howMany 63 = .ok (.iload_n 3, 1) := fp_hdX4_howMany_56.1.1.2.1.1
theorem dX4_howMany_64 : decode cX4_howMany 64 = .ok (.iload 5, 2) := fp_hdX4_howMany_56.1.1.2.1.2
theorem dX4_howMany_66 : decode cX4_howMany 66 = .ok (.idiv, 1) := fp_hdX4_howMany_56.1.1.2.2
theorem dX4_howMany_67 : decode cX4_howMany 67 = .ok (.istore_n 3, 1) := fp_hdX4_howMany_56.1.2.1.1.1
theorem dX4_howMany_68 : decode cX4_howMany 68 = .ok (.iinc 4 1, 3) := fp_hdX4_howMany_56.1.2.1.1.2
theorem dX4_howMany_71 : decode cX4_howMany 71 = .ok (.goto (-32), 3) := fp_hdX4_howMany_56.1.2.1.2
theorem dX4_howMany_74 : decode cX4_howMany 74 = .ok (.iload_n 3, 1) := fp_hdX4_howMany_56.1.2.2.1
theorem dX4_howMany_75 : decode cX4_howMany 75 = .ok (.ireturn, 1) := fp_hdX4_howMany_56.1.2.2.2
def fp_scX4_choicesAt_1 : List Nat := 54 :: 8 :: 21 :: 8 :: 154 :: 0 :: 23 :: 42 :: 43 :: 42 :: 180 :: 0 :: 9 :: 21 :: 6 :: 46 :: 182 :: 0 :: 59 :: 21 :: 4 :: 160 :: 0 :: 6 :: 132 :: 5 :: 1 :: 132 :: 6 :: 1 :: 167 :: 255 :: 186 :: 21 :: 5 :: 172 :: []
def fp_scX4_choicesAt_0 : List Nat := 42 :: 43 :: 44 :: 180 :: 0 :: 48 :: 29 :: 46 :: 182 :: 0 :: 59 :: 54 :: 4 :: 3 :: 54 :: 5 :: 3 :: 54 :: 6 :: 21 :: 6 :: 42 :: 180 :: 0 :: 31 :: 162 :: 0 :: 67 :: 44 :: 42 :: 180 :: 0 :: 9 :: 21 :: 6 :: 46 :: 182 :: 0 :: 63 :: 54 :: 7 :: 21 :: 7 :: 16 :: 252 :: 159 :: 0 :: 13 :: 21 :: 7 :: 29 :: 162 :: 0 :: 7 :: 4 :: 167 :: 0 :: 4 :: 3 :: fp_scX4_choicesAt_1
theorem fp_bcX4_choicesAt : bA cX4_choicesAt 0 fp_scX4_choicesAt_0 := show cX4_choicesAt.data.toList.map UInt8.toNat = fp_scX4_choicesAt_0 from by decide +kernel
theorem fp_hdX4_choicesAt_0 : (((((decode cX4_choicesAt 0 = .ok (.aload_n 0, 1) ∧ decode cX4_choicesAt 1 = .ok (.aload_n 1, 1)) ∧ (decode cX4_choicesAt 2 = .ok (.aload_n 2, 1) ∧ decode cX4_choicesAt 3 = .ok (.getfield 48, 3))) ∧ ((decode cX4_choicesAt 6 = .ok (.iload_n 3, 1) ∧ decode cX4_choicesAt 7 = .ok (.iaload, 1)) ∧ (decode cX4_choicesAt 8 = .ok (.invokevirtual 59, 3) ∧ decode cX4_choicesAt 11 = .ok (.istore 4, 2)))) ∧ (((decode cX4_choicesAt 13 = .ok (.iconst 0, 1) ∧ decode cX4_choicesAt 14 = .ok (.istore 5, 2)) ∧ (decode cX4_choicesAt 16 = .ok (.iconst 0, 1) ∧ decode cX4_choicesAt 17 = .ok (.istore 6, 2))) ∧ ((decode cX4_choicesAt 19 = .ok (.iload 6, 2) ∧ decode cX4_choicesAt 21 = .ok (.aload_n 0, 1)) ∧ (decode cX4_choicesAt 22 = .ok (.getfield 31, 3) ∧ decode cX4_choicesAt 25 = .ok (.if_icmp .ge 67, 3))))) ∧ ((((decode cX4_choicesAt 28 = .ok (.aload_n 2, 1) ∧ decode cX4_choicesAt 29 = .ok (.aload_n 0, 1)) ∧ (decode cX4_choicesAt 30 = .ok (.getfield 9, 3) ∧ decode cX4_choicesAt 33 = .ok (.iload 6, 2))) ∧ ((decode cX4_choicesAt 35 = .ok (.iaload, 1) ∧ decode cX4_choicesAt 36 = .ok (.invokevirtual 63, 3)) ∧ (decode cX4_choicesAt 39 = .ok (.istore 7, 2) ∧ decode cX4_choicesAt 41 = .ok (.iload 7, 2)))) ∧ (((decode cX4_choicesAt 43 = .ok (.bipush (-4), 2) ∧ decode cX4_choicesAt 45 = .ok (.if_icmp .eq 13, 3)) ∧ (decode cX4_choicesAt 48 = .ok (.iload 7, 2) ∧ decode cX4_choicesAt 50 = .ok (.iload_n 3, 1))) ∧ ((decode cX4_choicesAt 51 = .ok (.if_icmp .ge 7, 3) ∧ decode cX4_choicesAt 54 = .ok (.iconst 1, 1)) ∧ (decode cX4_choicesAt 55 = .ok (.goto 4, 3) ∧ decode cX4_choicesAt 58 = .ok (.iconst 0, 1)))))) ∧ bA cX4_choicesAt 59 fp_scX4_choicesAt_1 :=
  have q0 := fp_o42 fp_bcX4_choicesAt
  have q1 := fp_o43 q0.2
  have q2 := fp_o44 q1.2
  have q3 := fp_o180 (v := 48) q2.2 rfl
  have q4 := fp_o29 q3.2
  have q5 := fp_o46 q4.2
  have q6 := fp_o182 (v := 59) q5.2 rfl
  have q7 := fp_o54 q6.2
  have q8 := fp_o3 q7.2
  have q9 := fp_o54 q8.2
  have q10 := fp_o3 q9.2
  have q11 := fp_o54 q10.2
  have q12 := fp_o21 q11.2
  have q13 := fp_o42 q12.2
  have q14 := fp_o180 (v := 31) q13.2 rfl
  have q15 := fp_o162 (v := 67) q14.2 rfl
  have q16 := fp_o44 q15.2
  have q17 := fp_o42 q16.2
  have q18 := fp_o180 (v := 9) q17.2 rfl
  have q19 := fp_o21 q18.2
  have q20 := fp_o46 q19.2
  have q21 := fp_o182 (v := 63) q20.2 rfl
  have q22 := fp_o54 q21.2
  have q23 := fp_o21 q22.2
  have q24 := fp_o16 (v := (-4)) q23.2 rfl
  have q25 := fp_o159 (v := 13) q24.2 rfl
  have q26 := fp_o21 q25.2
  have q27 := fp_o29 q26.2
  have q28 := fp_o162 (v := 7) q27.2 rfl
  have q29 := fp_o4 q28.2
  have q30 := fp_o167 (v := 4) q29.2 rfl
  have q31 := fp_o3 q30.2
  ⟨⟨⟨⟨⟨⟨q0.1, q1.1⟩, ⟨q2.1, q3.1⟩⟩, ⟨⟨q4.1, q5.1⟩, ⟨q6.1, q7.1⟩⟩⟩, ⟨⟨⟨q8.1, q9.1⟩, ⟨q10.1, q11.1⟩⟩, ⟨⟨q12.1, q13.1⟩, ⟨q14.1, q15.1⟩⟩⟩⟩, ⟨⟨⟨⟨q16.1, q17.1⟩, ⟨q18.1, q19.1⟩⟩, ⟨⟨q20.1, q21.1⟩, ⟨q22.1, q23.1⟩⟩⟩, ⟨⟨⟨q24.1, q25.1⟩, ⟨q26.1, q27.1⟩⟩, ⟨⟨q28.1, q29.1⟩, ⟨q30.1, q31.1⟩⟩⟩⟩⟩, q31.2⟩
theorem dX4_choicesAt_0 : decode cX4_choicesAt 0 = .ok (.aload_n 0, 1) := fp_hdX4_choicesAt_0.1.1.1.1.1.1
theorem dX4_choicesAt_1 : decode cX4_choicesAt 1 = .ok (.aload_n 1, 1) := fp_hdX4_choicesAt_0.1.1.1.1.1.2
theorem dX4_choicesAt_2 : decode cX4_choicesAt 2 = .ok (.aload_n 2, 1) := fp_hdX4_choicesAt_0.1.1.1.1.2.1
theorem dX4_choicesAt_3 : decode cX4_choicesAt 3 = .ok (.getfield 48, 3) := fp_hdX4_choicesAt_0.1.1.1.1.2.2
theorem dX4_choicesAt_6 : decode cX4_choicesAt 6 = .ok (.iload_n 3, 1) := fp_hdX4_choicesAt_0.1.1.1.2.1.1
theorem dX4_choicesAt_7 : decode cX4_choicesAt 7 = .ok (.iaload, 1) := fp_hdX4_choicesAt_0.1.1.1.2.1.2
theorem dX4_choicesAt_8 : decode cX4_choicesAt 8 = .ok (.invokevirtual 59, 3) := fp_hdX4_choicesAt_0.1.1.1.2.2.1
theorem dX4_choicesAt_11 : decode cX4_choicesAt 11 = .ok (.istore 4, 2) := fp_hdX4_choicesAt_0.1.1.1.2.2.2
theorem dX4_choicesAt_13 : decode cX4_choicesAt 13 = .ok (.iconst 0, 1) := fp_hdX4_choicesAt_0.1.1.2.1.1.1
theorem dX4_choicesAt_14 : decode cX4_choicesAt 14 = .ok (.istore 5, 2) := fp_hdX4_choicesAt_0.1.1.2.1.1.2
theorem dX4_choicesAt_16 : decode cX4_choicesAt 16 = .ok (.iconst 0, 1) := fp_hdX4_choicesAt_0.1.1.2.1.2.1
theorem dX4_choicesAt_17 : decode cX4_choicesAt 17 = .ok (.istore 6, 2) := fp_hdX4_choicesAt_0.1.1.2.1.2.2
theorem dX4_choicesAt_19 : decode cX4_choicesAt 19 = .ok (.iload 6, 2) := fp_hdX4_choicesAt_0.1.1.2.2.1.1
theorem dX4_choicesAt_21 : decode cX4_choicesAt 21 = .ok (.aload_n 0, 1) := fp_hdX4_choicesAt_0.1.1.2.2.1.2
theorem dX4_choicesAt_22 : decode cX4_choicesAt 22 = .ok (.getfield 31, 3) := fp_hdX4_choicesAt_0.1.1.2.2.2.1
theorem dX4_choicesAt_25 : decode cX4_choicesAt 25 = .ok (.if_icmp .ge 67, 3) := fp_hdX4_choicesAt_0.1.1.2.2.2.2
theorem dX4_choicesAt_28 : decode cX4_choicesAt 28 = .ok (.aload_n 2, 1) := fp_hdX4_choicesAt_0.1.2.1.1.1.1
theorem dX4_choicesAt_29 : decode cX4_choicesAt 29 = .ok (.aload_n 0, 1) := fp_hdX4_choicesAt_0.1.2.1.1.1.2
theorem dX4_choicesAt_30 : decode cX4_choicesAt 30 = .ok (.getfield 9, 3) := fp_hdX4_choicesAt_0.1.2.1.1.2.1
theorem dX4_choicesAt_33 : decode cX4_choicesAt 33 = .ok (.iload 6, 2) := fp_hdX4_choicesAt_0.1.2.1.1.2.2
theorem dX4_choicesAt_35 : decode cX4_choicesAt 35 = .ok (.iaload, 1) := fp_hdX4_choicesAt_0.1.2.1.2.1.1
theorem dX4_choicesAt_36 : decode cX4_choicesAt 36 = .ok (.invokevirtual 63, 3) := fp_hdX4_choicesAt_0.1.2.1.2.1.2
theorem dX4_choicesAt_39 : decode cX4_choicesAt 39 = .ok (.istore 7, 2) := fp_hdX4_choicesAt_0.1.2.1.2.2.1
theorem dX4_choicesAt_41 : decode cX4_choicesAt 41 = .ok (.iload 7, 2) := fp_hdX4_choicesAt_0.1.2.1.2.2.2
theorem dX4_choicesAt_43 : decode cX4_choicesAt 43 = .ok (.bipush (-4), 2) := fp_hdX4_choicesAt_0.1.2.2.1.1.1
theorem dX4_choicesAt_45 : decode cX4_choicesAt 45 = .ok (.if_icmp .eq 13, 3) := fp_hdX4_choicesAt_0.1.2.2.1.1.2
theorem dX4_choicesAt_48 : decode cX4_choicesAt 48 = .ok (.iload 7, 2) := fp_hdX4_choicesAt_0.1.2.2.1.2.1
theorem dX4_choicesAt_50 : decode cX4_choicesAt 50 = .ok (.iload_n 3, 1) := fp_hdX4_choicesAt_0.1.2.2.1.2.2
theorem dX4_choicesAt_51 : decode cX4_choicesAt 51 = .ok (.if_icmp .ge 7, 3) := fp_hdX4_choicesAt_0.1.2.2.2.1.1
theorem dX4_choicesAt_54 : decode cX4_choicesAt 54 = .ok (.iconst 1, 1) := fp_hdX4_choicesAt_0.1.2.2.2.1.2
theorem dX4_choicesAt_55 : decode cX4_choicesAt 55 = .ok (.goto 4, 3) := fp_hdX4_choicesAt_0.1.2.2.2.2.1
theorem dX4_choicesAt_58 : decode cX4_choicesAt 58 = .ok (.iconst 0, 1) := fp_hdX4_choicesAt_0.1.2.2.2.2.2
theorem fp_hdX4_choicesAt_59 : (((((decode cX4_choicesAt 59 = .ok (.istore 8, 2) ∧ decode cX4_choicesAt 61 = .ok (.iload 8, 2)) ∧ decode cX4_choicesAt 63 = .ok (.ifCond .ne 23, 3)) ∧ (decode cX4_choicesAt 66 = .ok (.aload_n 0, 1) ∧ decode cX4_choicesAt 67 = .ok (.aload_n 1, 1))) ∧ ((decode cX4_choicesAt 68 = .ok (.aload_n 0, 1) ∧ decode cX4_choicesAt 69 = .ok (.getfield 9, 3)) ∧ (decode cX4_choicesAt 72 = .ok (.iload 6, 2) ∧ decode cX4_choicesAt 74 = .ok (.iaload, 1)))) ∧ (((decode cX4_choicesAt 75 = .ok (.invokevirtual 59, 3) ∧ decode cX4_choicesAt 78 = .ok (.iload 4, 2)) ∧ (decode cX4_choicesAt 80 = .ok (.if_icmp .ne 6, 3) ∧ decode cX4_choicesAt 83 = .ok (.iinc 5 1, 3))) ∧ ((decode cX4_choicesAt 86 = .ok (.iinc 6 1, 3) ∧ decode cX4_choicesAt 89 = .ok (.goto (-70), 3)) ∧ (decode cX4_choicesAt 92 = .ok (.iload 5, 2) ∧ decode cX4_choicesAt 94 = .ok (.ireturn, 1))))) ∧ bA cX4_choicesAt 95 [] :=
  have q0 := fp_o54 fp_hdX4_choicesAt_0.2
  have q1 := fp_o21 q0.2
  have q2 := fp_o154 (v := 23) q1.2 rfl
  have q3 := fp_o42 q2.2
  have q4 := fp_o43 q3.2
  have q5 := fp_o42 q4.2
  have q6 := fp_o180 (v := 9) q5.2 rfl
  have q7 := fp_o21 q6.2
  have q8 := fp_o46 q7.2
  have q9 := fp_o182 (v := 59) q8.2 rfl
  have q10 := fp_o21 q9.2
  have q11 := fp_o160 (v := 6) q10.2 rfl
  have q12 := fp_o132 (v := 1) q11.2 rfl
  have q13 := fp_o132 (v := 1) q12.2 rfl
  have q14 := fp_o167 (v := (-70)) q13.2 rfl
  have q15 := fp_o21 q14.2
  have q16 := fp_o172 q15.2
  ⟨⟨⟨⟨⟨⟨q0.1, q1.1⟩, q2.1⟩, ⟨q3.1, q4.1⟩⟩, ⟨⟨q5.1, q6.1⟩, ⟨q7.1, q8.1⟩⟩⟩, ⟨⟨⟨q9.1, q10.1⟩, ⟨q11.1, q12.1⟩⟩, ⟨⟨q13.1, q14.1⟩, ⟨q15.1, q16.1⟩⟩⟩⟩, q16.2⟩
theorem dX4_choicesAt_59 : decode cX4_choicesAt 59 = .ok (.istore 8, 2) := fp_hdX4_choicesAt_59.1.1.1.1.1.1
theorem dX4_choicesAt_61 : decode cX4_choicesAt 61 = .ok (.iload 8, 2) := fp_hdX4_choicesAt_59.1.1.1.1.1.2
theorem dX4_choicesAt_63 : decode cX4_choicesAt 63 = .ok (.ifCond .ne 23, 3) := fp_hdX4_choicesAt_59.1.1.1.1.2
theorem dX4_choicesAt_66 : decode cX4_choicesAt 66 = .ok (.aload_n 0, 1) := fp_hdX4_choicesAt_59.1.1.1.2.1
theorem dX4_choicesAt_67 : decode cX4_choicesAt 67 = .ok (.aload_n 1, 1) := fp_hdX4_choicesAt_59.1.1.1.2.2
theorem dX4_choicesAt_68 : decode cX4_choicesAt 68 = .ok (.aload_n 0, 1) := fp_hdX4_choicesAt_59.1.1.2.1.1
theorem dX4_choicesAt_69 : decode cX4_choicesAt 69 = .ok (.getfield 9, 3) := fp_hdX4_choicesAt_59.1.1.2.1.2
theorem dX4_choicesAt_72 : decode cX4_choicesAt 72 = .ok (.iload 6, 2) := fp_hdX4_choicesAt_59.1.1.2.2.1
theorem dX4_choicesAt_74 : decode cX4_choicesAt 74 = .ok (.iaload, 1) := fp_hdX4_choicesAt_59.1.1.2.2.2
theorem dX4_choicesAt_75 : decode cX4_choicesAt 75 = .ok (.invokevirtual 59, 3) := fp_hdX4_choicesAt_59.1.2.1.1.1
theorem dX4_choicesAt_78 : decode cX4_choicesAt 78 = .ok (.iload 4, 2) := fp_hdX4_choicesAt_59.1.2.1.1.2
theorem dX4_choicesAt_80 : decode cX4_choicesAt 80 = .ok (.if_icmp .ne 6, 3) := fp_hdX4_choicesAt_59.1.2.1.2.1
theorem dX4_choicesAt_83 : decode cX4_choicesAt 83 = .ok (.iinc 5 1, 3) := fp_hdX4_choicesAt_59.1.2.1.2.2
theorem dX4_choicesAt_86 : decode cX4_choicesAt 86 = .ok (.iinc 6 1, 3) := fp_hdX4_choicesAt_59.1.2.2.1.1
theorem dX4_choicesAt_89 : decode cX4_choicesAt 89 = .ok (.goto (-70), 3) := fp_hdX4_choicesAt_59.1.2.2.1.2
theorem dX4_choicesAt_92 : decode cX4_choicesAt 92 = .ok (.iload 5, 2) := fp_hdX4_choicesAt_59.1.2.2.2.1
theorem dX4_choicesAt_94 : decode cX4_choicesAt 94 = .ok (.ireturn, 1) := fp_hdX4_choicesAt_59.1.2.2.2.2
def fp_scX4_findFirst_2 : List Nat := 181 :: 0 :: 75 :: 132 :: 3 :: 1 :: 167 :: 255 :: 135 :: 177 :: []
def fp_scX4_findFirst_1 : List Nat := 21 :: 7 :: 153 :: 0 :: 28 :: 42 :: 21 :: 6 :: 182 :: 0 :: 78 :: 154 :: 0 :: 19 :: 42 :: 43 :: 44 :: 21 :: 6 :: 29 :: 182 :: 0 :: 81 :: 153 :: 0 :: 7 :: 21 :: 6 :: 54 :: 4 :: 132 :: 5 :: 1 :: 167 :: 255 :: 184 :: 42 :: 180 :: 0 :: 15 :: 29 :: 21 :: 4 :: 79 :: 21 :: 4 :: 16 :: 252 :: 159 :: 0 :: 16 :: 42 :: 89 :: 180 :: 0 :: 75 :: 4 :: 21 :: 4 :: 120 :: 128 :: fp_scX4_findFirst_2
def fp_scX4_findFirst_0 : List Nat := 42 :: 3 :: 181 :: 0 :: 75 :: 3 :: 62 :: 29 :: 42 :: 180 :: 0 :: 31 :: 162 :: 0 :: 119 :: 16 :: 252 :: 54 :: 4 :: 3 :: 54 :: 5 :: 21 :: 5 :: 42 :: 180 :: 0 :: 31 :: 162 :: 0 :: 69 :: 42 :: 180 :: 0 :: 9 :: 21 :: 5 :: 46 :: 54 :: 6 :: 21 :: 4 :: 16 :: 252 :: 159 :: 0 :: 10 :: 21 :: 6 :: 21 :: 4 :: 162 :: 0 :: 7 :: 4 :: 167 :: 0 :: 4 :: 3 :: 54 :: 7 :: fp_scX4_findFirst_1
theorem fp_bcX4_findFirst : bA cX4_findFirst 0 fp_scX4_findFirst_0 := show cX4_findFirst.data.toList.map UInt8.toNat = fp_scX4_findFirst_0 from by decide +kernel
theorem fp_hdX4_findFirst_0 : (((((decode cX4_findFirst 0 = .ok (.aload_n 0, 1) ∧ decode cX4_findFirst 1 = .ok (.iconst 0, 1)) ∧ (decode cX4_findFirst 2 = .ok (.putfield 75, 3) ∧ decode cX4_findFirst 5 = .ok (.iconst 0, 1))) ∧ ((decode cX4_findFirst 6 = .ok (.istore_n 3, 1) ∧ decode cX4_findFirst 7 = .ok (.iload_n 3, 1)) ∧ (decode cX4_findFirst 8 = .ok (.aload_n 0, 1) ∧ decode cX4_findFirst 9 = .ok (.getfield 31, 3)))) ∧ (((decode cX4_findFirst 12 = .ok (.if_icmp .ge 119, 3) ∧ decode cX4_findFirst 15 = .ok (.bipush (-4), 2)) ∧ (decode cX4_findFirst 17 = .ok (.istore 4, 2) ∧ decode cX4_findFirst 19 = .ok (.iconst 0, 1))) ∧ ((decode cX4_findFirst 20 = .ok (.istore 5, 2) ∧ decode cX4_findFirst 22 = .ok (.iload 5, 2)) ∧ (decode cX4_findFirst 24 = .ok (.aload_n 0, 1) ∧ decode cX4_findFirst 25 = .ok (.getfield 31, 3))))) ∧ ((((decode cX4_findFirst 28 = .ok (.if_icmp .ge 69, 3) ∧ decode cX4_findFirst 31 = .ok (.aload_n 0, 1)) ∧ (decode cX4_findFirst 32 = .ok (.getfield 9, 3) ∧ decode cX4_findFirst 35 = .ok (.iload 5, 2))) ∧ ((decode cX4_findFirst 37 = .ok (.iaload, 1) ∧ decode cX4_findFirst 38 = .ok (.istore 6, 2)) ∧ (decode cX4_findFirst 40 = .ok (.iload 4, 2) ∧ decode cX4_findFirst 42 = .ok (.bipush (-4), 2)))) ∧ (((decode cX4_findFirst 44 = .ok (.if_icmp .eq 10, 3) ∧ decode cX4_findFirst 47 = .ok (.iload 6, 2)) ∧ (decode cX4_findFirst 49 = .ok (.iload 4, 2) ∧ decode cX4_findFirst 51 = .ok (.if_icmp .ge 7, 3))) ∧ ((decode cX4_findFirst 54 = .ok (.iconst 1, 1) ∧ decode cX4_findFirst 55 = .ok (.goto 4, 3)) ∧ (decode cX4_findFirst 58 = .ok (.iconst 0, 1) ∧ decode cX4_findFirst 59 = .ok (.istore 7, 2)))))) ∧ bA cX4_findFirst 61 fp_scX4_findFirst_1 :=
  have q0 := fp_o42 fp_bcX4_findFirst
  have q1 := fp_o3 q0.2
  have q2 := fp_o181 (v := 75) q1.2 rfl
  have q3 := fp_o3 q2.2
  have q4 := fp_o62 q3.2
  have q5 := fp_o29 q4.2
  have q6 := fp_o42 q5.2
  have q7 := fp_o180 (v := 31) q6.2 rfl
  have q8 := fp_o162 (v := 119) q7.2 rfl
  have q9 := fp_o16 (v := (-4)) q8.2 rfl
  have q10 := fp_o54 q9.2
  have q11 := fp_o3 q10.2
  have q12 := fp_o54 q11.2
  have q13 := fp_o21 q12.2
  have q14 := fp_o42 q13.2
  have q15 := fp_o180 (v := 31) q14.2 rfl
  have q16 := fp_o162 (v := 69) q15.2 rfl
  have q17 := fp_o42 q16.2
  have q18 := fp_o180 (v := 9) q17.2 rfl
  have q19 := fp_o21 q18.2
  have q20 := fp_o46 q19.2
  have q21 := fp_o54 q20.2
  have q22 := fp_o21 q21.2
  have q23 := fp_o16 (v := (-4)) q22.2 rfl
  have q24 := fp_o159 (v := 10) q23.2 rfl
  have q25 := fp_o21 q24.2
  have q26 := fp_o21 q25.2
  have q27 := fp_o162 (v := 7) q26.2 rfl
  have q28 := fp_o4 q27.2
  have q29 := fp_o167 (v := 4) q28.2 rfl
  have q30 := fp_o3 q29.2
  have q31 := fp_o54 q30.2
  ⟨⟨⟨⟨⟨⟨q0.1, q1.1⟩, ⟨q2.1, q3.1⟩⟩, ⟨⟨q4.1, q5.1⟩, ⟨q6.1, q7.1⟩⟩⟩, ⟨⟨⟨q8.1, q9.1⟩, ⟨q10.1, q11.1⟩⟩, ⟨⟨q12.1, q13.1⟩, ⟨q14.1, q15.1⟩⟩⟩⟩, ⟨⟨⟨⟨q16.1, q17.1⟩, ⟨q18.1, q19.1⟩⟩, ⟨⟨q20.1, q21.1⟩, ⟨q22.1, q23.1⟩⟩⟩, ⟨⟨⟨q24.1, q25.1⟩, ⟨q26.1, q27.1⟩⟩, ⟨⟨q28.1, q29.1⟩, ⟨q30.1, q31.1⟩⟩⟩⟩⟩, q31.2⟩
theorem dX4_findFirst_0 : decode cX4_findFirst 0 = .ok (.aload_n 0, 1) := fp_hdX4_findFirst_0.1.1.1.1.1.1
theorem dX4_findFirst_1 : decode cX4_findFirst 1 = .ok (.iconst 0, 1) := fp_hdX4_findFirst_0.1.1.1.1.1.2
theorem dX4_findFirst_2 : decode cX4_findFirst 2 = .ok (.putfield 75, 3) := fp_hdX4_findFirst_0.1.1.1.1.2.1
theorem dX4_findFirst_5 : decode cX4_findFirst 5 = .ok (.iconst 0, 1) := fp_hdX4_findFirst_0.1.1.1.1.2.2
theorem dX4_findFirst_6 : decode cX4_findFirst 6 = .ok (.istore_n 3, 1) := fp_hdX4_findFirst_0.1.1.1.2.1.1
theorem dX4_findFirst_7 : decode cX4_findFirst 7 = .ok (.iload_n 3, 1) := fp_hdX4_findFirst_0.1.1.1.2.1.2
theorem dX4_findFirst_8 : decode cX4_findFirst 8 = .ok (.aload_n 0, 1) := fp_hdX4_findFirst_0.1.1.1.2.2.1
theorem dX4_findFirst_9 : decode cX4_findFirst 9 = .ok (.getfield 31, 3) := fp_hdX4_findFirst_0.1.1.1.2.2.2
theorem dX4_findFirst_12 : decode cX4_findFirst 12 = .ok (.if_icmp .ge 119, 3) := fp_hdX4_findFirst_0.1.1.2.1.1.1
theorem dX4_findFirst_15 : decode cX4_findFirst 15 = .ok (.bipush (-4), 2) := fp_hdX4_findFirst_0.1.1.2.1.1.2
theorem dX4_findFirst_17 : decode cX4_findFirst 17 = .ok (.istore 4, 2) := fp_hdX4_findFirst_0.1.1.2.1.2.1
theorem dX4_findFirst_19 : decode cX4_findFirst 19 = .ok (.iconst 0, 1) := fp_hdX4_findFirst_0.1.1.2.1.2.2
theorem dX4_findFirst_20 : decode cX4_findFirst 20 = .ok (.istore 5, 2) := fp_hdX4_findFirst_0.1.1.2.2.1.1
theorem dX4_findFirst_22 : decode cX4_findFirst 22 = .ok (.iload 5, 2) := fp_hdX4_findFirst_0.1.1.2.2.1.2
theorem dX4_findFirst_24 : decode cX4_findFirst 24 = .ok (.aload_n 0, 1) := fp_hdX4_findFirst_0.1.1.2.2.2.1
theorem dX4_findFirst_25 : decode cX4_findFirst 25 = .ok (.getfield 31, 3) := fp_hdX4_findFirst_0.1.1.2.2.2.2
theorem dX4_findFirst_28 : decode cX4_findFirst 28 = .ok (.if_icmp .ge 69, 3) := fp_hdX4_findFirst_0.1.2.1.1.1.1
theorem dX4_findFirst_31 : decode cX4_findFirst 31 = .ok (.aload_n 0, 1) := fp_hdX4_findFirst_0.1.2.1.1.1.2
theorem dX4_findFirst_32 : decode cX4_findFirst 32 = .ok (.getfield 9, 3) := fp_hdX4_findFirst_0.1.2.1.1.2.1
theorem dX4_findFirst_35 : decode cX4_findFirst 35 = .ok (.iload 5, 2) := fp_hdX4_findFirst_0.1.2.1.1.2.2
theorem dX4_findFirst_37 : decode cX4_findFirst 37 = .ok (.iaload, 1) := fp_hdX4_findFirst_0.1.2.1.2.1.1
theorem dX4_findFirst_38 : decode cX4_findFirst 38 = .ok (.istore 6, 2) := fp_hdX4_findFirst_0.1.2.1.2.1.2
theorem dX4_findFirst_40 : decode cX4_findFirst 40 = .ok (.iload 4, 2) := fp_hdX4_findFirst_0.1.2.1.2.2.1
theorem dX4_findFirst_42 : decode cX4_findFirst 42 = .ok (.bipush (-4), 2) := fp_hdX4_findFirst_0.1.2.1.2.2.2
theorem dX4_findFirst_44 : decode cX4_findFirst 44 = .ok (.if_icmp .eq 10, 3) := fp_hdX4_findFirst_0.1.2.2.1.1.1
theorem dX4_findFirst_47 : decode cX4_findFirst 47 = .ok (.iload 6, 2) := fp_hdX4_findFirst_0.1.2.2.1.1.2
theorem dX4_findFirst_49 : decode cX4_findFirst 49 = .ok (.iload 4, 2) := fp_hdX4_findFirst_0.1.2.2.1.2.1
theorem dX4_findFirst_51 : decode cX4_findFirst 51 = .ok (.if_icmp .ge 7, 3) := fp_hdX4_findFirst_0.1.2.2.1.2.2
theorem dX4_findFirst_54 : decode cX4_findFirst 54 = .ok (.iconst 1, 1) := fp_hdX4_findFirst_0.1.2.2.2.1.1
theorem dX4_findFirst_55 : decode cX4_findFirst 55 = .ok (.goto 4, 3) := fp_hdX4_findFirst_0.1.2.2.2.1.2
theorem dX4_findFirst_58 : decode cX4_findFirst 58 = .ok (.iconst 0, 1) := fp_hdX4_findFirst_0.1.2.2.2.2.1
theorem dX4_findFirst_59 : decode cX4_findFirst 59 = .ok (.istore 7, 2) := fp_hdX4_findFirst_0.1.2.2.2.2.2
theorem fp_hdX4_findFirst_61 : (((((decode cX4_findFirst 61 = .ok (.iload 7, 2) ∧ decode cX4_findFirst 63 = .ok (.ifCond .eq 28, 3)) ∧ (decode cX4_findFirst 66 = .ok (.aload_n 0, 1) ∧ decode cX4_findFirst 67 = .ok (.iload 6, 2))) ∧ ((decode cX4_findFirst 69 = .ok (.invokevirtual 78, 3) ∧ decode cX4_findFirst 72 = .ok (.ifCond .ne 19, 3)) ∧ (decode cX4_findFirst 75 = .ok (.aload_n 0, 1) ∧ decode cX4_findFirst 76 = .ok (.aload_n 1, 1)))) ∧ (((decode cX4_findFirst 77 = .ok (.aload_n 2, 1) ∧ decode cX4_findFirst 78 = .ok (.iload 6, 2)) ∧ (decode cX4_findFirst 80 = .ok (.iload_n 3, 1) ∧ decode cX4_findFirst 81 = .ok (.invokevirtual 81, 3))) ∧ ((decode cX4_findFirst 84 = .ok (.ifCond .eq 7, 3) ∧ decode cX4_findFirst 87 = .ok (.iload 6, 2)) ∧ (decode cX4_findFirst 89 = .ok (.istore 4, 2) ∧ decode cX4_findFirst 91 = .ok (.iinc 5 1, 3))))) ∧ ((((decode cX4_findFirst 94 = .ok (.goto (-72), 3) ∧ decode cX4_findFirst 97 = .ok (.aload_n 0, 1)) ∧ (decode cX4_findFirst 98 = .ok (.getfield 15, 3) ∧ decode cX4_findFirst 101 = .ok (.iload_n 3, 1))) ∧ ((decode cX4_findFirst 102 = .ok (.iload 4, 2) ∧ decode cX4_findFirst 104 = .ok (.iastore, 1)) ∧ (decode cX4_findFirst 105 = .ok (.iload 4, 2) ∧ decode cX4_findFirst 107 = .ok (.bipush (-4), 2)))) ∧ (((decode cX4_findFirst 109 = .ok (.if_icmp .eq 16, 3) ∧ decode cX4_findFirst 112 = .ok (.aload_n 0, 1)) ∧ (decode cX4_findFirst 113 = .ok (.dup, 1) ∧ decode cX4_findFirst 114 = .ok (.getfield 75, 3))) ∧ ((decode cX4_findFirst 117 = .ok (.iconst 1, 1) ∧ decode cX4_findFirst 118 = .ok (.iload 4, 2)) ∧ (decode cX4_findFirst 120 = .ok (.ishl, 1) ∧ decode cX4_findFirst 121 = .ok (.ior, 1)))))) ∧ bA cX4_findFirst 122 fp_scX4_findFirst_2 :=
  have q0 := fp_o21 fp_hdX4_findFirst_0.2
  have q1 := fp_o153 (v := 28) q0.2 rfl
  have q2 := fp_o42 q1.2
  have q3 := fp_o21 q2.2
  have q4 := fp_o182 (v := 78) q3.2 rfl
  have q5 := fp_o154 (v := 19) q4.2 rfl
  have q6 := fp_o42 q5.2
  have q7 := fp_o43 q6.2
  have q8 := fp_o44 q7.2
  have q9 := fp_o21 q8.2
  have q10 := fp_o29 q9.2
  have q11 := fp_o182 (v := 81) q10.2 rfl
  have q12 := fp_o153 (v := 7) q11.2 rfl
  have q13 := fp_o21 q12.2
  have q14 := fp_o54 q13.2
  have q15 := fp_o132 (v := 1) q14.2 rfl
  have q16 := fp_o167 (v := (-72)) q15.2 rfl
  have q17 := fp_o42 q16.2
  have q18 := fp_o180 (v := 15) q17.2 rfl
  have q19 := fp_o29 q18.2
  have q20 := fp_o21 q19.2
  have q21 := fp_o79 q20.2
  have q22 := fp_o21 q21.2
  have q23 := fp_o16 (v := (-4)) q22.2 rfl
  have q24 := fp_o159 (v := 16) q23.2 rfl
  have q25 := fp_o42 q24.2
  have q26 := fp_o89 q25.2
  have q27 := fp_o180 (v := 75) q26.2 rfl
  have q28 := fp_o4 q27.2
  have q29 := fp_o21 q28.2
  have q30 := fp_o120 q29.2
  have q31 := fp_o128 q30.2
  ⟨⟨⟨⟨⟨⟨q0.1, q1.1⟩, ⟨q2.1, q3.1⟩⟩, ⟨⟨q4.1, q5.1⟩, ⟨q6.1, q7.1⟩⟩⟩, ⟨⟨⟨q8.1, q9.1⟩, ⟨q10.1, q11.1⟩⟩, ⟨⟨q12.1, q13.1⟩, ⟨q14.1, q15.1⟩⟩⟩⟩, ⟨⟨⟨⟨q16.1, q17.1⟩, ⟨q18.1, q19.1⟩⟩, ⟨⟨q20.1, q21.1⟩, ⟨q22.1, q23.1⟩⟩⟩, ⟨⟨⟨q24.1, q25.1⟩, ⟨q26.1, q27.1⟩⟩, ⟨⟨q28.1, q29.1⟩, ⟨q30.1, q31.1⟩⟩⟩⟩⟩, q31.2⟩
theorem dX4_findFirst_61 : decode cX4_findFirst 61 = .ok (.iload 7, 2) := fp_hdX4_findFirst_61.1.1.1.1.1.1
theorem dX4_findFirst_63 : decode cX4_findFirst 63 = .ok (.ifCond .eq 28, 3) := fp_hdX4_findFirst_61.1.1.1.1.1.2
theorem dX4_findFirst_66 : decode cX4_findFirst 66 = .ok (.aload_n 0, 1) := fp_hdX4_findFirst_61.1.1.1.1.2.1
theorem dX4_findFirst_67 : decode cX4_findFirst 67 = .ok (.iload 6, 2) := fp_hdX4_findFirst_61.1.1.1.1.2.2
theorem dX4_findFirst_69 : decode cX4_findFirst 69 = .ok (.invokevirtual 78, 3) := fp_hdX4_findFirst_61.1.1.1.2.1.1
theorem dX4_findFirst_72 : decode cX4_findFirst 72 = .ok (.ifCond .ne 19, 3) := fp_hdX4_findFirst_61.1.1.1.2.1.2
theorem dX4_findFirst_75 : decode cX4_findFirst 75 = .ok (.aload_n 0, 1) := fp_hdX4_findFirst_61.1.1.1.2.2.1
theorem dX4_findFirst_76 : decode cX4_findFirst 76 = .ok (.aload_n 1, 1) := fp_hdX4_findFirst_61.1.1.1.2.2.2
theorem dX4_findFirst_77 : decode cX4_findFirst 77 = .ok (.aload_n 2, 1) := fp_hdX4_findFirst_61.1.1.2.1.1.1
theorem dX4_findFirst_78 : decode cX4_findFirst 78 = .ok (.iload 6, 2) := fp_hdX4_findFirst_61.1.1.2.1.1.2
theorem dX4_findFirst_80 : decode cX4_findFirst 80 = .ok (.iload_n 3, 1) := fp_hdX4_findFirst_61.1.1.2.1.2.1
theorem dX4_findFirst_81 : decode cX4_findFirst 81 = .ok (.invokevirtual 81, 3) := fp_hdX4_findFirst_61.1.1.2.1.2.2
theorem dX4_findFirst_84 : decode cX4_findFirst 84 = .ok (.ifCond .eq 7, 3) := fp_hdX4_findFirst_61.1.1.2.2.1.1
theorem dX4_findFirst_87 : decode cX4_findFirst 87 = .ok (.iload 6, 2) := fp_hdX4_findFirst_61.1.1.2.2.1.2
theorem dX4_findFirst_89 : decode cX4_findFirst 89 = .ok (.istore 4, 2) := fp_hdX4_findFirst_61.1.1.2.2.2.1
theorem dX4_findFirst_91 : decode cX4_findFirst 91 = .ok (.iinc 5 1, 3) := fp_hdX4_findFirst_61.1.1.2.2.2.2
theorem dX4_findFirst_94 : decode cX4_findFirst 94 = .ok (.goto (-72), 3) := fp_hdX4_findFirst_61.1.2.1.1.1.1
theorem dX4_findFirst_97 : decode cX4_findFirst 97 = .ok (.aload_n 0, 1) := fp_hdX4_findFirst_61.1.2.1.1.1.2
theorem dX4_findFirst_98 : decode cX4_findFirst 98 = .ok (.getfield 15, 3) := fp_hdX4_findFirst_61.1.2.1.1.2.1
theorem dX4_findFirst_101 : decode cX4_findFirst 101 = .ok (.iload_n 3, 1) := fp_hdX4_findFirst_61.1.2.1.1.2.2
theorem dX4_findFirst_102 : decode cX4_findFirst 102 = .ok (.iload 4, 2) := fp_hdX4_findFirst_61.1.2.1.2.1.1
theorem dX4_findFirst_104 : decode cX4_findFirst 104 = .ok (.iastore, 1) := fp_hdX4_findFirst_61.1.2.1.2.1.2
theorem dX4_findFirst_105 : decode cX4_findFirst 105 = .ok (.iload 4, 2) := fp_hdX4_findFirst_61.1.2.1.2.2.1
theorem dX4_findFirst_107 : decode cX4_findFirst 107 = .ok (.bipush (-4), 2) := fp_hdX4_findFirst_61.1.2.1.2.2.2
theorem dX4_findFirst_109 : decode cX4_findFirst 109 = .ok (.if_icmp .eq 16, 3) := fp_hdX4_findFirst_61.1.2.2.1.1.1
theorem dX4_findFirst_112 : decode cX4_findFirst 112 = .ok (.aload_n 0, 1) := fp_hdX4_findFirst_61.1.2.2.1.1.2
theorem dX4_findFirst_113 : decode cX4_findFirst 113 = .ok (.dup, 1) := fp_hdX4_findFirst_61.1.2.2.1.2.1
theorem dX4_findFirst_114 : decode cX4_findFirst 114 = .ok (.getfield 75, 3) := fp_hdX4_findFirst_61.1.2.2.1.2.2
theorem dX4_findFirst_117 : decode cX4_findFirst 117 = .ok (.iconst 1, 1) := fp_hdX4_findFirst_61.1.2.2.2.1.1
theorem dX4_findFirst_118 : decode cX4_findFirst 118 = .ok (.iload 4, 2) := fp_hdX4_findFirst_61.1.2.2.2.1.2
theorem dX4_findFirst_120 : decode cX4_findFirst 120 = .ok (.ishl, 1) := fp_hdX4_findFirst_61.1.2.2.2.2.1
theorem dX4_findFirst_121 : decode cX4_findFirst 121 = .ok (.ior, 1) := fp_hdX4_findFirst_61.1.2.2.2.2.2
theorem fp_hdX4_findFirst_122 : ((decode cX4_findFirst 122 = .ok (.putfield 75, 3) ∧ decode cX4_findFirst 125 = .ok (.iinc 3 1, 3)) ∧ (decode cX4_findFirst 128 = .ok (.goto (-121), 3) ∧ decode cX4_findFirst 131 = .ok (.return_, 1))) ∧ bA cX4_findFirst 132 [] :=
  have q0 := fp_o181 (v := 75) fp_hdX4_findFirst_61.2 rfl
  have q1 := fp_o132 (v := 1) q0.2 rfl
  have q2 := fp_o167 (v := (-121)) q1.2 rfl
  have q3 := fp_o177 q2.2
  ⟨⟨⟨q0.1, q1.1⟩, ⟨q2.1, q3.1⟩⟩, q3.2⟩
theorem dX4_findFirst_122 : decode cX4_findFirst 122 = .ok (.putfield 75, 3) := fp_hdX4_findFirst_122.1.1.1
theorem dX4_findFirst_125 : decode cX4_findFirst 125 = .ok (.iinc 3 1, 3) := fp_hdX4_findFirst_122.1.1.2
theorem dX4_findFirst_128 : decode cX4_findFirst 128 = .ok (.goto (-121), 3) := fp_hdX4_findFirst_122.1.2.1
theorem dX4_findFirst_131 : decode cX4_findFirst 131 = .ok (.return_, 1) := fp_hdX4_findFirst_122.1.2.2
def fp_scX4_isPlaced_0 : List Nat := 42 :: 180 :: 0 :: 75 :: 4 :: 27 :: 120 :: 126 :: 153 :: 0 :: 7 :: 4 :: 167 :: 0 :: 4 :: 3 :: 172 :: []
theorem fp_bcX4_isPlaced : bA cX4_isPlaced 0 fp_scX4_isPlaced_0 := show cX4_isPlaced.data.toList.map UInt8.toNat = fp_scX4_isPlaced_0 from by decide +kernel
theorem fp_hdX4_isPlaced_0 : ((((decode cX4_isPlaced 0 = .ok (.aload_n 0, 1) ∧ decode cX4_isPlaced 1 = .ok (.getfield 75, 3)) ∧ decode cX4_isPlaced 4 = .ok (.iconst 1, 1)) ∧ ((decode cX4_isPlaced 5 = .ok (.iload_n 1, 1) ∧ decode cX4_isPlaced 6 = .ok (.ishl, 1)) ∧ decode cX4_isPlaced 7 = .ok (.iand, 1))) ∧ (((decode cX4_isPlaced 8 = .ok (.ifCond .eq 7, 3) ∧ decode cX4_isPlaced 11 = .ok (.iconst 1, 1)) ∧ decode cX4_isPlaced 12 = .ok (.goto 4, 3)) ∧ (decode cX4_isPlaced 15 = .ok (.iconst 0, 1) ∧ decode cX4_isPlaced 16 = .ok (.ireturn, 1)))) ∧ bA cX4_isPlaced 17 [] :=
  have q0 := fp_o42 fp_bcX4_isPlaced
  have q1 := fp_o180 (v := 75) q0.2 rfl
  have q2 := fp_o4 q1.2
  have q3 := fp_o27 q2.2
  have q4 := fp_o120 q3.2
  have q5 := fp_o126 q4.2
  have q6 := fp_o153 (v := 7) q5.2 rfl
  have q7 := fp_o4 q6.2
  have q8 := fp_o167 (v := 4) q7.2 rfl
  have q9 := fp_o3 q8.2
  have q10 := fp_o172 q9.2
  ⟨⟨⟨⟨⟨q0.1, q1.1⟩, q2.1⟩, ⟨⟨q3.1, q4.1⟩, q5.1⟩⟩, ⟨⟨⟨q6.1, q7.1⟩, q8.1⟩, ⟨q9.1, q10.1⟩⟩⟩, q10.2⟩
theorem dX4_isPlaced_0 : decode cX4_isPlaced 0 = .ok (.aload_n 0, 1) := fp_hdX4_isPlaced_0.1.1.1.1.1
theorem dX4_isPlaced_1 : decode cX4_isPlaced 1 = .ok (.getfield 75, 3) := fp_hdX4_isPlaced_0.1.1.1.1.2
theorem dX4_isPlaced_4 : decode cX4_isPlaced 4 = .ok (.iconst 1, 1) := fp_hdX4_isPlaced_0.1.1.1.2
theorem dX4_isPlaced_5 : decode cX4_isPlaced 5 = .ok (.iload_n 1, 1) := fp_hdX4_isPlaced_0.1.1.2.1.1
theorem dX4_isPlaced_6 : decode cX4_isPlaced 6 = .ok (.ishl, 1) := fp_hdX4_isPlaced_0.1.1.2.1.2
theorem dX4_isPlaced_7 : decode cX4_isPlaced 7 = .ok (.iand, 1) := fp_hdX4_isPlaced_0.1.1.2.2
theorem dX4_isPlaced_8 : decode cX4_isPlaced 8 = .ok (.ifCond .eq 7, 3) := fp_hdX4_isPlaced_0.1.2.1.1.1
theorem dX4_isPlaced_11 : decode cX4_isPlaced 11 = .ok (.iconst 1, 1) := fp_hdX4_isPlaced_0.1.2.1.1.2
theorem dX4_isPlaced_12 : decode cX4_isPlaced 12 = .ok (.goto 4, 3) := fp_hdX4_isPlaced_0.1.2.1.2
theorem dX4_isPlaced_15 : decode cX4_isPlaced 15 = .ok (.iconst 0, 1) := fp_hdX4_isPlaced_0.1.2.2.1
theorem dX4_isPlaced_16 : decode cX4_isPlaced 16 = .ok (.ireturn, 1) := fp_hdX4_isPlaced_0.1.2.2.2
def fp_scX4_mayStand_1 : List Nat := 46 :: 54 :: 6 :: 21 :: 6 :: 29 :: 160 :: 0 :: 5 :: 4 :: 172 :: 42 :: 21 :: 6 :: 182 :: 0 :: 78 :: 154 :: 0 :: 21 :: 42 :: 43 :: 21 :: 6 :: 182 :: 0 :: 59 :: 42 :: 43 :: 29 :: 182 :: 0 :: 59 :: 160 :: 0 :: 5 :: 3 :: 172 :: 132 :: 5 :: 1 :: 167 :: 255 :: 200 :: 4 :: 172 :: []
def fp_scX4_mayStand_0 : List Nat := 42 :: 180 :: 0 :: 23 :: 4 :: 160 :: 0 :: 37 :: 44 :: 29 :: 182 :: 0 :: 63 :: 54 :: 5 :: 21 :: 5 :: 16 :: 252 :: 159 :: 0 :: 17 :: 21 :: 4 :: 42 :: 180 :: 0 :: 31 :: 4 :: 100 :: 21 :: 5 :: 100 :: 160 :: 0 :: 7 :: 4 :: 167 :: 0 :: 4 :: 3 :: 172 :: 3 :: 54 :: 5 :: 21 :: 5 :: 44 :: 180 :: 0 :: 45 :: 162 :: 0 :: 53 :: 44 :: 180 :: 0 :: 48 :: 21 :: 5 :: fp_scX4_mayStand_1
theorem fp_bcX4_mayStand : bA cX4_mayStand 0 fp_scX4_mayStand_0 := show cX4_mayStand.data.toList.map UInt8.toNat = fp_scX4_mayStand_0 from by decide +kernel
theorem fp_hdX4_mayStand_0 : (((((decode cX4_mayStand 0 = .ok (.aload_n 0, 1) ∧ decode cX4_mayStand 1 = .ok (.getfield 23, 3)) ∧ (decode cX4_mayStand 4 = .ok (.iconst 1, 1) ∧ decode cX4_mayStand 5 = .ok (.if_icmp .ne 37, 3))) ∧ ((decode cX4_mayStand 8 = .ok (.aload_n 2, 1) ∧ decode cX4_mayStand 9 = .ok (.iload_n 3, 1)) ∧ (decode cX4_mayStand 10 = .ok (.invokevirtual 63, 3) ∧ decode cX4_mayStand 13 = .ok (.istore 5, 2)))) ∧ (((decode cX4_mayStand 15 = .ok (.iload 5, 2) ∧ decode cX4_mayStand 17 = .ok (.bipush (-4), 2)) ∧ (decode cX4_mayStand 19 = .ok (.if_icmp .eq 17, 3) ∧ decode cX4_mayStand 22 = .ok (.iload 4, 2))) ∧ ((decode cX4_mayStand 24 = .ok (.aload_n 0, 1) ∧ decode cX4_mayStand 25 = .ok (.getfield 31, 3)) ∧ (decode cX4_mayStand 28 = .ok (.iconst 1, 1) ∧ decode cX4_mayStand 29 = .ok (.isub, 1))))) ∧ ((((decode cX4_mayStand 30 = .ok (.iload 5, 2) ∧ decode cX4_mayStand 32 = .ok (.isub, 1)) ∧ (decode cX4_mayStand 33 = .ok (.if_icmp .ne 7, 3) ∧ decode cX4_mayStand 36 = .ok (.iconst 1, 1))) ∧ ((decode cX4_mayStand 37 = .ok (.goto 4, 3) ∧ decode cX4_mayStand 40 = .ok (.iconst 0, 1)) ∧ (decode cX4_mayStand 41 = .ok (.ireturn, 1) ∧ decode cX4_mayStand 42 = .ok (.iconst 0, 1)))) ∧ (((decode cX4_mayStand 43 = .ok (.istore 5, 2) ∧ decode cX4_mayStand 45 = .ok (.iload 5, 2)) ∧ (decode cX4_mayStand 47 = .ok (.aload_n 2, 1) ∧ decode cX4_mayStand 48 = .ok (.getfield 45, 3))) ∧ ((decode cX4_mayStand 51 = .ok (.if_icmp .ge 53, 3) ∧ decode cX4_mayStand 54 = .ok (.aload_n 2, 1)) ∧ (decode cX4_mayStand 55 = .ok (.getfield 48, 3) ∧ decode cX4_mayStand 58 = .ok (.iload 5, 2)))))) ∧ bA cX4_mayStand 60 fp_scX4_mayStand_1 :=
  have q0 := fp_o42 fp_bcX4_mayStand
  have q1 := fp_o180 (v := 23) q0.2 rfl
  have q2 := fp_o4 q1.2
  have q3 := fp_o160 (v := 37) q2.2 rfl
  have q4 := fp_o44 q3.2
  have q5 := fp_o29 q4.2
  have q6 := fp_o182 (v := 63) q5.2 rfl
  have q7 := fp_o54 q6.2
  have q8 := fp_o21 q7.2
  have q9 := fp_o16 (v := (-4)) q8.2 rfl
  have q10 := fp_o159 (v := 17) q9.2 rfl
  have q11 := fp_o21 q10.2
  have q12 := fp_o42 q11.2
  have q13 := fp_o180 (v := 31) q12.2 rfl
  have q14 := fp_o4 q13.2
  have q15 := fp_o100 q14.2
  have q16 := fp_o21 q15.2
  have q17 := fp_o100 q16.2
  have q18 := fp_o160 (v := 7) q17.2 rfl
  have q19 := fp_o4 q18.2
  have q20 := fp_o167 (v := 4) q19.2 rfl
  have q21 := fp_o3 q20.2
  have q22 := fp_o172 q21.2
  have q23 := fp_o3 q22.2
  have q24 := fp_o54 q23.2
  have q25 := fp_o21 q24.2
  have q26 := fp_o44 q25.2
  have q27 := fp_o180 (v := 45) q26.2 rfl
  have q28 := fp_o162 (v := 53) q27.2 rfl
  have q29 := fp_o44 q28.2
  have q30 := fp_o180 (v := 48) q29.2 rfl
  have q31 := fp_o21 q30.2
  ⟨⟨⟨⟨⟨⟨q0.1, q1.1⟩, ⟨q2.1, q3.1⟩⟩, ⟨⟨q4.1, q5.1⟩, ⟨q6.1, q7.1⟩⟩⟩, ⟨⟨⟨q8.1, q9.1⟩, ⟨q10.1, q11.1⟩⟩, ⟨⟨q12.1, q13.1⟩, ⟨q14.1, q15.1⟩⟩⟩⟩, ⟨⟨⟨⟨q16.1, q17.1⟩, ⟨q18.1, q19.1⟩⟩, ⟨⟨q20.1, q21.1⟩, ⟨q22.1, q23.1⟩⟩⟩, ⟨⟨⟨q24.1, q25.1⟩, ⟨q26.1, q27.1⟩⟩, ⟨⟨q28.1, q29.1⟩, ⟨q30.1, q31.1⟩⟩⟩⟩⟩, q31.2⟩
theorem dX4_mayStand_0 : decode cX4_mayStand 0 = .ok (.aload_n 0, 1) := fp_hdX4_mayStand_0.1.1.1.1.1.1
theorem dX4_mayStand_1 : decode cX4_mayStand 1 = .ok (.getfield 23, 3) := fp_hdX4_mayStand_0.1.1.1.1.1.2
theorem dX4_mayStand_4 : decode cX4_mayStand 4 = .ok (.iconst 1, 1) := fp_hdX4_mayStand_0.1.1.1.1.2.1
theorem dX4_mayStand_5 : decode cX4_mayStand 5 = .ok (.if_icmp .ne 37, 3) := fp_hdX4_mayStand_0.1.1.1.1.2.2
theorem dX4_mayStand_8 : decode cX4_mayStand 8 = .ok (.aload_n 2, 1) := fp_hdX4_mayStand_0.1.1.1.2.1.1
theorem dX4_mayStand_9 : decode cX4_mayStand 9 = .ok (.iload_n 3, 1) := fp_hdX4_mayStand_0.1.1.1.2.1.2
theorem dX4_mayStand_10 : decode cX4_mayStand 10 = .ok (.invokevirtual 63, 3) := fp_hdX4_mayStand_0.1.1.1.2.2.1
theorem dX4_mayStand_13 : decode cX4_mayStand 13 = .ok (.istore 5, 2) := fp_hdX4_mayStand_0.1.1.1.2.2.2
theorem dX4_mayStand_15 : decode cX4_mayStand 15 = .ok (.iload 5, 2) := fp_hdX4_mayStand_0.1.1.2.1.1.1
theorem dX4_mayStand_17 : decode cX4_mayStand 17 = .ok (.bipush (-4), 2) := fp_hdX4_mayStand_0.1.1.2.1.1.2
theorem dX4_mayStand_19 : decode cX4_mayStand 19 = .ok (.if_icmp .eq 17, 3) := fp_hdX4_mayStand_0.1.1.2.1.2.1
theorem dX4_mayStand_22 : decode cX4_mayStand 22 = .ok (.iload 4, 2) := fp_hdX4_mayStand_0.1.1.2.1.2.2
theorem dX4_mayStand_24 : decode cX4_mayStand 24 = .ok (.aload_n 0, 1) := fp_hdX4_mayStand_0.1.1.2.2.1.1
theorem dX4_mayStand_25 : decode cX4_mayStand 25 = .ok (.getfield 31, 3) := fp_hdX4_mayStand_0.1.1.2.2.1.2
theorem dX4_mayStand_28 : decode cX4_mayStand 28 = .ok (.iconst 1, 1) := fp_hdX4_mayStand_0.1.1.2.2.2.1
theorem dX4_mayStand_29 : decode cX4_mayStand 29 = .ok (.isub, 1) := fp_hdX4_mayStand_0.1.1.2.2.2.2
theorem dX4_mayStand_30 : decode cX4_mayStand 30 = .ok (.iload 5, 2) := fp_hdX4_mayStand_0.1.2.1.1.1.1
theorem dX4_mayStand_32 : decode cX4_mayStand 32 = .ok (.isub, 1) := fp_hdX4_mayStand_0.1.2.1.1.1.2
theorem dX4_mayStand_33 : decode cX4_mayStand 33 = .ok (.if_icmp .ne 7, 3) := fp_hdX4_mayStand_0.1.2.1.1.2.1
theorem dX4_mayStand_36 : decode cX4_mayStand 36 = .ok (.iconst 1, 1) := fp_hdX4_mayStand_0.1.2.1.1.2.2
theorem dX4_mayStand_37 : decode cX4_mayStand 37 = .ok (.goto 4, 3) := fp_hdX4_mayStand_0.1.2.1.2.1.1
theorem dX4_mayStand_40 : decode cX4_mayStand 40 = .ok (.iconst 0, 1) := fp_hdX4_mayStand_0.1.2.1.2.1.2
theorem dX4_mayStand_41 : decode cX4_mayStand 41 = .ok (.ireturn, 1) := fp_hdX4_mayStand_0.1.2.1.2.2.1
theorem dX4_mayStand_42 : decode cX4_mayStand 42 = .ok (.iconst 0, 1) := fp_hdX4_mayStand_0.1.2.1.2.2.2
theorem dX4_mayStand_43 : decode cX4_mayStand 43 = .ok (.istore 5, 2) := fp_hdX4_mayStand_0.1.2.2.1.1.1
theorem dX4_mayStand_45 : decode cX4_mayStand 45 = .ok (.iload 5, 2) := fp_hdX4_mayStand_0.1.2.2.1.1.2
theorem dX4_mayStand_47 : decode cX4_mayStand 47 = .ok (.aload_n 2, 1) := fp_hdX4_mayStand_0.1.2.2.1.2.1
theorem dX4_mayStand_48 : decode cX4_mayStand 48 = .ok (.getfield 45, 3) := fp_hdX4_mayStand_0.1.2.2.1.2.2
theorem dX4_mayStand_51 : decode cX4_mayStand 51 = .ok (.if_icmp .ge 53, 3) := fp_hdX4_mayStand_0.1.2.2.2.1.1
theorem dX4_mayStand_54 : decode cX4_mayStand 54 = .ok (.aload_n 2, 1) := fp_hdX4_mayStand_0.1.2.2.2.1.2
theorem dX4_mayStand_55 : decode cX4_mayStand 55 = .ok (.getfield 48, 3) := fp_hdX4_mayStand_0.1.2.2.2.2.1
theorem dX4_mayStand_58 : decode cX4_mayStand 58 = .ok (.iload 5, 2) := fp_hdX4_mayStand_0.1.2.2.2.2.2
theorem fp_hdX4_mayStand_60 : (((((decode cX4_mayStand 60 = .ok (.iaload, 1) ∧ decode cX4_mayStand 61 = .ok (.istore 6, 2)) ∧ (decode cX4_mayStand 63 = .ok (.iload 6, 2) ∧ decode cX4_mayStand 65 = .ok (.iload_n 3, 1))) ∧ ((decode cX4_mayStand 66 = .ok (.if_icmp .ne 5, 3) ∧ decode cX4_mayStand 69 = .ok (.iconst 1, 1)) ∧ decode cX4_mayStand 70 = .ok (.ireturn, 1))) ∧ (((decode cX4_mayStand 71 = .ok (.aload_n 0, 1) ∧ decode cX4_mayStand 72 = .ok (.iload 6, 2)) ∧ decode cX4_mayStand 74 = .ok (.invokevirtual 78, 3)) ∧ ((decode cX4_mayStand 77 = .ok (.ifCond .ne 21, 3) ∧ decode cX4_mayStand 80 = .ok (.aload_n 0, 1)) ∧ decode cX4_mayStand 81 = .ok (.aload_n 1, 1)))) ∧ ((((decode cX4_mayStand 82 = .ok (.iload 6, 2) ∧ decode cX4_mayStand 84 = .ok (.invokevirtual 59, 3)) ∧ (decode cX4_mayStand 87 = .ok (.aload_n 0, 1) ∧ decode cX4_mayStand 88 = .ok (.aload_n 1, 1))) ∧ ((decode cX4_mayStand 89 = .ok (.iload_n 3, 1) ∧ decode cX4_mayStand 90 = .ok (.invokevirtual 59, 3)) ∧ decode cX4_mayStand 93 = .ok (.if_icmp .ne 5, 3))) ∧ (((decode cX4_mayStand 96 = .ok (.iconst 0, 1) ∧ decode cX4_mayStand 97 = .ok (.ireturn, 1)) ∧ decode cX4_mayStand 98 = .ok (.iinc 5 1, 3)) ∧ ((decode cX4_mayStand 101 = .ok (.goto (-56), 3) ∧ decode cX4_mayStand 104 = .ok (.iconst 1, 1)) ∧ decode cX4_mayStand 105 = .ok (.ireturn, 1))))) ∧ bA cX4_mayStand 106 [] :=
  have q0 := fp_o46 fp_hdX4_mayStand_0.2
  have q1 := fp_o54 q0.2
  have q2 := fp_o21 q1.2
  have q3 := fp_o29 q2.2
  have q4 := fp_o160 (v := 5) q3.2 rfl
  have q5 := fp_o4 q4.2
  have q6 := fp_o172 q5.2
  have q7 := fp_o42 q6.2
  have q8 := fp_o21 q7.2
  have q9 := fp_o182 (v := 78) q8.2 rfl
  have q10 := fp_o154 (v := 21) q9.2 rfl
  have q11 := fp_o42 q10.2
  have q12 := fp_o43 q11.2
  have q13 := fp_o21 q12.2
  have q14 := fp_o182 (v := 59) q13.2 rfl
  have q15 := fp_o42 q14.2
  have q16 := fp_o43 q15.2
  have q17 := fp_o29 q16.2
  have q18 := fp_o182 (v := 59) q17.2 rfl
  have q19 := fp_o160 (v := 5) q18.2 rfl
  have q20 := fp_o3 q19.2
  have q21 := fp_o172 q20.2
  have q22 := fp_o132 (v := 1) q21.2 rfl
  have q23 := fp_o167 (v := (-56)) q22.2 rfl
  have q24 := fp_o4 q23.2
  have q25 := fp_o172 q24.2
  ⟨⟨⟨⟨⟨⟨q0.1, q1.1⟩, ⟨q2.1, q3.1⟩⟩, ⟨⟨q4.1, q5.1⟩, q6.1⟩⟩, ⟨⟨⟨q7.1, q8.1⟩, q9.1⟩, ⟨⟨q10.1, q11.1⟩, q12.1⟩⟩⟩, ⟨⟨⟨⟨q13.1, q14.1⟩, ⟨q15.1, q16.1⟩⟩, ⟨⟨q17.1, q18.1⟩, q19.1⟩⟩, ⟨⟨⟨q20.1, q21.1⟩, q22.1⟩, ⟨⟨q23.1, q24.1⟩, q25.1⟩⟩⟩⟩, q25.2⟩
theorem dX4_mayStand_60 : decode cX4_mayStand 60 = .ok (.iaload, 1) := fp_hdX4_mayStand_60.1.1.1.1.1.1
theorem dX4_mayStand_61 : decode cX4_mayStand 61 = .ok (.istore 6, 2) := fp_hdX4_mayStand_60.1.1.1.1.1.2
theorem dX4_mayStand_63 : decode cX4_mayStand 63 = .ok (.iload 6, 2) := fp_hdX4_mayStand_60.1.1.1.1.2.1
theorem dX4_mayStand_65 : decode cX4_mayStand 65 = .ok (.iload_n 3, 1) := fp_hdX4_mayStand_60.1.1.1.1.2.2
theorem dX4_mayStand_66 : decode cX4_mayStand 66 = .ok (.if_icmp .ne 5, 3) := fp_hdX4_mayStand_60.1.1.1.2.1.1
theorem dX4_mayStand_69 : decode cX4_mayStand 69 = .ok (.iconst 1, 1) := fp_hdX4_mayStand_60.1.1.1.2.1.2
theorem dX4_mayStand_70 : decode cX4_mayStand 70 = .ok (.ireturn, 1) := fp_hdX4_mayStand_60.1.1.1.2.2
theorem dX4_mayStand_71 : decode cX4_mayStand 71 = .ok (.aload_n 0, 1) := fp_hdX4_mayStand_60.1.1.2.1.1.1
theorem dX4_mayStand_72 : decode cX4_mayStand 72 = .ok (.iload 6, 2) := fp_hdX4_mayStand_60.1.1.2.1.1.2
theorem dX4_mayStand_74 : decode cX4_mayStand 74 = .ok (.invokevirtual 78, 3) := fp_hdX4_mayStand_60.1.1.2.1.2
theorem dX4_mayStand_77 : decode cX4_mayStand 77 = .ok (.ifCond .ne 21, 3) := fp_hdX4_mayStand_60.1.1.2.2.1.1
theorem dX4_mayStand_80 : decode cX4_mayStand 80 = .ok (.aload_n 0, 1) := fp_hdX4_mayStand_60.1.1.2.2.1.2
theorem dX4_mayStand_81 : decode cX4_mayStand 81 = .ok (.aload_n 1, 1) := fp_hdX4_mayStand_60.1.1.2.2.2
theorem dX4_mayStand_82 : decode cX4_mayStand 82 = .ok (.iload 6, 2) := fp_hdX4_mayStand_60.1.2.1.1.1.1
theorem dX4_mayStand_84 : decode cX4_mayStand 84 = .ok (.invokevirtual 59, 3) := fp_hdX4_mayStand_60.1.2.1.1.1.2
theorem dX4_mayStand_87 : decode cX4_mayStand 87 = .ok (.aload_n 0, 1) := fp_hdX4_mayStand_60.1.2.1.1.2.1
theorem dX4_mayStand_88 : decode cX4_mayStand 88 = .ok (.aload_n 1, 1) := fp_hdX4_mayStand_60.1.2.1.1.2.2
theorem dX4_mayStand_89 : decode cX4_mayStand 89 = .ok (.iload_n 3, 1) := fp_hdX4_mayStand_60.1.2.1.2.1.1
theorem dX4_mayStand_90 : decode cX4_mayStand 90 = .ok (.invokevirtual 59, 3) := fp_hdX4_mayStand_60.1.2.1.2.1.2
theorem dX4_mayStand_93 : decode cX4_mayStand 93 = .ok (.if_icmp .ne 5, 3) := fp_hdX4_mayStand_60.1.2.1.2.2
theorem dX4_mayStand_96 : decode cX4_mayStand 96 = .ok (.iconst 0, 1) := fp_hdX4_mayStand_60.1.2.2.1.1.1
theorem dX4_mayStand_97 : decode cX4_mayStand 97 = .ok (.ireturn, 1) := fp_hdX4_mayStand_60.1.2.2.1.1.2
theorem dX4_mayStand_98 : decode cX4_mayStand 98 = .ok (.iinc 5 1, 3) := fp_hdX4_mayStand_60.1.2.2.1.2
theorem dX4_mayStand_101 : decode cX4_mayStand 101 = .ok (.goto (-56), 3) := fp_hdX4_mayStand_60.1.2.2.2.1.1
theorem dX4_mayStand_104 : decode cX4_mayStand 104 = .ok (.iconst 1, 1) := fp_hdX4_mayStand_60.1.2.2.2.1.2
theorem dX4_mayStand_105 : decode cX4_mayStand 105 = .ok (.ireturn, 1) := fp_hdX4_mayStand_60.1.2.2.2.2
def fp_scX5_init_0 : List Nat := 42 :: 183 :: 0 :: 3 :: 42 :: 16 :: 10 :: 188 :: 10 :: 181 :: 0 :: 9 :: 42 :: 16 :: 10 :: 188 :: 10 :: 181 :: 0 :: 15 :: 42 :: 6 :: 188 :: 10 :: 181 :: 0 :: 18 :: 42 :: 16 :: 24 :: 188 :: 10 :: 181 :: 0 :: 21 :: 42 :: 180 :: 0 :: 9 :: 16 :: 252 :: 184 :: 0 :: 24 :: 42 :: 180 :: 0 :: 15 :: 16 :: 252 :: 184 :: 0 :: 24 :: 177 :: []
theorem fp_bcX5_init : bA cX5_init 0 fp_scX5_init_0 := show cX5_init.data.toList.map UInt8.toNat = fp_scX5_init_0 from by decide +kernel
theorem fp_hdX5_init_0 : (((((decode cX5_init 0 = .ok (.aload_n 0, 1) ∧ decode cX5_init 1 = .ok (.invokespecial 3, 3)) ∧ (decode cX5_init 4 = .ok (.aload_n 0, 1) ∧ decode cX5_init 5 = .ok (.bipush 10, 2))) ∧ ((decode cX5_init 7 = .ok (.newarray .int, 2) ∧ decode cX5_init 9 = .ok (.putfield 9, 3)) ∧ decode cX5_init 12 = .ok (.aload_n 0, 1))) ∧ (((decode cX5_init 13 = .ok (.bipush 10, 2) ∧ decode cX5_init 15 = .ok (.newarray .int, 2)) ∧ (decode cX5_init 17 = .ok (.putfield 15, 3) ∧ decode cX5_init 20 = .ok (.aload_n 0, 1))) ∧ ((decode cX5_init 21 = .ok (.iconst 3, 1) ∧ decode cX5_init 22 = .ok (.newarray .int, 2)) ∧ decode cX5_init 24 = .ok (.putfield 18, 3)))) ∧ ((((decode cX5_init 27 = .ok (.aload_n 0, 1) ∧ decode cX5_init 28 = .ok (.bipush 24, 2)) ∧ (decode cX5_init 30 = .ok (.newarray .int, 2) ∧ decode cX5_init 32 = .ok (.putfield 21, 3))) ∧ ((decode cX5_init 35 = .ok (.aload_n 0, 1) ∧ decode cX5_init 36 = .ok (.getfield 9, 3)) ∧ decode cX5_init 39 = .ok (.bipush (-4), 2))) ∧ (((decode cX5_init 41 = .ok (.invokestatic 24, 3) ∧ decode cX5_init 44 = .ok (.aload_n 0, 1)) ∧ decode cX5_init 45 = .ok (.getfield 15, 3)) ∧ ((decode cX5_init 48 = .ok (.bipush (-4), 2) ∧ decode cX5_init 50 = .ok (.invokestatic 24, 3)) ∧ decode cX5_init 53 = .ok (.return_, 1))))) ∧ bA cX5_init 54 [] :=
  have q0 := fp_o42 fp_bcX5_init
  have q1 := fp_o183 (v := 3) q0.2 rfl
  have q2 := fp_o42 q1.2
  have q3 := fp_o16 (v := 10) q2.2 rfl
  have q4 := fp_o188_10 q3.2
  have q5 := fp_o181 (v := 9) q4.2 rfl
  have q6 := fp_o42 q5.2
  have q7 := fp_o16 (v := 10) q6.2 rfl
  have q8 := fp_o188_10 q7.2
  have q9 := fp_o181 (v := 15) q8.2 rfl
  have q10 := fp_o42 q9.2
  have q11 := fp_o6 q10.2
  have q12 := fp_o188_10 q11.2
  have q13 := fp_o181 (v := 18) q12.2 rfl
  have q14 := fp_o42 q13.2
  have q15 := fp_o16 (v := 24) q14.2 rfl
  have q16 := fp_o188_10 q15.2
  have q17 := fp_o181 (v := 21) q16.2 rfl
  have q18 := fp_o42 q17.2
  have q19 := fp_o180 (v := 9) q18.2 rfl
  have q20 := fp_o16 (v := (-4)) q19.2 rfl
  have q21 := fp_o184 (v := 24) q20.2 rfl
  have q22 := fp_o42 q21.2
  have q23 := fp_o180 (v := 15) q22.2 rfl
  have q24 := fp_o16 (v := (-4)) q23.2 rfl
  have q25 := fp_o184 (v := 24) q24.2 rfl
  have q26 := fp_o177 q25.2
  ⟨⟨⟨⟨⟨⟨q0.1, q1.1⟩, ⟨q2.1, q3.1⟩⟩, ⟨⟨q4.1, q5.1⟩, q6.1⟩⟩, ⟨⟨⟨q7.1, q8.1⟩, ⟨q9.1, q10.1⟩⟩, ⟨⟨q11.1, q12.1⟩, q13.1⟩⟩⟩, ⟨⟨⟨⟨q14.1, q15.1⟩, ⟨q16.1, q17.1⟩⟩, ⟨⟨q18.1, q19.1⟩, q20.1⟩⟩, ⟨⟨⟨q21.1, q22.1⟩, q23.1⟩, ⟨⟨q24.1, q25.1⟩, q26.1⟩⟩⟩⟩, q26.2⟩
theorem dX5_init_0 : decode cX5_init 0 = .ok (.aload_n 0, 1) := fp_hdX5_init_0.1.1.1.1.1.1
theorem dX5_init_1 : decode cX5_init 1 = .ok (.invokespecial 3, 3) := fp_hdX5_init_0.1.1.1.1.1.2
theorem dX5_init_4 : decode cX5_init 4 = .ok (.aload_n 0, 1) := fp_hdX5_init_0.1.1.1.1.2.1
theorem dX5_init_5 : decode cX5_init 5 = .ok (.bipush 10, 2) := fp_hdX5_init_0.1.1.1.1.2.2
theorem dX5_init_7 : decode cX5_init 7 = .ok (.newarray .int, 2) := fp_hdX5_init_0.1.1.1.2.1.1
theorem dX5_init_9 : decode cX5_init 9 = .ok (.putfield 9, 3) := fp_hdX5_init_0.1.1.1.2.1.2
theorem dX5_init_12 : decode cX5_init 12 = .ok (.aload_n 0, 1) := fp_hdX5_init_0.1.1.1.2.2
theorem dX5_init_13 : decode cX5_init 13 = .ok (.bipush 10, 2) := fp_hdX5_init_0.1.1.2.1.1.1
theorem dX5_init_15 : decode cX5_init 15 = .ok (.newarray .int, 2) := fp_hdX5_init_0.1.1.2.1.1.2
theorem dX5_init_17 : decode cX5_init 17 = .ok (.putfield 15, 3) := fp_hdX5_init_0.1.1.2.1.2.1
theorem dX5_init_20 : decode cX5_init 20 = .ok (.aload_n 0, 1) := fp_hdX5_init_0.1.1.2.1.2.2
theorem dX5_init_21 : decode cX5_init 21 = .ok (.iconst 3, 1) := fp_hdX5_init_0.1.1.2.2.1.1
theorem dX5_init_22 : decode cX5_init 22 = .ok (.newarray .int, 2) := fp_hdX5_init_0.1.1.2.2.1.2
theorem dX5_init_24 : decode cX5_init 24 = .ok (.putfield 18, 3) := fp_hdX5_init_0.1.1.2.2.2
theorem dX5_init_27 : decode cX5_init 27 = .ok (.aload_n 0, 1) := fp_hdX5_init_0.1.2.1.1.1.1
theorem dX5_init_28 : decode cX5_init 28 = .ok (.bipush 24, 2) := fp_hdX5_init_0.1.2.1.1.1.2
theorem dX5_init_30 : decode cX5_init 30 = .ok (.newarray .int, 2) := fp_hdX5_init_0.1.2.1.1.2.1
theorem dX5_init_32 : decode cX5_init 32 = .ok (.putfield 21, 3) := fp_hdX5_init_0.1.2.1.1.2.2
theorem dX5_init_35 : decode cX5_init 35 = .ok (.aload_n 0, 1) := fp_hdX5_init_0.1.2.1.2.1.1
theorem dX5_init_36 : decode cX5_init 36 = .ok (.getfield 9, 3) := fp_hdX5_init_0.1.2.1.2.1.2
theorem dX5_init_39 : decode cX5_init 39 = .ok (.bipush (-4), 2) := fp_hdX5_init_0.1.2.1.2.2
theorem dX5_init_41 : decode cX5_init 41 = .ok (.invokestatic 24, 3) := fp_hdX5_init_0.1.2.2.1.1.1
theorem dX5_init_44 : decode cX5_init 44 = .ok (.aload_n 0, 1) := fp_hdX5_init_0.1.2.2.1.1.2
theorem dX5_init_45 : decode cX5_init 45 = .ok (.getfield 15, 3) := fp_hdX5_init_0.1.2.2.1.2
theorem dX5_init_48 : decode cX5_init 48 = .ok (.bipush (-4), 2) := fp_hdX5_init_0.1.2.2.2.1.1
theorem dX5_init_50 : decode cX5_init 50 = .ok (.invokestatic 24, 3) := fp_hdX5_init_0.1.2.2.2.1.2
theorem dX5_init_53 : decode cX5_init 53 = .ok (.return_, 1) := fp_hdX5_init_0.1.2.2.2.2
def fp_scX5_clear_0 : List Nat := 42 :: 180 :: 0 :: 9 :: 16 :: 252 :: 184 :: 0 :: 24 :: 42 :: 180 :: 0 :: 15 :: 16 :: 252 :: 184 :: 0 :: 24 :: 42 :: 180 :: 0 :: 18 :: 3 :: 184 :: 0 :: 24 :: 177 :: []
theorem fp_bcX5_clear : bA cX5_clear 0 fp_scX5_clear_0 := show cX5_clear.data.toList.map UInt8.toNat = fp_scX5_clear_0 from by decide +kernel
theorem fp_hdX5_clear_0 : ((((decode cX5_clear 0 = .ok (.aload_n 0, 1) ∧ decode cX5_clear 1 = .ok (.getfield 9, 3)) ∧ (decode cX5_clear 4 = .ok (.bipush (-4), 2) ∧ decode cX5_clear 6 = .ok (.invokestatic 24, 3))) ∧ ((decode cX5_clear 9 = .ok (.aload_n 0, 1) ∧ decode cX5_clear 10 = .ok (.getfield 15, 3)) ∧ decode cX5_clear 13 = .ok (.bipush (-4), 2))) ∧ (((decode cX5_clear 15 = .ok (.invokestatic 24, 3) ∧ decode cX5_clear 18 = .ok (.aload_n 0, 1)) ∧ decode cX5_clear 19 = .ok (.getfield 18, 3)) ∧ ((decode cX5_clear 22 = .ok (.iconst 0, 1) ∧ decode cX5_clear 23 = .ok (.invokestatic 24, 3)) ∧ decode cX5_clear 26 = .ok (.return_, 1)))) ∧ bA cX5_clear 27 [] :=
  have q0 := fp_o42 fp_bcX5_clear
  have q1 := fp_o180 (v := 9) q0.2 rfl
  have q2 := fp_o16 (v := (-4)) q1.2 rfl
  have q3 := fp_o184 (v := 24) q2.2 rfl
  have q4 := fp_o42 q3.2
  have q5 := fp_o180 (v := 15) q4.2 rfl
  have q6 := fp_o16 (v := (-4)) q5.2 rfl
  have q7 := fp_o184 (v := 24) q6.2 rfl
  have q8 := fp_o42 q7.2
  have q9 := fp_o180 (v := 18) q8.2 rfl
  have q10 := fp_o3 q9.2
  have q11 := fp_o184 (v := 24) q10.2 rfl
  have q12 := fp_o177 q11.2
  ⟨⟨⟨⟨⟨q0.1, q1.1⟩, ⟨q2.1, q3.1⟩⟩, ⟨⟨q4.1, q5.1⟩, q6.1⟩⟩, ⟨⟨⟨q7.1, q8.1⟩, q9.1⟩, ⟨⟨q10.1, q11.1⟩, q12.1⟩⟩⟩, q12.2⟩
theorem dX5_clear_0 : decode cX5_clear 0 = .ok (.aload_n 0, 1) := fp_hdX5_clear_0.1.1.1.1.1
theorem dX5_clear_1 : decode cX5_clear 1 = .ok (.getfield 9, 3) := fp_hdX5_clear_0.1.1.1.1.2
theorem dX5_clear_4 : decode cX5_clear 4 = .ok (.bipush (-4), 2) := fp_hdX5_clear_0.1.1.1.2.1
theorem dX5_clear_6 : decode cX5_clear 6 = .ok (.invokestatic 24, 3) := fp_hdX5_clear_0.1.1.1.2.2
theorem dX5_clear_9 : decode cX5_clear 9 = .ok (.aload_n 0, 1) := fp_hdX5_clear_0.1.1.2.1.1
theorem dX5_clear_10 : decode cX5_clear 10 = .ok (.getfield 15, 3) := fp_hdX5_clear_0.1.1.2.1.2
theorem dX5_clear_13 : decode cX5_clear 13 = .ok (.bipush (-4), 2) := fp_hdX5_clear_0.1.1.2.2
theorem dX5_clear_15 : decode cX5_clear 15 = .ok (.invokestatic 24, 3) := fp_hdX5_clear_0.1.2.1.1.1
theorem dX5_clear_18 : decode cX5_clear 18 = .ok (.aload_n 0, 1) := fp_hdX5_clear_0.1.2.1.1.2
theorem dX5_clear_19 : decode cX5_clear 19 = .ok (.getfield 18, 3) := fp_hdX5_clear_0.1.2.1.2
theorem dX5_clear_22 : decode cX5_clear 22 = .ok (.iconst 0, 1) := fp_hdX5_clear_0.1.2.2.1.1
theorem dX5_clear_23 : decode cX5_clear 23 = .ok (.invokestatic 24, 3) := fp_hdX5_clear_0.1.2.2.1.2
theorem dX5_clear_26 : decode cX5_clear 26 = .ok (.return_, 1) := fp_hdX5_clear_0.1.2.2.2
def fp_scX5_copyFrom_1 : List Nat := 3 :: 42 :: 180 :: 0 :: 21 :: 3 :: 42 :: 180 :: 0 :: 21 :: 190 :: 184 :: 0 :: 30 :: 177 :: []
def fp_scX5_copyFrom_0 : List Nat := 43 :: 180 :: 0 :: 9 :: 3 :: 42 :: 180 :: 0 :: 9 :: 3 :: 42 :: 180 :: 0 :: 9 :: 190 :: 184 :: 0 :: 30 :: 43 :: 180 :: 0 :: 15 :: 3 :: 42 :: 180 :: 0 :: 15 :: 3 :: 42 :: 180 :: 0 :: 15 :: 190 :: 184 :: 0 :: 30 :: 43 :: 180 :: 0 :: 18 :: 3 :: 42 :: 180 :: 0 :: 18 :: 3 :: 42 :: 180 :: 0 :: 18 :: 190 :: 184 :: 0 :: 30 :: 43 :: 180 :: 0 :: 21 :: fp_scX5_copyFrom_1
theorem fp_bcX5_copyFrom : bA cX5_copyFrom 0 fp_scX5_copyFrom_0 := show cX5_copyFrom.data.toList.map UInt8.toNat = fp_scX5_copyFrom_0 from by decide +kernel
theorem fp_hdX5_copyFrom_0 : (((((decode cX5_copyFrom 0 = .ok (.aload_n 1, 1) ∧ decode cX5_copyFrom 1 = .ok (.getfield 9, 3)) ∧ (decode cX5_copyFrom 4 = .ok (.iconst 0, 1) ∧ decode cX5_copyFrom 5 = .ok (.aload_n 0, 1))) ∧ ((decode cX5_copyFrom 6 = .ok (.getfield 9, 3) ∧ decode cX5_copyFrom 9 = .ok (.iconst 0, 1)) ∧ (decode cX5_copyFrom 10 = .ok (.aload_n 0, 1) ∧ decode cX5_copyFrom 11 = .ok (.getfield 9, 3)))) ∧ (((decode cX5_copyFrom 14 = .ok (.arraylength, 1) ∧ decode cX5_copyFrom 15 = .ok (.invokestatic 30, 3)) ∧ (decode cX5_copyFrom 18 = .ok (.aload_n 1, 1) ∧ decode cX5_copyFrom 19 = .ok (.getfield 15, 3))) ∧ ((decode cX5_copyFrom 22 = .ok (.iconst 0, 1) ∧ decode cX5_copyFrom 23 = .ok (.aload_n 0, 1)) ∧ (decode cX5_copyFrom 24 = .ok (.getfield 15, 3) ∧ decode cX5_copyFrom 27 = .ok (.iconst 0, 1))))) ∧ ((((decode cX5_copyFrom 28 = .ok (.aload_n 0, 1) ∧ decode cX5_copyFrom 29 = .ok (.getfield 15, 3)) ∧ (decode cX5_copyFrom 32 = .ok (.arraylength, 1) ∧ decode cX5_copyFrom 33 = .ok (.invokestatic 30, 3))) ∧ ((decode cX5_copyFrom 36 = .ok (.aload_n 1, 1) ∧ decode cX5_copyFrom 37 = .ok (.getfield 18, 3)) ∧ (decode cX5_copyFrom 40 = .ok (.iconst 0, 1) ∧ decode cX5_copyFrom 41 = .ok (.aload_n 0, 1)))) ∧ (((decode cX5_copyFrom 42 = .ok (.getfield 18, 3) ∧ decode cX5_copyFrom 45 = .ok (.iconst 0, 1)) ∧ (decode cX5_copyFrom 46 = .ok (.aload_n 0, 1) ∧ decode cX5_copyFrom 47 = .ok (.getfield 18, 3))) ∧ ((decode cX5_copyFrom 50 = .ok (.arraylength, 1) ∧ decode cX5_copyFrom 51 = .ok (.invokestatic 30, 3)) ∧ (decode cX5_copyFrom 54 = .ok (.aload_n 1, 1) ∧ decode cX5_copyFrom 55 = .ok (.getfield 21, 3)))))) ∧ bA cX5_copyFrom 58 fp_scX5_copyFrom_1 :=
  have q0 := fp_o43 fp_bcX5_copyFrom
  have q1 := fp_o180 (v := 9) q0.2 rfl
  have q2 := fp_o3 q1.2
  have q3 := fp_o42 q2.2
  have q4 := fp_o180 (v := 9) q3.2 rfl
  have q5 := fp_o3 q4.2
  have q6 := fp_o42 q5.2
  have q7 := fp_o180 (v := 9) q6.2 rfl
  have q8 := fp_o190 q7.2
  have q9 := fp_o184 (v := 30) q8.2 rfl
  have q10 := fp_o43 q9.2
  have q11 := fp_o180 (v := 15) q10.2 rfl
  have q12 := fp_o3 q11.2
  have q13 := fp_o42 q12.2
  have q14 := fp_o180 (v := 15) q13.2 rfl
  have q15 := fp_o3 q14.2
  have q16 := fp_o42 q15.2
  have q17 := fp_o180 (v := 15) q16.2 rfl
  have q18 := fp_o190 q17.2
  have q19 := fp_o184 (v := 30) q18.2 rfl
  have q20 := fp_o43 q19.2
  have q21 := fp_o180 (v := 18) q20.2 rfl
  have q22 := fp_o3 q21.2
  have q23 := fp_o42 q22.2
  have q24 := fp_o180 (v := 18) q23.2 rfl
  have q25 := fp_o3 q24.2
  have q26 := fp_o42 q25.2
  have q27 := fp_o180 (v := 18) q26.2 rfl
  have q28 := fp_o190 q27.2
  have q29 := fp_o184 (v := 30) q28.2 rfl
  have q30 := fp_o43 q29.2
  have q31 := fp_o180 (v := 21) q30.2 rfl
  ⟨⟨⟨⟨⟨⟨q0.1, q1.1⟩, ⟨q2.1, q3.1⟩⟩, ⟨⟨q4.1, q5.1⟩, ⟨q6.1, q7.1⟩⟩⟩, ⟨⟨⟨q8.1, q9.1⟩, ⟨q10.1, q11.1⟩⟩, ⟨⟨q12.1, q13.1⟩, ⟨q14.1, q15.1⟩⟩⟩⟩, ⟨⟨⟨⟨q16.1, q17.1⟩, ⟨q18.1, q19.1⟩⟩, ⟨⟨q20.1, q21.1⟩, ⟨q22.1, q23.1⟩⟩⟩, ⟨⟨⟨q24.1, q25.1⟩, ⟨q26.1, q27.1⟩⟩, ⟨⟨q28.1, q29.1⟩, ⟨q30.1, q31.1⟩⟩⟩⟩⟩, q31.2⟩
theorem dX5_copyFrom_0 : decode cX5_copyFrom 0 = .ok (.aload_n 1, 1) := fp_hdX5_copyFrom_0.1.1.1.1.1.1
theorem dX5_copyFrom_1 : decode cX5_copyFrom 1 = .ok (.getfield 9, 3) := fp_hdX5_copyFrom_0.1.1.1.1.1.2
theorem dX5_copyFrom_4 : decode cX5_copyFrom 4 = .ok (.iconst 0, 1) := fp_hdX5_copyFrom_0.1.1.1.1.2.1
theorem dX5_copyFrom_5 : decode cX5_copyFrom 5 = .ok (.aload_n 0, 1) := fp_hdX5_copyFrom_0.1.1.1.1.2.2
theorem dX5_copyFrom_6 : decode cX5_copyFrom 6 = .ok (.getfield 9, 3) := fp_hdX5_copyFrom_0.1.1.1.2.1.1
theorem dX5_copyFrom_9 : decode cX5_copyFrom 9 = .ok (.iconst 0, 1) := fp_hdX5_copyFrom_0.1.1.1.2.1.2
theorem dX5_copyFrom_10 : decode cX5_copyFrom 10 = .ok (.aload_n 0, 1) := fp_hdX5_copyFrom_0.1.1.1.2.2.1
theorem dX5_copyFrom_11 : decode cX5_copyFrom 11 = .ok (.getfield 9, 3) := fp_hdX5_copyFrom_0.1.1.1.2.2.2
theorem dX5_copyFrom_14 : decode cX5_copyFrom 14 = .ok (.arraylength, 1) := fp_hdX5_copyFrom_0.1.1.2.1.1.1
theorem dX5_copyFrom_15 : decode cX5_copyFrom 15 = .ok (.invokestatic 30, 3) := fp_hdX5_copyFrom_0.1.1.2.1.1.2
theorem dX5_copyFrom_18 : decode cX5_copyFrom 18 = .ok (.aload_n 1, 1) := fp_hdX5_copyFrom_0.1.1.2.1.2.1
theorem dX5_copyFrom_19 : decode cX5_copyFrom 19 = .ok (.getfield 15, 3) := fp_hdX5_copyFrom_0.1.1.2.1.2.2
theorem dX5_copyFrom_22 : decode cX5_copyFrom 22 = .ok (.iconst 0, 1) := fp_hdX5_copyFrom_0.1.1.2.2.1.1
theorem dX5_copyFrom_23 : decode cX5_copyFrom 23 = .ok (.aload_n 0, 1) := fp_hdX5_copyFrom_0.1.1.2.2.1.2
theorem dX5_copyFrom_24 : decode cX5_copyFrom 24 = .ok (.getfield 15, 3) := fp_hdX5_copyFrom_0.1.1.2.2.2.1
theorem dX5_copyFrom_27 : decode cX5_copyFrom 27 = .ok (.iconst 0, 1) := fp_hdX5_copyFrom_0.1.1.2.2.2.2
theorem dX5_copyFrom_28 : decode cX5_copyFrom 28 = .ok (.aload_n 0, 1) := fp_hdX5_copyFrom_0.1.2.1.1.1.1
theorem dX5_copyFrom_29 : decode cX5_copyFrom 29 = .ok (.getfield 15, 3) := fp_hdX5_copyFrom_0.1.2.1.1.1.2
theorem dX5_copyFrom_32 : decode cX5_copyFrom 32 = .ok (.arraylength, 1) := fp_hdX5_copyFrom_0.1.2.1.1.2.1
theorem dX5_copyFrom_33 : decode cX5_copyFrom 33 = .ok (.invokestatic 30, 3) := fp_hdX5_copyFrom_0.1.2.1.1.2.2
theorem dX5_copyFrom_36 : decode cX5_copyFrom 36 = .ok (.aload_n 1, 1) := fp_hdX5_copyFrom_0.1.2.1.2.1.1
theorem dX5_copyFrom_37 : decode cX5_copyFrom 37 = .ok (.getfield 18, 3) := fp_hdX5_copyFrom_0.1.2.1.2.1.2
theorem dX5_copyFrom_40 : decode cX5_copyFrom 40 = .ok (.iconst 0, 1) := fp_hdX5_copyFrom_0.1.2.1.2.2.1
theorem dX5_copyFrom_41 : decode cX5_copyFrom 41 = .ok (.aload_n 0, 1) := fp_hdX5_copyFrom_0.1.2.1.2.2.2
theorem dX5_copyFrom_42 : decode cX5_copyFrom 42 = .ok (.getfield 18, 3) := fp_hdX5_copyFrom_0.1.2.2.1.1.1
theorem dX5_copyFrom_45 : decode cX5_copyFrom 45 = .ok (.iconst 0, 1) := fp_hdX5_copyFrom_0.1.2.2.1.1.2
theorem dX5_copyFrom_46 : decode cX5_copyFrom 46 = .ok (.aload_n 0, 1) := fp_hdX5_copyFrom_0.1.2.2.1.2.1
theorem dX5_copyFrom_47 : decode cX5_copyFrom 47 = .ok (.getfield 18, 3) := fp_hdX5_copyFrom_0.1.2.2.1.2.2
theorem dX5_copyFrom_50 : decode cX5_copyFrom 50 = .ok (.arraylength, 1) := fp_hdX5_copyFrom_0.1.2.2.2.1.1
theorem dX5_copyFrom_51 : decode cX5_copyFrom 51 = .ok (.invokestatic 30, 3) := fp_hdX5_copyFrom_0.1.2.2.2.1.2
theorem dX5_copyFrom_54 : decode cX5_copyFrom 54 = .ok (.aload_n 1, 1) := fp_hdX5_copyFrom_0.1.2.2.2.2.1
theorem dX5_copyFrom_55 : decode cX5_copyFrom 55 = .ok (.getfield 21, 3) := fp_hdX5_copyFrom_0.1.2.2.2.2.2
theorem fp_hdX5_copyFrom_58 : ((((decode cX5_copyFrom 58 = .ok (.iconst 0, 1) ∧ decode cX5_copyFrom 59 = .ok (.aload_n 0, 1)) ∧ decode cX5_copyFrom 60 = .ok (.getfield 21, 3)) ∧ (decode cX5_copyFrom 63 = .ok (.iconst 0, 1) ∧ decode cX5_copyFrom 64 = .ok (.aload_n 0, 1))) ∧ ((decode cX5_copyFrom 65 = .ok (.getfield 21, 3) ∧ decode cX5_copyFrom 68 = .ok (.arraylength, 1)) ∧ (decode cX5_copyFrom 69 = .ok (.invokestatic 30, 3) ∧ decode cX5_copyFrom 72 = .ok (.return_, 1)))) ∧ bA cX5_copyFrom 73 [] :=
  have q0 := fp_o3 fp_hdX5_copyFrom_0.2
  have q1 := fp_o42 q0.2
  have q2 := fp_o180 (v := 21) q1.2 rfl
  have q3 := fp_o3 q2.2
  have q4 := fp_o42 q3.2
  have q5 := fp_o180 (v := 21) q4.2 rfl
  have q6 := fp_o190 q5.2
  have q7 := fp_o184 (v := 30) q6.2 rfl
  have q8 := fp_o177 q7.2
  ⟨⟨⟨⟨⟨q0.1, q1.1⟩, q2.1⟩, ⟨q3.1, q4.1⟩⟩, ⟨⟨q5.1, q6.1⟩, ⟨q7.1, q8.1⟩⟩⟩, q8.2⟩
theorem dX5_copyFrom_58 : decode cX5_copyFrom 58 = .ok (.iconst 0, 1) := fp_hdX5_copyFrom_58.1.1.1.1.1
theorem dX5_copyFrom_59 : decode cX5_copyFrom 59 = .ok (.aload_n 0, 1) := fp_hdX5_copyFrom_58.1.1.1.1.2
theorem dX5_copyFrom_60 : decode cX5_copyFrom 60 = .ok (.getfield 21, 3) := fp_hdX5_copyFrom_58.1.1.1.2
theorem dX5_copyFrom_63 : decode cX5_copyFrom 63 = .ok (.iconst 0, 1) := fp_hdX5_copyFrom_58.1.1.2.1
theorem dX5_copyFrom_64 : decode cX5_copyFrom 64 = .ok (.aload_n 0, 1) := fp_hdX5_copyFrom_58.1.1.2.2
theorem dX5_copyFrom_65 : decode cX5_copyFrom 65 = .ok (.getfield 21, 3) := fp_hdX5_copyFrom_58.1.2.1.1
theorem dX5_copyFrom_68 : decode cX5_copyFrom 68 = .ok (.arraylength, 1) := fp_hdX5_copyFrom_58.1.2.1.2
theorem dX5_copyFrom_69 : decode cX5_copyFrom 69 = .ok (.invokestatic 30, 3) := fp_hdX5_copyFrom_58.1.2.2.1
theorem dX5_copyFrom_72 : decode cX5_copyFrom 72 = .ok (.return_, 1) := fp_hdX5_copyFrom_58.1.2.2.2
def fp_scX5_heldBy_0 : List Nat := 3 :: 61 :: 3 :: 62 :: 29 :: 16 :: 10 :: 162 :: 0 :: 25 :: 42 :: 180 :: 0 :: 9 :: 29 :: 46 :: 27 :: 160 :: 0 :: 9 :: 28 :: 4 :: 29 :: 120 :: 128 :: 61 :: 132 :: 3 :: 1 :: 167 :: 255 :: 231 :: 28 :: 172 :: []
theorem fp_bcX5_heldBy : bA cX5_heldBy 0 fp_scX5_heldBy_0 := show cX5_heldBy.data.toList.map UInt8.toNat = fp_scX5_heldBy_0 from by decide +kernel
theorem fp_hdX5_heldBy_0 : (((((decode cX5_heldBy 0 = .ok (.iconst 0, 1) ∧ decode cX5_heldBy 1 = .ok (.istore_n 2, 1)) ∧ decode cX5_heldBy 2 = .ok (.iconst 0, 1)) ∧ ((decode cX5_heldBy 3 = .ok (.istore_n 3, 1) ∧ decode cX5_heldBy 4 = .ok (.iload_n 3, 1)) ∧ decode cX5_heldBy 5 = .ok (.bipush 10, 2))) ∧ (((decode cX5_heldBy 7 = .ok (.if_icmp .ge 25, 3) ∧ decode cX5_heldBy 10 = .ok (.aload_n 0, 1)) ∧ decode cX5_heldBy 11 = .ok (.getfield 9, 3)) ∧ ((decode cX5_heldBy 14 = .ok (.iload_n 3, 1) ∧ decode cX5_heldBy 15 = .ok (.iaload, 1)) ∧ decode cX5_heldBy 16 = .ok (.iload_n 1, 1)))) ∧ ((((decode cX5_heldBy 17 = .ok (.if_icmp .ne 9, 3) ∧ decode cX5_heldBy 20 = .ok (.iload_n 2, 1)) ∧ decode cX5_heldBy 21 = .ok (.iconst 1, 1)) ∧ ((decode cX5_heldBy 22 = .ok (.iload_n 3, 1) ∧ decode cX5_heldBy 23 = .ok (.ishl, 1)) ∧ decode cX5_heldBy 24 = .ok (.ior, 1))) ∧ (((decode cX5_heldBy 25 = .ok (.istore_n 2, 1) ∧ decode cX5_heldBy 26 = .ok (.iinc 3 1, 3)) ∧ decode cX5_heldBy 29 = .ok (.goto (-25), 3)) ∧ (decode cX5_heldBy 32 = .ok (.iload_n 2, 1) ∧ decode cX5_heldBy 33 = .ok (.ireturn, 1))))) ∧ bA cX5_heldBy 34 [] :=
  have q0 := fp_o3 fp_bcX5_heldBy
  have q1 := fp_o61 q0.2
  have q2 := fp_o3 q1.2
  have q3 := fp_o62 q2.2
  have q4 := fp_o29 q3.2
  have q5 := fp_o16 (v := 10) q4.2 rfl
  have q6 := fp_o162 (v := 25) q5.2 rfl
  have q7 := fp_o42 q6.2
  have q8 := fp_o180 (v := 9) q7.2 rfl
  have q9 := fp_o29 q8.2
  have q10 := fp_o46 q9.2
  have q11 := fp_o27 q10.2
  have q12 := fp_o160 (v := 9) q11.2 rfl
  have q13 := fp_o28 q12.2
  have q14 := fp_o4 q13.2
  have q15 := fp_o29 q14.2
  have q16 := fp_o120 q15.2
  have q17 := fp_o128 q16.2
  have q18 := fp_o61 q17.2
  have q19 := fp_o132 (v := 1) q18.2 rfl
  have q20 := fp_o167 (v := (-25)) q19.2 rfl
  have q21 := fp_o28 q20.2
  have q22 := fp_o172 q21.2
  ⟨⟨⟨⟨⟨⟨q0.1, q1.1⟩, q2.1⟩, ⟨⟨q3.1, q4.1⟩, q5.1⟩⟩, ⟨⟨⟨q6.1, q7.1⟩, q8.1⟩, ⟨⟨q9.1, q10.1⟩, q11.1⟩⟩⟩, ⟨⟨⟨⟨q12.1, q13.1⟩, q14.1⟩, ⟨⟨q15.1, q16.1⟩, q17.1⟩⟩, ⟨⟨⟨q18.1, q19.1⟩, q20.1⟩, ⟨q21.1, q22.1⟩⟩⟩⟩, q22.2⟩
theorem dX5_heldBy_0 : decode cX5_heldBy 0 = .ok (.iconst 0, 1) := fp_hdX5_heldBy_0.1.1.1.1.1.1
theorem dX5_heldBy_1 : decode cX5_heldBy 1 = .ok (.istore_n 2, 1) := fp_hdX5_heldBy_0.1.1.1.1.1.2
theorem dX5_heldBy_2 : decode cX5_heldBy 2 = .ok (.iconst 0, 1) := fp_hdX5_heldBy_0.1.1.1.1.2
theorem dX5_heldBy_3 : decode cX5_heldBy 3 = .ok (.istore_n 3, 1) := fp_hdX5_heldBy_0.1.1.1.2.1.1
theorem dX5_heldBy_4 : decode cX5_heldBy 4 = .ok (.iload_n 3, 1) := fp_hdX5_heldBy_0.1.1.1.2.1.2
theorem dX5_heldBy_5 : decode cX5_heldBy 5 = .ok (.bipush 10, 2) := fp_hdX5_heldBy_0.1.1.1.2.2
theorem dX5_heldBy_7 : decode cX5_heldBy 7 = .ok (.if_icmp .ge 25, 3) := fp_hdX5_heldBy_0.1.1.2.1.1.1
theorem dX5_heldBy_10 : decode cX5_heldBy 10 = .ok (.aload_n 0, 1) := fp_hdX5_heldBy_0.1.1.2.1.1.2
theorem dX5_heldBy_11 : decode cX5_heldBy 11 = .ok (.getfield 9, 3) := fp_hdX5_heldBy_0.1.1.2.1.2
theorem dX5_heldBy_14 : decode cX5_heldBy 14 = .ok (.iload_n 3, 1) := fp_hdX5_heldBy_0.1.1.2.2.1.1
theorem dX5_heldBy_15 : decode cX5_heldBy 15 = .ok (.iaload, 1) := fp_hdX5_heldBy_0.1.1.2.2.1.2
theorem dX5_heldBy_16 : decode cX5_heldBy 16 = .ok (.iload_n 1, 1) := fp_hdX5_heldBy_0.1.1.2.2.2
theorem dX5_heldBy_17 : decode cX5_heldBy 17 = .ok (.if_icmp .ne 9, 3) := fp_hdX5_heldBy_0.1.2.1.1.1.1
theorem dX5_heldBy_20 : decode cX5_heldBy 20 = .ok (.iload_n 2, 1) := fp_hdX5_heldBy_0.1.2.1.1.1.2
theorem dX5_heldBy_21 : decode cX5_heldBy 21 = .ok (.iconst 1, 1) := fp_hdX5_heldBy_0.1.2.1.1.2
theorem dX5_heldBy_22 : decode cX5_heldBy 22 = .ok (.iload_n 3, 1) := fp_hdX5_heldBy_0.1.2.1.2.1.1
theorem dX5_heldBy_23 : decode cX5_heldBy 23 = .ok (.ishl, 1) := fp_hdX5_heldBy_0.1.2.1.2.1.2
theorem dX5_heldBy_24 : decode cX5_heldBy 24 = .ok (.ior, 1) := fp_hdX5_heldBy_0.1.2.1.2.2
theorem dX5_heldBy_25 : decode cX5_heldBy 25 = .ok (.istore_n 2, 1) := fp_hdX5_heldBy_0.1.2.2.1.1.1
theorem dX5_heldBy_26 : decode cX5_heldBy 26 = .ok (.iinc 3 1, 3) := fp_hdX5_heldBy_0.1.2.2.1.1.2
theorem dX5_heldBy_29 : decode cX5_heldBy 29 = .ok (.goto (-25), 3) := fp_hdX5_heldBy_0.1.2.2.1.2
theorem dX5_heldBy_32 : decode cX5_heldBy 32 = .ok (.iload_n 2, 1) := fp_hdX5_heldBy_0.1.2.2.2.1
theorem dX5_heldBy_33 : decode cX5_heldBy 33 = .ok (.ireturn, 1) := fp_hdX5_heldBy_0.1.2.2.2.2
def fp_scX5_leastHeldBy_0 : List Nat := 3 :: 61 :: 28 :: 16 :: 10 :: 162 :: 0 :: 21 :: 42 :: 180 :: 0 :: 9 :: 28 :: 46 :: 27 :: 160 :: 0 :: 5 :: 28 :: 172 :: 132 :: 2 :: 1 :: 167 :: 255 :: 235 :: 16 :: 252 :: 172 :: []
theorem fp_bcX5_leastHeldBy : bA cX5_leastHeldBy 0 fp_scX5_leastHeldBy_0 := show cX5_leastHeldBy.data.toList.map UInt8.toNat = fp_scX5_leastHeldBy_0 from by decide +kernel
theorem fp_hdX5_leastHeldBy_0 : (((((decode cX5_leastHeldBy 0 = .ok (.iconst 0, 1) ∧ decode cX5_leastHeldBy 1 = .ok (.istore_n 2, 1)) ∧ decode cX5_leastHeldBy 2 = .ok (.iload_n 2, 1)) ∧ (decode cX5_leastHeldBy 3 = .ok (.bipush 10, 2) ∧ decode cX5_leastHeldBy 5 = .ok (.if_icmp .ge 21, 3))) ∧ ((decode cX5_leastHeldBy 8 = .ok (.aload_n 0, 1) ∧ decode cX5_leastHeldBy 9 = .ok (.getfield 9, 3)) ∧ (decode cX5_leastHeldBy 12 = .ok (.iload_n 2, 1) ∧ decode cX5_leastHeldBy 13 = .ok (.iaload, 1)))) ∧ (((decode cX5_leastHeldBy 14 = .ok (.iload_n 1, 1) ∧ decode cX5_leastHeldBy 15 = .ok (.if_icmp .ne 5, 3)) ∧ (decode cX5_leastHeldBy 18 = .ok (.iload_n 2, 1) ∧ decode cX5_leastHeldBy 19 = .ok (.ireturn, 1))) ∧ ((decode cX5_leastHeldBy 20 = .ok (.iinc 2 1, 3) ∧ decode cX5_leastHeldBy 23 = .ok (.goto (-21), 3)) ∧ (decode cX5_leastHeldBy 26 = .ok (.bipush (-4), 2) ∧ decode cX5_leastHeldBy 28 = .ok (.ireturn, 1))))) ∧ bA cX5_leastHeldBy 29 [] :=
  have q0 := fp_o3 fp_bcX5_leastHeldBy
  have q1 := fp_o61 q0.2
  have q2 := fp_o28 q1.2
  have q3 := fp_o16 (v := 10) q2.2 rfl
  have q4 := fp_o162 (v := 21) q3.2 rfl
  have q5 := fp_o42 q4.2
  have q6 := fp_o180 (v := 9) q5.2 rfl
  have q7 := fp_o28 q6.2
  have q8 := fp_o46 q7.2
  have q9 := fp_o27 q8.2
  have q10 := fp_o160 (v := 5) q9.2 rfl
  have q11 := fp_o28 q10.2
  have q12 := fp_o172 q11.2
  have q13 := fp_o132 (v := 1) q12.2 rfl
  have q14 := fp_o167 (v := (-21)) q13.2 rfl
  have q15 := fp_o16 (v := (-4)) q14.2 rfl
  have q16 := fp_o172 q15.2
  ⟨⟨⟨⟨⟨⟨q0.1, q1.1⟩, q2.1⟩, ⟨q3.1, q4.1⟩⟩, ⟨⟨q5.1, q6.1⟩, ⟨q7.1, q8.1⟩⟩⟩, ⟨⟨⟨q9.1, q10.1⟩, ⟨q11.1, q12.1⟩⟩, ⟨⟨q13.1, q14.1⟩, ⟨q15.1, q16.1⟩⟩⟩⟩, q16.2⟩
theorem dX5_leastHeldBy_0 : decode cX5_leastHeldBy 0 = .ok (.iconst 0, 1) := fp_hdX5_leastHeldBy_0.1.1.1.1.1.1
theorem dX5_leastHeldBy_1 : decode cX5_leastHeldBy 1 = .ok (.istore_n 2, 1) := fp_hdX5_leastHeldBy_0.1.1.1.1.1.2
theorem dX5_leastHeldBy_2 : decode cX5_leastHeldBy 2 = .ok (.iload_n 2, 1) := fp_hdX5_leastHeldBy_0.1.1.1.1.2
theorem dX5_leastHeldBy_3 : decode cX5_leastHeldBy 3 = .ok (.bipush 10, 2) := fp_hdX5_leastHeldBy_0.1.1.1.2.1
theorem dX5_leastHeldBy_5 : decode cX5_leastHeldBy 5 = .ok (.if_icmp .ge 21, 3) := fp_hdX5_leastHeldBy_0.1.1.1.2.2
theorem dX5_leastHeldBy_8 : decode cX5_leastHeldBy 8 = .ok (.aload_n 0, 1) := fp_hdX5_leastHeldBy_0.1.1.2.1.1
theorem dX5_leastHeldBy_9 : decode cX5_leastHeldBy 9 = .ok (.getfield 9, 3) := fp_hdX5_leastHeldBy_0.1.1.2.1.2
theorem dX5_leastHeldBy_12 : decode cX5_leastHeldBy 12 = .ok (.iload_n 2, 1) := fp_hdX5_leastHeldBy_0.1.1.2.2.1
theorem dX5_leastHeldBy_13 : decode cX5_leastHeldBy 13 = .ok (.iaload, 1) := fp_hdX5_leastHeldBy_0.1.1.2.2.2
theorem dX5_leastHeldBy_14 : decode cX5_leastHeldBy 14 = .ok (.iload_n 1, 1) := fp_hdX5_leastHeldBy_0.1.2.1.1.1
theorem dX5_leastHeldBy_15 : decode cX5_leastHeldBy 15 = .ok (.if_icmp .ne 5, 3) := fp_hdX5_leastHeldBy_0.1.2.1.1.2
theorem dX5_leastHeldBy_18 : decode cX5_leastHeldBy 18 = .ok (.iload_n 2, 1) := fp_hdX5_leastHeldBy_0.1.2.1.2.1
theorem dX5_leastHeldBy_19 : decode cX5_leastHeldBy 19 = .ok (.ireturn, 1) := fp_hdX5_leastHeldBy_0.1.2.1.2.2
theorem dX5_leastHeldBy_20 : decode cX5_leastHeldBy 20 = .ok (.iinc 2 1, 3) := fp_hdX5_leastHeldBy_0.1.2.2.1.1
theorem dX5_leastHeldBy_23 : decode cX5_leastHeldBy 23 = .ok (.goto (-21), 3) := fp_hdX5_leastHeldBy_0.1.2.2.1.2
theorem dX5_leastHeldBy_26 : decode cX5_leastHeldBy 26 = .ok (.bipush (-4), 2) := fp_hdX5_leastHeldBy_0.1.2.2.2.1
theorem dX5_leastHeldBy_28 : decode cX5_leastHeldBy 28 = .ok (.ireturn, 1) := fp_hdX5_leastHeldBy_0.1.2.2.2.2
def fp_scX5_worthTo_0 : List Nat := 3 :: 62 :: 3 :: 54 :: 4 :: 21 :: 4 :: 43 :: 180 :: 0 :: 36 :: 162 :: 0 :: 30 :: 42 :: 180 :: 0 :: 9 :: 21 :: 4 :: 46 :: 28 :: 160 :: 0 :: 13 :: 29 :: 43 :: 28 :: 21 :: 4 :: 182 :: 0 :: 42 :: 96 :: 62 :: 132 :: 4 :: 1 :: 167 :: 255 :: 223 :: 29 :: 172 :: []
theorem fp_bcX5_worthTo : bA cX5_worthTo 0 fp_scX5_worthTo_0 := show cX5_worthTo.data.toList.map UInt8.toNat = fp_scX5_worthTo_0 from by decide +kernel
theorem fp_hdX5_worthTo_0 : (((((decode cX5_worthTo 0 = .ok (.iconst 0, 1) ∧ decode cX5_worthTo 1 = .ok (.istore_n 3, 1)) ∧ (decode cX5_worthTo 2 = .ok (.iconst 0, 1) ∧ decode cX5_worthTo 3 = .ok (.istore 4, 2))) ∧ ((decode cX5_worthTo 5 = .ok (.iload 4, 2) ∧ decode cX5_worthTo 7 = .ok (.aload_n 1, 1)) ∧ decode cX5_worthTo 8 = .ok (.getfield 36, 3))) ∧ (((decode cX5_worthTo 11 = .ok (.if_icmp .ge 30, 3) ∧ decode cX5_worthTo 14 = .ok (.aload_n 0, 1)) ∧ decode cX5_worthTo 15 = .ok (.getfield 9, 3)) ∧ ((decode cX5_worthTo 18 = .ok (.iload 4, 2) ∧ decode cX5_worthTo 20 = .ok (.iaload, 1)) ∧ decode cX5_worthTo 21 = .ok (.iload_n 2, 1)))) ∧ ((((decode cX5_worthTo 22 = .ok (.if_icmp .ne 13, 3) ∧ decode cX5_worthTo 25 = .ok (.iload_n 3, 1)) ∧ decode cX5_worthTo 26 = .ok (.aload_n 1, 1)) ∧ ((decode cX5_worthTo 27 = .ok (.iload_n 2, 1) ∧ decode cX5_worthTo 28 = .ok (.iload 4, 2)) ∧ decode cX5_worthTo 30 = .ok (.invokevirtual 42, 3))) ∧ (((decode cX5_worthTo 33 = .ok (.iadd, 1) ∧ decode cX5_worthTo 34 = .ok (.istore_n 3, 1)) ∧ decode cX5_worthTo 35 = .ok (.iinc 4 1, 3)) ∧ ((decode cX5_worthTo 38 = .ok (.goto (-33), 3) ∧ decode cX5_worthTo 41 = .ok (.iload_n 3, 1)) ∧ decode cX5_worthTo 42 = .ok (.ireturn, 1))))) ∧ bA cX5_worthTo 43 [] :=
  have q0 := fp_o3 fp_bcX5_worthTo
  have q1 := fp_o62 q0.2
  have q2 := fp_o3 q1.2
  have q3 := fp_o54 q2.2
  have q4 := fp_o21 q3.2
  have q5 := fp_o43 q4.2
  have q6 := fp_o180 (v := 36) q5.2 rfl
  have q7 := fp_o162 (v := 30) q6.2 rfl
  have q8 := fp_o42 q7.2
  have q9 := fp_o180 (v := 9) q8.2 rfl
  have q10 := fp_o21 q9.2
  have q11 := fp_o46 q10.2
  have q12 := fp_o28 q11.2
  have q13 := fp_o160 (v := 13) q12.2 rfl
  have q14 := fp_o29 q13.2
  have q15 := fp_o43 q14.2
  have q16 := fp_o28 q15.2
  have q17 := fp_o21 q16.2
  have q18 := fp_o182 (v := 42) q17.2 rfl
  have q19 := fp_o96 q18.2
  have q20 := fp_o62 q19.2
  have q21 := fp_o132 (v := 1) q20.2 rfl
  have q22 := fp_o167 (v := (-33)) q21.2 rfl
  have q23 := fp_o29 q22.2
  have q24 := fp_o172 q23.2
  ⟨⟨⟨⟨⟨⟨q0.1, q1.1⟩, ⟨q2.1, q3.1⟩⟩, ⟨⟨q4.1, q5.1⟩, q6.1⟩⟩, ⟨⟨⟨q7.1, q8.1⟩, q9.1⟩, ⟨⟨q10.1, q11.1⟩, q12.1⟩⟩⟩, ⟨⟨⟨⟨q13.1, q14.1⟩, q15.1⟩, ⟨⟨q16.1, q17.1⟩, q18.1⟩⟩, ⟨⟨⟨q19.1, q20.1⟩, q21.1⟩, ⟨⟨q22.1, q23.1⟩, q24.1⟩⟩⟩⟩, q24.2⟩
theorem dX5_worthTo_0 : decode cX5_worthTo 0 = .ok (.iconst 0, 1) := fp_hdX5_worthTo_0.1.1.1.1.1.1
theorem dX5_worthTo_1 : decode cX5_worthTo 1 = .ok (.istore_n 3, 1) := fp_hdX5_worthTo_0.1.1.1.1.1.2
theorem dX5_worthTo_2 : decode cX5_worthTo 2 = .ok (.iconst 0, 1) := fp_hdX5_worthTo_0.1.1.1.1.2.1
theorem dX5_worthTo_3 : decode cX5_worthTo 3 = .ok (.istore 4, 2) := fp_hdX5_worthTo_0.1.1.1.1.2.2
theorem dX5_worthTo_5 : decode cX5_worthTo 5 = .ok (.iload 4, 2) := fp_hdX5_worthTo_0.1.1.1.2.1.1
theorem dX5_worthTo_7 : decode cX5_worthTo 7 = .ok (.aload_n 1, 1) := fp_hdX5_worthTo_0.1.1.1.2.1.2
theorem dX5_worthTo_8 : decode cX5_worthTo 8 = .ok (.getfield 36, 3) := fp_hdX5_worthTo_0.1.1.1.2.2
theorem dX5_worthTo_11 : decode cX5_worthTo 11 = .ok (.if_icmp .ge 30, 3) := fp_hdX5_worthTo_0.1.1.2.1.1.1
theorem dX5_worthTo_14 : decode cX5_worthTo 14 = .ok (.aload_n 0, 1) := fp_hdX5_worthTo_0.1.1.2.1.1.2
theorem dX5_worthTo_15 : decode cX5_worthTo 15 = .ok (.getfield 9, 3) := fp_hdX5_worthTo_0.1.1.2.1.2
theorem dX5_worthTo_18 : decode cX5_worthTo 18 = .ok (.iload 4, 2) := fp_hdX5_worthTo_0.1.1.2.2.1.1
theorem dX5_worthTo_20 : decode cX5_worthTo 20 = .ok (.iaload, 1) := fp_hdX5_worthTo_0.1.1.2.2.1.2
theorem dX5_worthTo_21 : decode cX5_worthTo 21 = .ok (.iload_n 2, 1) := fp_hdX5_worthTo_0.1.1.2.2.2
theorem dX5_worthTo_22 : decode cX5_worthTo 22 = .ok (.if_icmp .ne 13, 3) := fp_hdX5_worthTo_0.1.2.1.1.1.1
theorem dX5_worthTo_25 : decode cX5_worthTo 25 = .ok (.iload_n 3, 1) := fp_hdX5_worthTo_0.1.2.1.1.1.2
theorem dX5_worthTo_26 : decode cX5_worthTo 26 = .ok (.aload_n 1, 1) := fp_hdX5_worthTo_0.1.2.1.1.2
theorem dX5_worthTo_27 : decode cX5_worthTo 27 = .ok (.iload_n 2, 1) := fp_hdX5_worthTo_0.1.2.1.2.1.1
theorem dX5_worthTo_28 : decode cX5_worthTo 28 = .ok (.iload 4, 2) := fp_hdX5_worthTo_0.1.2.1.2.1.2
theorem dX5_worthTo_30 : decode cX5_worthTo 30 = .ok (.invokevirtual 42, 3) := fp_hdX5_worthTo_0.1.2.1.2.2
theorem dX5_worthTo_33 : decode cX5_worthTo 33 = .ok (.iadd, 1) := fp_hdX5_worthTo_0.1.2.2.1.1.1
theorem dX5_worthTo_34 : decode cX5_worthTo 34 = .ok (.istore_n 3, 1) := fp_hdX5_worthTo_0.1.2.2.1.1.2
theorem dX5_worthTo_35 : decode cX5_worthTo 35 = .ok (.iinc 4 1, 3) := fp_hdX5_worthTo_0.1.2.2.1.2
theorem dX5_worthTo_38 : decode cX5_worthTo 38 = .ok (.goto (-33), 3) := fp_hdX5_worthTo_0.1.2.2.2.1.1
theorem dX5_worthTo_41 : decode cX5_worthTo 41 = .ok (.iload_n 3, 1) := fp_hdX5_worthTo_0.1.2.2.2.1.2
theorem dX5_worthTo_42 : decode cX5_worthTo 42 = .ok (.ireturn, 1) := fp_hdX5_worthTo_0.1.2.2.2.2
def fp_scX5_spotOf_1 : List Nat := 29 :: 172 :: 132 :: 3 :: 1 :: 167 :: 255 :: 226 :: 16 :: 252 :: 172 :: []
def fp_scX5_spotOf_0 : List Nat := 42 :: 180 :: 0 :: 9 :: 27 :: 46 :: 16 :: 10 :: 100 :: 61 :: 28 :: 155 :: 0 :: 8 :: 28 :: 6 :: 161 :: 0 :: 6 :: 16 :: 252 :: 172 :: 3 :: 62 :: 29 :: 42 :: 180 :: 0 :: 18 :: 28 :: 46 :: 162 :: 0 :: 26 :: 42 :: 180 :: 0 :: 21 :: 28 :: 16 :: 8 :: 104 :: 29 :: 96 :: 46 :: 27 :: 160 :: 0 :: 5 :: fp_scX5_spotOf_1
theorem fp_bcX5_spotOf : bA cX5_spotOf 0 fp_scX5_spotOf_0 := show cX5_spotOf.data.toList.map UInt8.toNat = fp_scX5_spotOf_0 from by decide +kernel
theorem fp_hdX5_spotOf_0 : (((((decode cX5_spotOf 0 = .ok (.aload_n 0, 1) ∧ decode cX5_spotOf 1 = .ok (.getfield 9, 3)) ∧ (decode cX5_spotOf 4 = .ok (.iload_n 1, 1) ∧ decode cX5_spotOf 5 = .ok (.iaload, 1))) ∧ ((decode cX5_spotOf 6 = .ok (.bipush 10, 2) ∧ decode cX5_spotOf 8 = .ok (.isub, 1)) ∧ (decode cX5_spotOf 9 = .ok (.istore_n 2, 1) ∧ decode cX5_spotOf 10 = .ok (.iload_n 2, 1)))) ∧ (((decode cX5_spotOf 11 = .ok (.ifCond .lt 8, 3) ∧ decode cX5_spotOf 14 = .ok (.iload_n 2, 1)) ∧ (decode cX5_spotOf 15 = .ok (.iconst 3, 1) ∧ decode cX5_spotOf 16 = .ok (.if_icmp .lt 6, 3))) ∧ ((decode cX5_spotOf 19 = .ok (.bipush (-4), 2) ∧ decode cX5_spotOf 21 = .ok (.ireturn, 1)) ∧ (decode cX5_spotOf 22 = .ok (.iconst 0, 1) ∧ decode cX5_spotOf 23 = .ok (.istore_n 3, 1))))) ∧ ((((decode cX5_spotOf 24 = .ok (.iload_n 3, 1) ∧ decode cX5_spotOf 25 = .ok (.aload_n 0, 1)) ∧ (decode cX5_spotOf 26 = .ok (.getfield 18, 3) ∧ decode cX5_spotOf 29 = .ok (.iload_n 2, 1))) ∧ ((decode cX5_spotOf 30 = .ok (.iaload, 1) ∧ decode cX5_spotOf 31 = .ok (.if_icmp .ge 26, 3)) ∧ (decode cX5_spotOf 34 = .ok (.aload_n 0, 1) ∧ decode cX5_spotOf 35 = .ok (.getfield 21, 3)))) ∧ (((decode cX5_spotOf 38 = .ok (.iload_n 2, 1) ∧ decode cX5_spotOf 39 = .ok (.bipush 8, 2)) ∧ (decode cX5_spotOf 41 = .ok (.imul, 1) ∧ decode cX5_spotOf 42 = .ok (.iload_n 3, 1))) ∧ ((decode cX5_spotOf 43 = .ok (.iadd, 1) ∧ decode cX5_spotOf 44 = .ok (.iaload, 1)) ∧ (decode cX5_spotOf 45 = .ok (.iload_n 1, 1) ∧ decode cX5_spotOf 46 = .ok (.if_icmp .ne 5, 3)))))) ∧ bA cX5_spotOf 49 fp_scX5_spotOf_1 :=
  have q0 := fp_o42 fp_bcX5_spotOf
  have q1 := fp_o180 (v := 9) q0.2 rfl
  have q2 := fp_o27 q1.2
  have q3 := fp_o46 q2.2
  have q4 := fp_o16 (v := 10) q3.2 rfl
  have q5 := fp_o100 q4.2
  have q6 := fp_o61 q5.2
  have q7 := fp_o28 q6.2
  have q8 := fp_o155 (v := 8) q7.2 rfl
  have q9 := fp_o28 q8.2
  have q10 := fp_o6 q9.2
  have q11 := fp_o161 (v := 6) q10.2 rfl
  have q12 := fp_o16 (v := (-4)) q11.2 rfl
  have q13 := fp_o172 q12.2
  have q14 := fp_o3 q13.2
  have q15 := fp_o62 q14.2
  have q16 := fp_o29 q15.2
  have q17 := fp_o42 q16.2
  have q18 := fp_o180 (v := 18) q17.2 rfl
  have q19 := fp_o28 q18.2
  have q20 := fp_o46 q19.2
  have q21 := fp_o162 (v := 26) q20.2 rfl
  have q22 := fp_o42 q21.2
  have q23 := fp_o180 (v := 21) q22.2 rfl
  have q24 := fp_o28 q23.2
  have q25 := fp_o16 (v := 8) q24.2 rfl
  have q26 := fp_o104 q25.2
  have q27 := fp_o29 q26.2
  have q28 := fp_o96 q27.2
  have q29 := fp_o46 q28.2
  have q30 := fp_o27 q29.2
  have q31 := fp_o160 (v := 5) q30.2 rfl
  ⟨⟨⟨⟨⟨⟨q0.1, q1.1⟩, ⟨q2.1, q3.1⟩⟩, ⟨⟨q4.1, q5.1⟩, ⟨q6.1, q7.1⟩⟩⟩, ⟨⟨⟨q8.1, q9.1⟩, ⟨q10.1, q11.1⟩⟩, ⟨⟨q12.1, q13.1⟩, ⟨q14.1, q15.1⟩⟩⟩⟩, ⟨⟨⟨⟨q16.1, q17.1⟩, ⟨q18.1, q19.1⟩⟩, ⟨⟨q20.1, q21.1⟩, ⟨q22.1, q23.1⟩⟩⟩, ⟨⟨⟨q24.1, q25.1⟩, ⟨q26.1, q27.1⟩⟩, ⟨⟨q28.1, q29.1⟩, ⟨q30.1, q31.1⟩⟩⟩⟩⟩, q31.2⟩
theorem dX5_spotOf_0 : decode cX5_spotOf 0 = .ok (.aload_n 0, 1) := fp_hdX5_spotOf_0.1.1.1.1.1.1
theorem dX5_spotOf_1 : decode cX5_spotOf 1 = .ok (.getfield 9, 3) := fp_hdX5_spotOf_0.1.1.1.1.1.2
theorem dX5_spotOf_4 : decode cX5_spotOf 4 = .ok (.iload_n 1, 1) := fp_hdX5_spotOf_0.1.1.1.1.2.1
theorem dX5_spotOf_5 : decode cX5_spotOf 5 = .ok (.iaload, 1) := fp_hdX5_spotOf_0.1.1.1.1.2.2
theorem dX5_spotOf_6 : decode cX5_spotOf 6 = .ok (.bipush 10, 2) := fp_hdX5_spotOf_0.1.1.1.2.1.1
theorem dX5_spotOf_8 : decode cX5_spotOf 8 = .ok (.isub, 1) := fp_hdX5_spotOf_0.1.1.1.2.1.2
theorem dX5_spotOf_9 : decode cX5_spotOf 9 = .ok (.istore_n 2, 1) := fp_hdX5_spotOf_0.1.1.1.2.2.1
theorem dX5_spotOf_10 : decode cX5_spotOf 10 = .ok (.iload_n 2, 1) := fp_hdX5_spotOf_0.1.1.1.2.2.2
theorem dX5_spotOf_11 : decode cX5_spotOf 11 = .ok (.ifCond .lt 8, 3) := fp_hdX5_spotOf_0.1.1.2.1.1.1
theorem dX5_spotOf_14 : decode cX5_spotOf 14 = .ok (.iload_n 2, 1) := fp_hdX5_spotOf_0.1.1.2.1.1.2
theorem dX5_spotOf_15 : decode cX5_spotOf 15 = .ok (.iconst 3, 1) := fp_hdX5_spotOf_0.1.1.2.1.2.1
theorem dX5_spotOf_16 : decode cX5_spotOf 16 = .ok (.if_icmp .lt 6, 3) := fp_hdX5_spotOf_0.1.1.2.1.2.2
theorem dX5_spotOf_19 : decode cX5_spotOf 19 = .ok (.bipush (-4), 2) := fp_hdX5_spotOf_0.1.1.2.2.1.1
theorem dX5_spotOf_21 : decode cX5_spotOf 21 = .ok (.ireturn, 1) := fp_hdX5_spotOf_0.1.1.2.2.1.2
theorem dX5_spotOf_22 : decode cX5_spotOf 22 = .ok (.iconst 0, 1) := fp_hdX5_spotOf_0.1.1.2.2.2.1
theorem dX5_spotOf_23 : decode cX5_spotOf 23 = .ok (.istore_n 3, 1) := fp_hdX5_spotOf_0.1.1.2.2.2.2
theorem dX5_spotOf_24 : decode cX5_spotOf 24 = .ok (.iload_n 3, 1) := fp_hdX5_spotOf_0.1.2.1.1.1.1
theorem dX5_spotOf_25 : decode cX5_spotOf 25 = .ok (.aload_n 0, 1) := fp_hdX5_spotOf_0.1.2.1.1.1.2
theorem dX5_spotOf_26 : decode cX5_spotOf 26 = .ok (.getfield 18, 3) := fp_hdX5_spotOf_0.1.2.1.1.2.1
theorem dX5_spotOf_29 : decode cX5_spotOf 29 = .ok (.iload_n 2, 1) := fp_hdX5_spotOf_0.1.2.1.1.2.2
theorem dX5_spotOf_30 : decode cX5_spotOf 30 = .ok (.iaload, 1) := fp_hdX5_spotOf_0.1.2.1.2.1.1
theorem dX5_spotOf_31 : decode cX5_spotOf 31 = .ok (.if_icmp .ge 26, 3) := fp_hdX5_spotOf_0.1.2.1.2.1.2
theorem dX5_spotOf_34 : decode cX5_spotOf 34 = .ok (.aload_n 0, 1) := fp_hdX5_spotOf_0.1.2.1.2.2.1
theorem dX5_spotOf_35 : decode cX5_spotOf 35 = .ok (.getfield 21, 3) := fp_hdX5_spotOf_0.1.2.1.2.2.2
theorem dX5_spotOf_38 : decode cX5_spotOf 38 = .ok (.iload_n 2, 1) := fp_hdX5_spotOf_0.1.2.2.1.1.1
theorem dX5_spotOf_39 : decode cX5_spotOf 39 = .ok (.bipush 8, 2) := fp_hdX5_spotOf_0.1.2.2.1.1.2
theorem dX5_spotOf_41 : decode cX5_spotOf 41 = .ok (.imul, 1) := fp_hdX5_spotOf_0.1.2.2.1.2.1
theorem dX5_spotOf_42 : decode cX5_spotOf 42 = .ok (.iload_n 3, 1) := fp_hdX5_spotOf_0.1.2.2.1.2.2
theorem dX5_spotOf_43 : decode cX5_spotOf 43 = .ok (.iadd, 1) := fp_hdX5_spotOf_0.1.2.2.2.1.1
theorem dX5_spotOf_44 : decode cX5_spotOf 44 = .ok (.iaload, 1) := fp_hdX5_spotOf_0.1.2.2.2.1.2
theorem dX5_spotOf_45 : decode cX5_spotOf 45 = .ok (.iload_n 1, 1) := fp_hdX5_spotOf_0.1.2.2.2.2.1
theorem dX5_spotOf_46 : decode cX5_spotOf 46 = .ok (.if_icmp .ne 5, 3) := fp_hdX5_spotOf_0.1.2.2.2.2.2
theorem fp_hdX5_spotOf_49 : (((decode cX5_spotOf 49 = .ok (.iload_n 3, 1) ∧ decode cX5_spotOf 50 = .ok (.ireturn, 1)) ∧ decode cX5_spotOf 51 = .ok (.iinc 3 1, 3)) ∧ ((decode cX5_spotOf 54 = .ok (.goto (-30), 3) ∧ decode cX5_spotOf 57 = .ok (.bipush (-4), 2)) ∧ decode cX5_spotOf 59 = .ok (.ireturn, 1))) ∧ bA cX5_spotOf 60 [] :=
  have q0 := fp_o29 fp_hdX5_spotOf_0.2
  have q1 := fp_o172 q0.2
  have q2 := fp_o132 (v := 1) q1.2 rfl
  have q3 := fp_o167 (v := (-30)) q2.2 rfl
  have q4 := fp_o16 (v := (-4)) q3.2 rfl
  have q5 := fp_o172 q4.2
  ⟨⟨⟨⟨q0.1, q1.1⟩, q2.1⟩, ⟨⟨q3.1, q4.1⟩, q5.1⟩⟩, q5.2⟩
theorem dX5_spotOf_49 : decode cX5_spotOf 49 = .ok (.iload_n 3, 1) := fp_hdX5_spotOf_49.1.1.1.1
theorem dX5_spotOf_50 : decode cX5_spotOf 50 = .ok (.ireturn, 1) := fp_hdX5_spotOf_49.1.1.1.2
theorem dX5_spotOf_51 : decode cX5_spotOf 51 = .ok (.iinc 3 1, 3) := fp_hdX5_spotOf_49.1.1.2
theorem dX5_spotOf_54 : decode cX5_spotOf 54 = .ok (.goto (-30), 3) := fp_hdX5_spotOf_49.1.2.1.1
theorem dX5_spotOf_57 : decode cX5_spotOf 57 = .ok (.bipush (-4), 2) := fp_hdX5_spotOf_49.1.2.1.2
theorem dX5_spotOf_59 : decode cX5_spotOf 59 = .ok (.ireturn, 1) := fp_hdX5_spotOf_49.1.2.2
def fp_scX5_gives_0 : List Nat := 42 :: 180 :: 0 :: 18 :: 28 :: 46 :: 154 :: 0 :: 6 :: 16 :: 252 :: 172 :: 42 :: 180 :: 0 :: 21 :: 28 :: 16 :: 8 :: 104 :: 43 :: 43 :: 180 :: 0 :: 46 :: 28 :: 46 :: 42 :: 180 :: 0 :: 21 :: 28 :: 16 :: 8 :: 104 :: 42 :: 180 :: 0 :: 18 :: 28 :: 46 :: 184 :: 0 :: 49 :: 96 :: 46 :: 172 :: []
theorem fp_bcX5_gives : bA cX5_gives 0 fp_scX5_gives_0 := show cX5_gives.data.toList.map UInt8.toNat = fp_scX5_gives_0 from by decide +kernel
theorem fp_hdX5_gives_0 : (((((decode cX5_gives 0 = .ok (.aload_n 0, 1) ∧ decode cX5_gives 1 = .ok (.getfield 18, 3)) ∧ (decode cX5_gives 4 = .ok (.iload_n 2, 1) ∧ decode cX5_gives 5 = .ok (.iaload, 1))) ∧ ((decode cX5_gives 6 = .ok (.ifCond .ne 6, 3) ∧ decode cX5_gives 9 = .ok (.bipush (-4), 2)) ∧ (decode cX5_gives 11 = .ok (.ireturn, 1) ∧ decode cX5_gives 12 = .ok (.aload_n 0, 1)))) ∧ (((decode cX5_gives 13 = .ok (.getfield 21, 3) ∧ decode cX5_gives 16 = .ok (.iload_n 2, 1)) ∧ (decode cX5_gives 17 = .ok (.bipush 8, 2) ∧ decode cX5_gives 19 = .ok (.imul, 1))) ∧ ((decode cX5_gives 20 = .ok (.aload_n 1, 1) ∧ decode cX5_gives 21 = .ok (.aload_n 1, 1)) ∧ decode cX5_gives 22 = .ok (.getfield 46, 3)))) ∧ ((((decode cX5_gives 25 = .ok (.iload_n 2, 1) ∧ decode cX5_gives 26 = .ok (.iaload, 1)) ∧ (decode cX5_gives 27 = .ok (.aload_n 0, 1) ∧ decode cX5_gives 28 = .ok (.getfield 21, 3))) ∧ ((decode cX5_gives 31 = .ok (.iload_n 2, 1) ∧ decode cX5_gives 32 = .ok (.bipush 8, 2)) ∧ (decode cX5_gives 34 = .ok (.imul, 1) ∧ decode cX5_gives 35 = .ok (.aload_n 0, 1)))) ∧ (((decode cX5_gives 36 = .ok (.getfield 18, 3) ∧ decode cX5_gives 39 = .ok (.iload_n 2, 1)) ∧ (decode cX5_gives 40 = .ok (.iaload, 1) ∧ decode cX5_gives 41 = .ok (.invokestatic 49, 3))) ∧ ((decode cX5_gives 44 = .ok (.iadd, 1) ∧ decode cX5_gives 45 = .ok (.iaload, 1)) ∧ decode cX5_gives 46 = .ok (.ireturn, 1))))) ∧ bA cX5_gives 47 [] :=
  have q0 := fp_o42 fp_bcX5_gives
  have q1 := fp_o180 (v := 18) q0.2 rfl
  have q2 := fp_o28 q1.2
  have q3 := fp_o46 q2.2
  have q4 := fp_o154 (v := 6) q3.2 rfl
  have q5 := fp_o16 (v := (-4)) q4.2 rfl
  have q6 := fp_o172 q5.2
  have q7 := fp_o42 q6.2
  have q8 := fp_o180 (v := 21) q7.2 rfl
  have q9 := fp_o28 q8.2
  have q10 := fp_o16 (v := 8) q9.2 rfl
  have q11 := fp_o104 q10.2
  have q12 := fp_o43 q11.2
  have q13 := fp_o43 q12.2
  have q14 := fp_o180 (v := 46) q13.2 rfl
  have q15 := fp_o28 q14.2
  have q16 := fp_o46 q15.2
  have q17 := fp_o42 q16.2
  have q18 := fp_o180 (v := 21) q17.2 rfl
  have q19 := fp_o28 q18.2
  have q20 := fp_o16 (v := 8) q19.2 rfl
  have q21 := fp_o104 q20.2
  have q22 := fp_o42 q21.2
  have q23 := fp_o180 (v := 18) q22.2 rfl
  have q24 := fp_o28 q23.2
  have q25 := fp_o46 q24.2
  have q26 := fp_o184 (v := 49) q25.2 rfl
  have q27 := fp_o96 q26.2
  have q28 := fp_o46 q27.2
  have q29 := fp_o172 q28.2
  ⟨⟨⟨⟨⟨⟨q0.1, q1.1⟩, ⟨q2.1, q3.1⟩⟩, ⟨⟨q4.1, q5.1⟩, ⟨q6.1, q7.1⟩⟩⟩, ⟨⟨⟨q8.1, q9.1⟩, ⟨q10.1, q11.1⟩⟩, ⟨⟨q12.1, q13.1⟩, q14.1⟩⟩⟩, ⟨⟨⟨⟨q15.1, q16.1⟩, ⟨q17.1, q18.1⟩⟩, ⟨⟨q19.1, q20.1⟩, ⟨q21.1, q22.1⟩⟩⟩, ⟨⟨⟨q23.1, q24.1⟩, ⟨q25.1, q26.1⟩⟩, ⟨⟨q27.1, q28.1⟩, q29.1⟩⟩⟩⟩, q29.2⟩
theorem dX5_gives_0 : decode cX5_gives 0 = .ok (.aload_n 0, 1) := fp_hdX5_gives_0.1.1.1.1.1.1
theorem dX5_gives_1 : decode cX5_gives 1 = .ok (.getfield 18, 3) := fp_hdX5_gives_0.1.1.1.1.1.2
theorem dX5_gives_4 : decode cX5_gives 4 = .ok (.iload_n 2, 1) := fp_hdX5_gives_0.1.1.1.1.2.1
theorem dX5_gives_5 : decode cX5_gives 5 = .ok (.iaload, 1) := fp_hdX5_gives_0.1.1.1.1.2.2
theorem dX5_gives_6 : decode cX5_gives 6 = .ok (.ifCond .ne 6, 3) := fp_hdX5_gives_0.1.1.1.2.1.1
theorem dX5_gives_9 : decode cX5_gives 9 = .ok (.bipush (-4), 2) := fp_hdX5_gives_0.1.1.1.2.1.2
theorem dX5_gives_11 : decode cX5_gives 11 = .ok (.ireturn, 1) := fp_hdX5_gives_0.1.1.1.2.2.1
theorem dX5_gives_12 : decode cX5_gives 12 = .ok (.aload_n 0, 1) := fp_hdX5_gives_0.1.1.1.2.2.2
theorem dX5_gives_13 : decode cX5_gives 13 = .ok (.getfield 21, 3) := fp_hdX5_gives_0.1.1.2.1.1.1
theorem dX5_gives_16 : decode cX5_gives 16 = .ok (.iload_n 2, 1) := fp_hdX5_gives_0.1.1.2.1.1.2
theorem dX5_gives_17 : decode cX5_gives 17 = .ok (.bipush 8, 2) := fp_hdX5_gives_0.1.1.2.1.2.1
theorem dX5_gives_19 : decode cX5_gives 19 = .ok (.imul, 1) := fp_hdX5_gives_0.1.1.2.1.2.2
theorem dX5_gives_20 : decode cX5_gives 20 = .ok (.aload_n 1, 1) := fp_hdX5_gives_0.1.1.2.2.1.1
theorem dX5_gives_21 : decode cX5_gives 21 = .ok (.aload_n 1, 1) := fp_hdX5_gives_0.1.1.2.2.1.2
theorem dX5_gives_22 : decode cX5_gives 22 = .ok (.getfield 46, 3) := fp_hdX5_gives_0.1.1.2.2.2
theorem dX5_gives_25 : decode cX5_gives 25 = .ok (.iload_n 2, 1) := fp_hdX5_gives_0.1.2.1.1.1.1
theorem dX5_gives_26 : decode cX5_gives 26 = .ok (.iaload, 1) := fp_hdX5_gives_0.1.2.1.1.1.2
theorem dX5_gives_27 : decode cX5_gives 27 = .ok (.aload_n 0, 1) := fp_hdX5_gives_0.1.2.1.1.2.1
theorem dX5_gives_28 : decode cX5_gives 28 = .ok (.getfield 21, 3) := fp_hdX5_gives_0.1.2.1.1.2.2
theorem dX5_gives_31 : decode cX5_gives 31 = .ok (.iload_n 2, 1) := fp_hdX5_gives_0.1.2.1.2.1.1
theorem dX5_gives_32 : decode cX5_gives 32 = .ok (.bipush 8, 2) := fp_hdX5_gives_0.1.2.1.2.1.2
theorem dX5_gives_34 : decode cX5_gives 34 = .ok (.imul, 1) := fp_hdX5_gives_0.1.2.1.2.2.1
theorem dX5_gives_35 : decode cX5_gives 35 = .ok (.aload_n 0, 1) := fp_hdX5_gives_0.1.2.1.2.2.2
theorem dX5_gives_36 : decode cX5_gives 36 = .ok (.getfield 18, 3) := fp_hdX5_gives_0.1.2.2.1.1.1
theorem dX5_gives_39 : decode cX5_gives 39 = .ok (.iload_n 2, 1) := fp_hdX5_gives_0.1.2.2.1.1.2
theorem dX5_gives_40 : decode cX5_gives 40 = .ok (.iaload, 1) := fp_hdX5_gives_0.1.2.2.1.2.1
theorem dX5_gives_41 : decode cX5_gives 41 = .ok (.invokestatic 49, 3) := fp_hdX5_gives_0.1.2.2.1.2.2
theorem dX5_gives_44 : decode cX5_gives 44 = .ok (.iadd, 1) := fp_hdX5_gives_0.1.2.2.2.1.1
theorem dX5_gives_45 : decode cX5_gives 45 = .ok (.iaload, 1) := fp_hdX5_gives_0.1.2.2.2.1.2
theorem dX5_gives_46 : decode cX5_gives 46 = .ok (.ireturn, 1) := fp_hdX5_gives_0.1.2.2.2.2
def fp_scX5_giveTo_2 : List Nat := 42 :: 180 :: 0 :: 9 :: 21 :: 6 :: 28 :: 79 :: 42 :: 180 :: 0 :: 15 :: 21 :: 6 :: 16 :: 252 :: 79 :: 21 :: 6 :: 172 :: []
def fp_scX5_giveTo_1 : List Nat := 42 :: 180 :: 0 :: 18 :: 29 :: 92 :: 46 :: 4 :: 100 :: 79 :: 21 :: 5 :: 54 :: 7 :: 21 :: 7 :: 42 :: 180 :: 0 :: 18 :: 29 :: 46 :: 162 :: 0 :: 31 :: 42 :: 180 :: 0 :: 21 :: 21 :: 4 :: 21 :: 7 :: 96 :: 42 :: 180 :: 0 :: 21 :: 21 :: 4 :: 21 :: 7 :: 96 :: 4 :: 96 :: 46 :: 79 :: 132 :: 7 :: 1 :: 167 :: 255 :: 220 :: fp_scX5_giveTo_2
def fp_scX5_giveTo_0 : List Nat := 42 :: 180 :: 0 :: 18 :: 29 :: 46 :: 154 :: 0 :: 6 :: 16 :: 252 :: 172 :: 29 :: 16 :: 8 :: 104 :: 54 :: 4 :: 43 :: 43 :: 180 :: 0 :: 46 :: 29 :: 46 :: 42 :: 180 :: 0 :: 21 :: 21 :: 4 :: 42 :: 180 :: 0 :: 18 :: 29 :: 46 :: 184 :: 0 :: 49 :: 54 :: 5 :: 42 :: 180 :: 0 :: 21 :: 21 :: 4 :: 21 :: 5 :: 96 :: 46 :: 54 :: 6 :: fp_scX5_giveTo_1
theorem fp_bcX5_giveTo : bA cX5_giveTo 0 fp_scX5_giveTo_0 := show cX5_giveTo.data.toList.map UInt8.toNat = fp_scX5_giveTo_0 from by decide +kernel
theorem fp_hdX5_giveTo_0 : (((((decode cX5_giveTo 0 = .ok (.aload_n 0, 1) ∧ decode cX5_giveTo 1 = .ok (.getfield 18, 3)) ∧ (decode cX5_giveTo 4 = .ok (.iload_n 3, 1) ∧ decode cX5_giveTo 5 = .ok (.iaload, 1))) ∧ ((decode cX5_giveTo 6 = .ok (.ifCond .ne 6, 3) ∧ decode cX5_giveTo 9 = .ok (.bipush (-4), 2)) ∧ (decode cX5_giveTo 11 = .ok (.ireturn, 1) ∧ decode cX5_giveTo 12 = .ok (.iload_n 3, 1)))) ∧ (((decode cX5_giveTo 13 = .ok (.bipush 8, 2) ∧ decode cX5_giveTo 15 = .ok (.imul, 1)) ∧ (decode cX5_giveTo 16 = .ok (.istore 4, 2) ∧ decode cX5_giveTo 18 = .ok (.aload_n 1, 1))) ∧ ((decode cX5_giveTo 19 = .ok (.aload_n 1, 1) ∧ decode cX5_giveTo 20 = .ok (.getfield 46, 3)) ∧ (decode cX5_giveTo 23 = .ok (.iload_n 3, 1) ∧ decode cX5_giveTo 24 = .ok (.iaload, 1))))) ∧ ((((decode cX5_giveTo 25 = .ok (.aload_n 0, 1) ∧ decode cX5_giveTo 26 = .ok (.getfield 21, 3)) ∧ (decode cX5_giveTo 29 = .ok (.iload 4, 2) ∧ decode cX5_giveTo 31 = .ok (.aload_n 0, 1))) ∧ ((decode cX5_giveTo 32 = .ok (.getfield 18, 3) ∧ decode cX5_giveTo 35 = .ok (.iload_n 3, 1)) ∧ (decode cX5_giveTo 36 = .ok (.iaload, 1) ∧ decode cX5_giveTo 37 = .ok (.invokestatic 49, 3)))) ∧ (((decode cX5_giveTo 40 = .ok (.istore 5, 2) ∧ decode cX5_giveTo 42 = .ok (.aload_n 0, 1)) ∧ (decode cX5_giveTo 43 = .ok (.getfield 21, 3) ∧ decode cX5_giveTo 46 = .ok (.iload 4, 2))) ∧ ((decode cX5_giveTo 48 = .ok (.iload 5, 2) ∧ decode cX5_giveTo 50 = .ok (.iadd, 1)) ∧ (decode cX5_giveTo 51 = .ok (.iaload, 1) ∧ decode cX5_giveTo 52 = .ok (.istore 6, 2)))))) ∧ bA cX5_giveTo 54 fp_scX5_giveTo_1 :=
  have q0 := fp_o42 fp_bcX5_giveTo
  have q1 := fp_o180 (v := 18) q0.2 rfl
  have q2 := fp_o29 q1.2
  have q3 := fp_o46 q2.2
  have q4 := fp_o154 (v := 6) q3.2 rfl
  have q5 := fp_o16 (v := (-4)) q4.2 rfl
  have q6 := fp_o172 q5.2
  have q7 := fp_o29 q6.2
  have q8 := fp_o16 (v := 8) q7.2 rfl
  have q9 := fp_o104 q8.2
  have q10 := fp_o54 q9.2
  have q11 := fp_o43 q10.2
  have q12 := fp_o43 q11.2
  have q13 := fp_o180 (v := 46) q12.2 rfl
  have q14 := fp_o29 q13.2
  have q15 := fp_o46 q14.2
  have q16 := fp_o42 q15.2
  have q17 := fp_o180 (v := 21) q16.2 rfl
  have q18 := fp_o21 q17.2
  have q19 := fp_o42 q18.2
  have q20 := fp_o180 (v := 18) q19.2 rfl
  have q21 := fp_o29 q20.2
  have q22 := fp_o46 q21.2
  have q23 := fp_o184 (v := 49) q22.2 rfl
  have q24 := fp_o54 q23.2
  have q25 := fp_o42 q24.2
  have q26 := fp_o180 (v := 21) q25.2 rfl
  have q27 := fp_o21 q26.2
  have q28 := fp_o21 q27.2
  have q29 := fp_o96 q28.2
  have q30 := fp_o46 q29.2
  have q31 := fp_o54 q30.2
  ⟨⟨⟨⟨⟨⟨q0.1, q1.1⟩, ⟨q2.1, q3.1⟩⟩, ⟨⟨q4.1, q5.1⟩, ⟨q6.1, q7.1⟩⟩⟩, ⟨⟨⟨q8.1, q9.1⟩, ⟨q10.1, q11.1⟩⟩, ⟨⟨q12.1, q13.1⟩, ⟨q14.1, q15.1⟩⟩⟩⟩, ⟨⟨⟨⟨q16.1, q17.1⟩, ⟨q18.1, q19.1⟩⟩, ⟨⟨q20.1, q21.1⟩, ⟨q22.1, q23.1⟩⟩⟩, ⟨⟨⟨q24.1, q25.1⟩, ⟨q26.1, q27.1⟩⟩, ⟨⟨q28.1, q29.1⟩, ⟨q30.1, q31.1⟩⟩⟩⟩⟩, q31.2⟩
theorem dX5_giveTo_0 : decode cX5_giveTo 0 = .ok (.aload_n 0, 1) := fp_hdX5_giveTo_0.1.1.1.1.1.1
theorem dX5_giveTo_1 : decode cX5_giveTo 1 = .ok (.getfield 18, 3) := fp_hdX5_giveTo_0.1.1.1.1.1.2
theorem dX5_giveTo_4 : decode cX5_giveTo 4 = .ok (.iload_n 3, 1) := fp_hdX5_giveTo_0.1.1.1.1.2.1
theorem dX5_giveTo_5 : decode cX5_giveTo 5 = .ok (.iaload, 1) := fp_hdX5_giveTo_0.1.1.1.1.2.2
theorem dX5_giveTo_6 : decode cX5_giveTo 6 = .ok (.ifCond .ne 6, 3) := fp_hdX5_giveTo_0.1.1.1.2.1.1
theorem dX5_giveTo_9 : decode cX5_giveTo 9 = .ok (.bipush (-4), 2) := fp_hdX5_giveTo_0.1.1.1.2.1.2
theorem dX5_giveTo_11 : decode cX5_giveTo 11 = .ok (.ireturn, 1) := fp_hdX5_giveTo_0.1.1.1.2.2.1
theorem dX5_giveTo_12 : decode cX5_giveTo 12 = .ok (.iload_n 3, 1) := fp_hdX5_giveTo_0.1.1.1.2.2.2
theorem dX5_giveTo_13 : decode cX5_giveTo 13 = .ok (.bipush 8, 2) := fp_hdX5_giveTo_0.1.1.2.1.1.1
theorem dX5_giveTo_15 : decode cX5_giveTo 15 = .ok (.imul, 1) := fp_hdX5_giveTo_0.1.1.2.1.1.2
theorem dX5_giveTo_16 : decode cX5_giveTo 16 = .ok (.istore 4, 2) := fp_hdX5_giveTo_0.1.1.2.1.2.1
theorem dX5_giveTo_18 : decode cX5_giveTo 18 = .ok (.aload_n 1, 1) := fp_hdX5_giveTo_0.1.1.2.1.2.2
theorem dX5_giveTo_19 : decode cX5_giveTo 19 = .ok (.aload_n 1, 1) := fp_hdX5_giveTo_0.1.1.2.2.1.1
theorem dX5_giveTo_20 : decode cX5_giveTo 20 = .ok (.getfield 46, 3) := fp_hdX5_giveTo_0.1.1.2.2.1.2
theorem dX5_giveTo_23 : decode cX5_giveTo 23 = .ok (.iload_n 3, 1) := fp_hdX5_giveTo_0.1.1.2.2.2.1
theorem dX5_giveTo_24 : decode cX5_giveTo 24 = .ok (.iaload, 1) := fp_hdX5_giveTo_0.1.1.2.2.2.2
theorem dX5_giveTo_25 : decode cX5_giveTo 25 = .ok (.aload_n 0, 1) := fp_hdX5_giveTo_0.1.2.1.1.1.1
theorem dX5_giveTo_26 : decode cX5_giveTo 26 = .ok (.getfield 21, 3) := fp_hdX5_giveTo_0.1.2.1.1.1.2
theorem dX5_giveTo_29 : decode cX5_giveTo 29 = .ok (.iload 4, 2) := fp_hdX5_giveTo_0.1.2.1.1.2.1
theorem dX5_giveTo_31 : decode cX5_giveTo 31 = .ok (.aload_n 0, 1) := fp_hdX5_giveTo_0.1.2.1.1.2.2
theorem dX5_giveTo_32 : decode cX5_giveTo 32 = .ok (.getfield 18, 3) := fp_hdX5_giveTo_0.1.2.1.2.1.1
theorem dX5_giveTo_35 : decode cX5_giveTo 35 = .ok (.iload_n 3, 1) := fp_hdX5_giveTo_0.1.2.1.2.1.2
theorem dX5_giveTo_36 : decode cX5_giveTo 36 = .ok (.iaload, 1) := fp_hdX5_giveTo_0.1.2.1.2.2.1
theorem dX5_giveTo_37 : decode cX5_giveTo 37 = .ok (.invokestatic 49, 3) := fp_hdX5_giveTo_0.1.2.1.2.2.2
theorem dX5_giveTo_40 : decode cX5_giveTo 40 = .ok (.istore 5, 2) := fp_hdX5_giveTo_0.1.2.2.1.1.1
theorem dX5_giveTo_42 : decode cX5_giveTo 42 = .ok (.aload_n 0, 1) := fp_hdX5_giveTo_0.1.2.2.1.1.2
theorem dX5_giveTo_43 : decode cX5_giveTo 43 = .ok (.getfield 21, 3) := fp_hdX5_giveTo_0.1.2.2.1.2.1
theorem dX5_giveTo_46 : decode cX5_giveTo 46 = .ok (.iload 4, 2) := fp_hdX5_giveTo_0.1.2.2.1.2.2
theorem dX5_giveTo_48 : decode cX5_giveTo 48 = .ok (.iload 5, 2) := fp_hdX5_giveTo_0.1.2.2.2.1.1
theorem dX5_giveTo_50 : decode cX5_giveTo 50 = .ok (.iadd, 1) := fp_hdX5_giveTo_0.1.2.2.2.1.2
theorem dX5_giveTo_51 : decode cX5_giveTo 51 = .ok (.iaload, 1) := fp_hdX5_giveTo_0.1.2.2.2.2.1
theorem dX5_giveTo_52 : decode cX5_giveTo 52 = .ok (.istore 6, 2) := fp_hdX5_giveTo_0.1.2.2.2.2.2
theorem fp_hdX5_giveTo_54 : (((((decode cX5_giveTo 54 = .ok (.aload_n 0, 1) ∧ decode cX5_giveTo 55 = .ok (.getfield 18, 3)) ∧ (decode cX5_giveTo 58 = .ok (.iload_n 3, 1) ∧ decode cX5_giveTo 59 = .ok (.dup2, 1))) ∧ ((decode cX5_giveTo 60 = .ok (.iaload, 1) ∧ decode cX5_giveTo 61 = .ok (.iconst 1, 1)) ∧ (decode cX5_giveTo 62 = .ok (.isub, 1) ∧ decode cX5_giveTo 63 = .ok (.iastore, 1)))) ∧ (((decode cX5_giveTo 64 = .ok (.iload 5, 2) ∧ decode cX5_giveTo 66 = .ok (.istore 7, 2)) ∧ (decode cX5_giveTo 68 = .ok (.iload 7, 2) ∧ decode cX5_giveTo 70 = .ok (.aload_n 0, 1))) ∧ ((decode cX5_giveTo 71 = .ok (.getfield 18, 3) ∧ decode cX5_giveTo 74 = .ok (.iload_n 3, 1)) ∧ (decode cX5_giveTo 75 = .ok (.iaload, 1) ∧ decode cX5_giveTo 76 = .ok (.if_icmp .ge 31, 3))))) ∧ ((((decode cX5_giveTo 79 = .ok (.aload_n 0, 1) ∧ decode cX5_giveTo 80 = .ok (.getfield 21, 3)) ∧ (decode cX5_giveTo 83 = .ok (.iload 4, 2) ∧ decode cX5_giveTo 85 = .ok (.iload 7, 2))) ∧ ((decode cX5_giveTo 87 = .ok (.iadd, 1) ∧ decode cX5_giveTo 88 = .ok (.aload_n 0, 1)) ∧ (decode cX5_giveTo 89 = .ok (.getfield 21, 3) ∧ decode cX5_giveTo 92 = .ok (.iload 4, 2)))) ∧ (((decode cX5_giveTo 94 = .ok (.iload 7, 2) ∧ decode cX5_giveTo 96 = .ok (.iadd, 1)) ∧ (decode cX5_giveTo 97 = .ok (.iconst 1, 1) ∧ decode cX5_giveTo 98 = .ok (.iadd, 1))) ∧ ((decode cX5_giveTo 99 = .ok (.iaload, 1) ∧ decode cX5_giveTo 100 = .ok (.iastore, 1)) ∧ (decode cX5_giveTo 101 = .ok (.iinc 7 1, 3) ∧ decode cX5_giveTo 104 = .ok (.goto (-36), 3)))))) ∧ bA cX5_giveTo 107 fp_scX5_giveTo_2 :=
  have q0 := fp_o42 fp_hdX5_giveTo_0.2
  have q1 := fp_o180 (v := 18) q0.2 rfl
  have q2 := fp_o29 q1.2
  have q3 := fp_o92 q2.2
  have q4 := fp_o46 q3.2
  have q5 := fp_o4 q4.2
  have q6 := fp_o100 q5.2
  have q7 := fp_o79 q6.2
  have q8 := fp_o21 q7.2
  have q9 := fp_o54 q8.2
  have q10 := fp_o21 q9.2
  have q11 := fp_o42 q10.2
  have q12 := fp_o180 (v := 18) q11.2 rfl
  have q13 := fp_o29 q12.2
  have q14 := fp_o46 q13.2
  have q15 := fp_o162 (v := 31) q14.2 rfl
  have q16 := fp_o42 q15.2
  have q17 := fp_o180 (v := 21) q16.2 rfl
  have q18 := fp_o21 q17.2
  have q19 := fp_o21 q18.2
  have q20 := fp_o96 q19.2
  have q21 := fp_o42 q20.2
  have q22 := fp_o180 (v := 21) q21.2 rfl
  have q23 := fp_o21 q22.2
  have q24 := fp_o21 q23.2
  have q25 := fp_o96 q24.2
  have q26 := fp_o4 q25.2
  have q27 := fp_o96 q26.2
  have q28 := fp_o46 q27.2
  have q29 := fp_o79 q28.2
  have q30 := fp_o132 (v := 1) q29.2 rfl
  have q31 := fp_o167 (v := (-36)) q30.2 rfl
  ⟨⟨⟨⟨⟨⟨q0.1, q1.1⟩, ⟨q2.1, q3.1⟩⟩, ⟨⟨q4.1, q5.1⟩, ⟨q6.1, q7.1⟩⟩⟩, ⟨⟨⟨q8.1, q9.1⟩, ⟨q10.1, q11.1⟩⟩, ⟨⟨q12.1, q13.1⟩, ⟨q14.1, q15.1⟩⟩⟩⟩, ⟨⟨⟨⟨q16.1, q17.1⟩, ⟨q18.1, q19.1⟩⟩, ⟨⟨q20.1, q21.1⟩, ⟨q22.1, q23.1⟩⟩⟩, ⟨⟨⟨q24.1, q25.1⟩, ⟨q26.1, q27.1⟩⟩, ⟨⟨q28.1, q29.1⟩, ⟨q30.1, q31.1⟩⟩⟩⟩⟩, q31.2⟩
theorem dX5_giveTo_54 : decode cX5_giveTo 54 = .ok (.aload_n 0, 1) := fp_hdX5_giveTo_54.1.1.1.1.1.1
theorem dX5_giveTo_55 : decode cX5_giveTo 55 = .ok (.getfield 18, 3) := fp_hdX5_giveTo_54.1.1.1.1.1.2
theorem dX5_giveTo_58 : decode cX5_giveTo 58 = .ok (.iload_n 3, 1) := fp_hdX5_giveTo_54.1.1.1.1.2.1
theorem dX5_giveTo_59 : decode cX5_giveTo 59 = .ok (.dup2, 1) := fp_hdX5_giveTo_54.1.1.1.1.2.2
theorem dX5_giveTo_60 : decode cX5_giveTo 60 = .ok (.iaload, 1) := fp_hdX5_giveTo_54.1.1.1.2.1.1
theorem dX5_giveTo_61 : decode cX5_giveTo 61 = .ok (.iconst 1, 1) := fp_hdX5_giveTo_54.1.1.1.2.1.2
theorem dX5_giveTo_62 : decode cX5_giveTo 62 = .ok (.isub, 1) := fp_hdX5_giveTo_54.1.1.1.2.2.1
theorem dX5_giveTo_63 : decode cX5_giveTo 63 = .ok (.iastore, 1) := fp_hdX5_giveTo_54.1.1.1.2.2.2
theorem dX5_giveTo_64 : decode cX5_giveTo 64 = .ok (.iload 5, 2) := fp_hdX5_giveTo_54.1.1.2.1.1.1
theorem dX5_giveTo_66 : decode cX5_giveTo 66 = .ok (.istore 7, 2) := fp_hdX5_giveTo_54.1.1.2.1.1.2
theorem dX5_giveTo_68 : decode cX5_giveTo 68 = .ok (.iload 7, 2) := fp_hdX5_giveTo_54.1.1.2.1.2.1
theorem dX5_giveTo_70 : decode cX5_giveTo 70 = .ok (.aload_n 0, 1) := fp_hdX5_giveTo_54.1.1.2.1.2.2
theorem dX5_giveTo_71 : decode cX5_giveTo 71 = .ok (.getfield 18, 3) := fp_hdX5_giveTo_54.1.1.2.2.1.1
theorem dX5_giveTo_74 : decode cX5_giveTo 74 = .ok (.iload_n 3, 1) := fp_hdX5_giveTo_54.1.1.2.2.1.2
theorem dX5_giveTo_75 : decode cX5_giveTo 75 = .ok (.iaload, 1) := fp_hdX5_giveTo_54.1.1.2.2.2.1
theorem dX5_giveTo_76 : decode cX5_giveTo 76 = .ok (.if_icmp .ge 31, 3) := fp_hdX5_giveTo_54.1.1.2.2.2.2
theorem dX5_giveTo_79 : decode cX5_giveTo 79 = .ok (.aload_n 0, 1) := fp_hdX5_giveTo_54.1.2.1.1.1.1
theorem dX5_giveTo_80 : decode cX5_giveTo 80 = .ok (.getfield 21, 3) := fp_hdX5_giveTo_54.1.2.1.1.1.2
theorem dX5_giveTo_83 : decode cX5_giveTo 83 = .ok (.iload 4, 2) := fp_hdX5_giveTo_54.1.2.1.1.2.1
theorem dX5_giveTo_85 : decode cX5_giveTo 85 = .ok (.iload 7, 2) := fp_hdX5_giveTo_54.1.2.1.1.2.2
theorem dX5_giveTo_87 : decode cX5_giveTo 87 = .ok (.iadd, 1) := fp_hdX5_giveTo_54.1.2.1.2.1.1
theorem dX5_giveTo_88 : decode cX5_giveTo 88 = .ok (.aload_n 0, 1) := fp_hdX5_giveTo_54.1.2.1.2.1.2
theorem dX5_giveTo_89 : decode cX5_giveTo 89 = .ok (.getfield 21, 3) := fp_hdX5_giveTo_54.1.2.1.2.2.1
theorem dX5_giveTo_92 : decode cX5_giveTo 92 = .ok (.iload 4, 2) := fp_hdX5_giveTo_54.1.2.1.2.2.2
theorem dX5_giveTo_94 : decode cX5_giveTo 94 = .ok (.iload 7, 2) := fp_hdX5_giveTo_54.1.2.2.1.1.1
theorem dX5_giveTo_96 : decode cX5_giveTo 96 = .ok (.iadd, 1) := fp_hdX5_giveTo_54.1.2.2.1.1.2
theorem dX5_giveTo_97 : decode cX5_giveTo 97 = .ok (.iconst 1, 1) := fp_hdX5_giveTo_54.1.2.2.1.2.1
theorem dX5_giveTo_98 : decode cX5_giveTo 98 = .ok (.iadd, 1) := fp_hdX5_giveTo_54.1.2.2.1.2.2
theorem dX5_giveTo_99 : decode cX5_giveTo 99 = .ok (.iaload, 1) := fp_hdX5_giveTo_54.1.2.2.2.1.1
theorem dX5_giveTo_100 : decode cX5_giveTo 100 = .ok (.iastore, 1) := fp_hdX5_giveTo_54.1.2.2.2.1.2
theorem dX5_giveTo_101 : decode cX5_giveTo 101 = .ok (.iinc 7 1, 3) := fp_hdX5_giveTo_54.1.2.2.2.2.1
theorem dX5_giveTo_104 : decode cX5_giveTo 104 = .ok (.goto (-36), 3) := fp_hdX5_giveTo_54.1.2.2.2.2.2
theorem fp_hdX5_giveTo_107 : ((((decode cX5_giveTo 107 = .ok (.aload_n 0, 1) ∧ decode cX5_giveTo 108 = .ok (.getfield 9, 3)) ∧ decode cX5_giveTo 111 = .ok (.iload 6, 2)) ∧ ((decode cX5_giveTo 113 = .ok (.iload_n 2, 1) ∧ decode cX5_giveTo 114 = .ok (.iastore, 1)) ∧ decode cX5_giveTo 115 = .ok (.aload_n 0, 1))) ∧ (((decode cX5_giveTo 116 = .ok (.getfield 15, 3) ∧ decode cX5_giveTo 119 = .ok (.iload 6, 2)) ∧ decode cX5_giveTo 121 = .ok (.bipush (-4), 2)) ∧ ((decode cX5_giveTo 123 = .ok (.iastore, 1) ∧ decode cX5_giveTo 124 = .ok (.iload 6, 2)) ∧ decode cX5_giveTo 126 = .ok (.ireturn, 1)))) ∧ bA cX5_giveTo 127 [] :=
  have q0 := fp_o42 fp_hdX5_giveTo_54.2
  have q1 := fp_o180 (v := 9) q0.2 rfl
  have q2 := fp_o21 q1.2
  have q3 := fp_o28 q2.2
  have q4 := fp_o79 q3.2
  have q5 := fp_o42 q4.2
  have q6 := fp_o180 (v := 15) q5.2 rfl
  have q7 := fp_o21 q6.2
  have q8 := fp_o16 (v := (-4)) q7.2 rfl
  have q9 := fp_o79 q8.2
  have q10 := fp_o21 q9.2
  have q11 := fp_o172 q10.2
  ⟨⟨⟨⟨⟨q0.1, q1.1⟩, q2.1⟩, ⟨⟨q3.1, q4.1⟩, q5.1⟩⟩, ⟨⟨⟨q6.1, q7.1⟩, q8.1⟩, ⟨⟨q9.1, q10.1⟩, q11.1⟩⟩⟩, q11.2⟩
theorem dX5_giveTo_107 : decode cX5_giveTo 107 = .ok (.aload_n 0, 1) := fp_hdX5_giveTo_107.1.1.1.1.1
theorem dX5_giveTo_108 : decode cX5_giveTo 108 = .ok (.getfield 9, 3) := fp_hdX5_giveTo_107.1.1.1.1.2
theorem dX5_giveTo_111 : decode cX5_giveTo 111 = .ok (.iload 6, 2) := fp_hdX5_giveTo_107.1.1.1.2
theorem dX5_giveTo_113 : decode cX5_giveTo 113 = .ok (.iload_n 2, 1) := fp_hdX5_giveTo_107.1.1.2.1.1
theorem dX5_giveTo_114 : decode cX5_giveTo 114 = .ok (.iastore, 1) := fp_hdX5_giveTo_107.1.1.2.1.2
theorem dX5_giveTo_115 : decode cX5_giveTo 115 = .ok (.aload_n 0, 1) := fp_hdX5_giveTo_107.1.1.2.2
theorem dX5_giveTo_116 : decode cX5_giveTo 116 = .ok (.getfield 15, 3) := fp_hdX5_giveTo_107.1.2.1.1.1
theorem dX5_giveTo_119 : decode cX5_giveTo 119 = .ok (.iload 6, 2) := fp_hdX5_giveTo_107.1.2.1.1.2
theorem dX5_giveTo_121 : decode cX5_giveTo 121 = .ok (.bipush (-4), 2) := fp_hdX5_giveTo_107.1.2.1.2
theorem dX5_giveTo_123 : decode cX5_giveTo 123 = .ok (.iastore, 1) := fp_hdX5_giveTo_107.1.2.2.1.1
theorem dX5_giveTo_124 : decode cX5_giveTo 124 = .ok (.iload 6, 2) := fp_hdX5_giveTo_107.1.2.2.1.2
theorem dX5_giveTo_126 : decode cX5_giveTo 126 = .ok (.ireturn, 1) := fp_hdX5_giveTo_107.1.2.2.2
def fp_scX5_append_0 : List Nat := 42 :: 180 :: 0 :: 9 :: 28 :: 46 :: 27 :: 160 :: 0 :: 22 :: 42 :: 28 :: 29 :: 42 :: 180 :: 0 :: 18 :: 29 :: 46 :: 182 :: 0 :: 53 :: 153 :: 0 :: 7 :: 4 :: 167 :: 0 :: 4 :: 3 :: 172 :: []
theorem fp_bcX5_append : bA cX5_append 0 fp_scX5_append_0 := show cX5_append.data.toList.map UInt8.toNat = fp_scX5_append_0 from by decide +kernel
theorem fp_hdX5_append_0 : (((((decode cX5_append 0 = .ok (.aload_n 0, 1) ∧ decode cX5_append 1 = .ok (.getfield 9, 3)) ∧ decode cX5_append 4 = .ok (.iload_n 2, 1)) ∧ (decode cX5_append 5 = .ok (.iaload, 1) ∧ decode cX5_append 6 = .ok (.iload_n 1, 1))) ∧ (((decode cX5_append 7 = .ok (.if_icmp .ne 22, 3) ∧ decode cX5_append 10 = .ok (.aload_n 0, 1)) ∧ decode cX5_append 11 = .ok (.iload_n 2, 1)) ∧ (decode cX5_append 12 = .ok (.iload_n 3, 1) ∧ decode cX5_append 13 = .ok (.aload_n 0, 1)))) ∧ ((((decode cX5_append 14 = .ok (.getfield 18, 3) ∧ decode cX5_append 17 = .ok (.iload_n 3, 1)) ∧ decode cX5_append 18 = .ok (.iaload, 1)) ∧ (decode cX5_append 19 = .ok (.invokevirtual 53, 3) ∧ decode cX5_append 22 = .ok (.ifCond .eq 7, 3))) ∧ ((decode cX5_append 25 = .ok (.iconst 1, 1) ∧ decode cX5_append 26 = .ok (.goto 4, 3)) ∧ (decode cX5_append 29 = .ok (.iconst 0, 1) ∧ decode cX5_append 30 = .ok (.ireturn, 1))))) ∧ bA cX5_append 31 [] :=
  have q0 := fp_o42 fp_bcX5_append
  have q1 := fp_o180 (v := 9) q0.2 rfl
  have q2 := fp_o28 q1.2
  have q3 := fp_o46 q2.2
  have q4 := fp_o27 q3.2
  have q5 := fp_o160 (v := 22) q4.2 rfl
  have q6 := fp_o42 q5.2
  have q7 := fp_o28 q6.2
  have q8 := fp_o29 q7.2
  have q9 := fp_o42 q8.2
  have q10 := fp_o180 (v := 18) q9.2 rfl
  have q11 := fp_o29 q10.2
  have q12 := fp_o46 q11.2
  have q13 := fp_o182 (v := 53) q12.2 rfl
  have q14 := fp_o153 (v := 7) q13.2 rfl
  have q15 := fp_o4 q14.2
  have q16 := fp_o167 (v := 4) q15.2 rfl
  have q17 := fp_o3 q16.2
  have q18 := fp_o172 q17.2
  ⟨⟨⟨⟨⟨⟨q0.1, q1.1⟩, q2.1⟩, ⟨q3.1, q4.1⟩⟩, ⟨⟨⟨q5.1, q6.1⟩, q7.1⟩, ⟨q8.1, q9.1⟩⟩⟩, ⟨⟨⟨⟨q10.1, q11.1⟩, q12.1⟩, ⟨q13.1, q14.1⟩⟩, ⟨⟨q15.1, q16.1⟩, ⟨q17.1, q18.1⟩⟩⟩⟩, q18.2⟩
theorem dX5_append_0 : decode cX5_append 0 = .ok (.aload_n 0, 1) := fp_hdX5_append_0.1.1.1.1.1.1
theorem dX5_append_1 : decode cX5_append 1 = .ok (.getfield 9, 3) := fp_hdX5_append_0.1.1.1.1.1.2
theorem dX5_append_4 : decode cX5_append 4 = .ok (.iload_n 2, 1) := fp_hdX5_append_0.1.1.1.1.2
theorem dX5_append_5 : decode cX5_append 5 = .ok (.iaload, 1) := fp_hdX5_append_0.1.1.1.2.1
theorem dX5_append_6 : decode cX5_append 6 = .ok (.iload_n 1, 1) := fp_hdX5_append_0.1.1.1.2.2
theorem dX5_append_7 : decode cX5_append 7 = .ok (.if_icmp .ne 22, 3) := fp_hdX5_append_0.1.1.2.1.1.1
theorem dX5_append_10 : decode cX5_append 10 = .ok (.aload_n 0, 1) := fp_hdX5_append_0.1.1.2.1.1.2
theorem dX5_append_11 : decode cX5_append 11 = .ok (.iload_n 2, 1) := fp_hdX5_append_0.1.1.2.1.2
theorem dX5_append_12 : decode cX5_append 12 = .ok (.iload_n 3, 1) := fp_hdX5_append_0.1.1.2.2.1
theorem dX5_append_13 : decode cX5_append 13 = .ok (.aload_n 0, 1) := fp_hdX5_append_0.1.1.2.2.2
theorem dX5_append_14 : decode cX5_append 14 = .ok (.getfield 18, 3) := fp_hdX5_append_0.1.2.1.1.1.1
theorem dX5_append_17 : decode cX5_append 17 = .ok (.iload_n 3, 1) := fp_hdX5_append_0.1.2.1.1.1.2
theorem dX5_append_18 : decode cX5_append 18 = .ok (.iaload, 1) := fp_hdX5_append_0.1.2.1.1.2
theorem dX5_append_19 : decode cX5_append 19 = .ok (.invokevirtual 53, 3) := fp_hdX5_append_0.1.2.1.2.1
theorem dX5_append_22 : decode cX5_append 22 = .ok (.ifCond .eq 7, 3) := fp_hdX5_append_0.1.2.1.2.2
theorem dX5_append_25 : decode cX5_append 25 = .ok (.iconst 1, 1) := fp_hdX5_append_0.1.2.2.1.1
theorem dX5_append_26 : decode cX5_append 26 = .ok (.goto 4, 3) := fp_hdX5_append_0.1.2.2.1.2
theorem dX5_append_29 : decode cX5_append 29 = .ok (.iconst 0, 1) := fp_hdX5_append_0.1.2.2.2.1
theorem dX5_append_30 : decode cX5_append 30 = .ok (.ireturn, 1) := fp_hdX5_append_0.1.2.2.2.2
def fp_scX5_insert_2 : List Nat := 96 :: 79 :: 4 :: 172 :: []
def fp_scX5_insert_1 : List Nat := 46 :: 79 :: 132 :: 5 :: 255 :: 167 :: 255 :: 225 :: 42 :: 180 :: 0 :: 21 :: 21 :: 4 :: 29 :: 96 :: 27 :: 79 :: 42 :: 180 :: 0 :: 18 :: 28 :: 92 :: 46 :: 4 :: 96 :: 79 :: 42 :: 180 :: 0 :: 15 :: 27 :: 42 :: 180 :: 0 :: 9 :: 27 :: 46 :: 79 :: 42 :: 180 :: 0 :: 9 :: 27 :: 16 :: 10 :: 28 :: fp_scX5_insert_2
def fp_scX5_insert_0 : List Nat := 42 :: 180 :: 0 :: 18 :: 28 :: 46 :: 16 :: 8 :: 161 :: 0 :: 5 :: 3 :: 172 :: 28 :: 16 :: 8 :: 104 :: 54 :: 4 :: 42 :: 180 :: 0 :: 18 :: 28 :: 46 :: 54 :: 5 :: 21 :: 5 :: 29 :: 164 :: 0 :: 31 :: 42 :: 180 :: 0 :: 21 :: 21 :: 4 :: 21 :: 5 :: 96 :: 42 :: 180 :: 0 :: 21 :: 21 :: 4 :: 21 :: 5 :: 96 :: 4 :: 100 :: fp_scX5_insert_1
theorem fp_bcX5_insert : bA cX5_insert 0 fp_scX5_insert_0 := show cX5_insert.data.toList.map UInt8.toNat = fp_scX5_insert_0 from by decide +kernel
theorem fp_hdX5_insert_0 : (((((decode cX5_insert 0 = .ok (.aload_n 0, 1) ∧ decode cX5_insert 1 = .ok (.getfield 18, 3)) ∧ (decode cX5_insert 4 = .ok (.iload_n 2, 1) ∧ decode cX5_insert 5 = .ok (.iaload, 1))) ∧ ((decode cX5_insert 6 = .ok (.bipush 8, 2) ∧ decode cX5_insert 8 = .ok (.if_icmp .lt 5, 3)) ∧ (decode cX5_insert 11 = .ok (.iconst 0, 1) ∧ decode cX5_insert 12 = .ok (.ireturn, 1)))) ∧ (((decode cX5_insert 13 = .ok (.iload_n 2, 1) ∧ decode cX5_insert 14 = .ok (.bipush 8, 2)) ∧ (decode cX5_insert 16 = .ok (.imul, 1) ∧ decode cX5_insert 17 = .ok (.istore 4, 2))) ∧ ((decode cX5_insert 19 = .ok (.aload_n 0, 1) ∧ decode cX5_insert 20 = .ok (.getfield 18, 3)) ∧ (decode cX5_insert 23 = .ok (.iload_n 2, 1) ∧ decode cX5_insert 24 = .ok (.iaload, 1))))) ∧ ((((decode cX5_insert 25 = .ok (.istore 5, 2) ∧ decode cX5_insert 27 = .ok (.iload 5, 2)) ∧ (decode cX5_insert 29 = .ok (.iload_n 3, 1) ∧ decode cX5_insert 30 = .ok (.if_icmp .le 31, 3))) ∧ ((decode cX5_insert 33 = .ok (.aload_n 0, 1) ∧ decode cX5_insert 34 = .ok (.getfield 21, 3)) ∧ (decode cX5_insert 37 = .ok (.iload 4, 2) ∧ decode cX5_insert 39 = .ok (.iload 5, 2)))) ∧ (((decode cX5_insert 41 = .ok (.iadd, 1) ∧ decode cX5_insert 42 = .ok (.aload_n 0, 1)) ∧ (decode cX5_insert 43 = .ok (.getfield 21, 3) ∧ decode cX5_insert 46 = .ok (.iload 4, 2))) ∧ ((decode cX5_insert 48 = .ok (.iload 5, 2) ∧ decode cX5_insert 50 = .ok (.iadd, 1)) ∧ (decode cX5_insert 51 = .ok (.iconst 1, 1) ∧ decode cX5_insert 52 = .ok (.isub, 1)))))) ∧ bA cX5_insert 53 fp_scX5_insert_1 :=
  have q0 := fp_o42 fp_bcX5_insert
  have q1 := fp_o180 (v := 18) q0.2 rfl
  have q2 := fp_o28 q1.2
  have q3 := fp_o46 q2.2
  have q4 := fp_o16 (v := 8) q3.2 rfl
  have q5 := fp_o161 (v := 5) q4.2 rfl
  have q6 := fp_o3 q5.2
  have q7 := fp_o172 q6.2
  have q8 := fp_o28 q7.2
  have q9 := fp_o16 (v := 8) q8.2 rfl
  have q10 := fp_o104 q9.2
  have q11 := fp_o54 q10.2
  have q12 := fp_o42 q11.2
  have q13 := fp_o180 (v := 18) q12.2 rfl
  have q14 := fp_o28 q13.2
  have q15 := fp_o46 q14.2
  have q16 := fp_o54 q15.2
  have q17 := fp_o21 q16.2
  have q18 := fp_o29 q17.2
  have q19 := fp_o164 (v := 31) q18.2 rfl
  have q20 := fp_o42 q19.2
  have q21 := fp_o180 (v := 21) q20.2 rfl
  have q22 := fp_o21 q21.2
  have q23 := fp_o21 q22.2
  have q24 := fp_o96 q23.2
  have q25 := fp_o42 q24.2
  have q26 := fp_o180 (v := 21) q25.2 rfl
  have q27 := fp_o21 q26.2
  have q28 := fp_o21 q27.2
  have q29 := fp_o96 q28.2
  have q30 := fp_o4 q29.2
  have q31 := fp_o100 q30.2
  ⟨⟨⟨⟨⟨⟨q0.1, q1.1⟩, ⟨q2.1, q3.1⟩⟩, ⟨⟨q4.1, q5.1⟩, ⟨q6.1, q7.1⟩⟩⟩, ⟨⟨⟨q8.1, q9.1⟩, ⟨q10.1, q11.1⟩⟩, ⟨⟨q12.1, q13.1⟩, ⟨q14.1, q15.1⟩⟩⟩⟩, ⟨⟨⟨⟨q16.1, q17.1⟩, ⟨q18.1, q19.1⟩⟩, ⟨⟨q20.1, q21.1⟩, ⟨q22.1, q23.1⟩⟩⟩, ⟨⟨⟨q24.1, q25.1⟩, ⟨q26.1, q27.1⟩⟩, ⟨⟨q28.1, q29.1⟩, ⟨q30.1, q31.1⟩⟩⟩⟩⟩, q31.2⟩
theorem dX5_insert_0 : decode cX5_insert 0 = .ok (.aload_n 0, 1) := fp_hdX5_insert_0.1.1.1.1.1.1
theorem dX5_insert_1 : decode cX5_insert 1 = .ok (.getfield 18, 3) := fp_hdX5_insert_0.1.1.1.1.1.2
theorem dX5_insert_4 : decode cX5_insert 4 = .ok (.iload_n 2, 1) := fp_hdX5_insert_0.1.1.1.1.2.1
theorem dX5_insert_5 : decode cX5_insert 5 = .ok (.iaload, 1) := fp_hdX5_insert_0.1.1.1.1.2.2
theorem dX5_insert_6 : decode cX5_insert 6 = .ok (.bipush 8, 2) := fp_hdX5_insert_0.1.1.1.2.1.1
theorem dX5_insert_8 : decode cX5_insert 8 = .ok (.if_icmp .lt 5, 3) := fp_hdX5_insert_0.1.1.1.2.1.2
theorem dX5_insert_11 : decode cX5_insert 11 = .ok (.iconst 0, 1) := fp_hdX5_insert_0.1.1.1.2.2.1
theorem dX5_insert_12 : decode cX5_insert 12 = .ok (.ireturn, 1) := fp_hdX5_insert_0.1.1.1.2.2.2
theorem dX5_insert_13 : decode cX5_insert 13 = .ok (.iload_n 2, 1) := fp_hdX5_insert_0.1.1.2.1.1.1
theorem dX5_insert_14 : decode cX5_insert 14 = .ok (.bipush 8, 2) := fp_hdX5_insert_0.1.1.2.1.1.2
theorem dX5_insert_16 : decode cX5_insert 16 = .ok (.imul, 1) := fp_hdX5_insert_0.1.1.2.1.2.1
theorem dX5_insert_17 : decode cX5_insert 17 = .ok (.istore 4, 2) := fp_hdX5_insert_0.1.1.2.1.2.2
theorem dX5_insert_19 : decode cX5_insert 19 = .ok (.aload_n 0, 1) := fp_hdX5_insert_0.1.1.2.2.1.1
theorem dX5_insert_20 : decode cX5_insert 20 = .ok (.getfield 18, 3) := fp_hdX5_insert_0.1.1.2.2.1.2
theorem dX5_insert_23 : decode cX5_insert 23 = .ok (.iload_n 2, 1) := fp_hdX5_insert_0.1.1.2.2.2.1
theorem dX5_insert_24 : decode cX5_insert 24 = .ok (.iaload, 1) := fp_hdX5_insert_0.1.1.2.2.2.2
theorem dX5_insert_25 : decode cX5_insert 25 = .ok (.istore 5, 2) := fp_hdX5_insert_0.1.2.1.1.1.1
theorem dX5_insert_27 : decode cX5_insert 27 = .ok (.iload 5, 2) := fp_hdX5_insert_0.1.2.1.1.1.2
theorem dX5_insert_29 : decode cX5_insert 29 = .ok (.iload_n 3, 1) := fp_hdX5_insert_0.1.2.1.1.2.1
theorem dX5_insert_30 : decode cX5_insert 30 = .ok (.if_icmp .le 31, 3) := fp_hdX5_insert_0.1.2.1.1.2.2
theorem dX5_insert_33 : decode cX5_insert 33 = .ok (.aload_n 0, 1) := fp_hdX5_insert_0.1.2.1.2.1.1
theorem dX5_insert_34 : decode cX5_insert 34 = .ok (.getfield 21, 3) := fp_hdX5_insert_0.1.2.1.2.1.2
theorem dX5_insert_37 : decode cX5_insert 37 = .ok (.iload 4, 2) := fp_hdX5_insert_0.1.2.1.2.2.1
theorem dX5_insert_39 : decode cX5_insert 39 = .ok (.iload 5, 2) := fp_hdX5_insert_0.1.2.1.2.2.2
theorem dX5_insert_41 : decode cX5_insert 41 = .ok (.iadd, 1) := fp_hdX5_insert_0.1.2.2.1.1.1
theorem dX5_insert_42 : decode cX5_insert 42 = .ok (.aload_n 0, 1) := fp_hdX5_insert_0.1.2.2.1.1.2
theorem dX5_insert_43 : decode cX5_insert 43 = .ok (.getfield 21, 3) := fp_hdX5_insert_0.1.2.2.1.2.1
theorem dX5_insert_46 : decode cX5_insert 46 = .ok (.iload 4, 2) := fp_hdX5_insert_0.1.2.2.1.2.2
theorem dX5_insert_48 : decode cX5_insert 48 = .ok (.iload 5, 2) := fp_hdX5_insert_0.1.2.2.2.1.1
theorem dX5_insert_50 : decode cX5_insert 50 = .ok (.iadd, 1) := fp_hdX5_insert_0.1.2.2.2.1.2
theorem dX5_insert_51 : decode cX5_insert 51 = .ok (.iconst 1, 1) := fp_hdX5_insert_0.1.2.2.2.2.1
theorem dX5_insert_52 : decode cX5_insert 52 = .ok (.isub, 1) := fp_hdX5_insert_0.1.2.2.2.2.2
theorem fp_hdX5_insert_53 : (((((decode cX5_insert 53 = .ok (.iaload, 1) ∧ decode cX5_insert 54 = .ok (.iastore, 1)) ∧ (decode cX5_insert 55 = .ok (.iinc 5 (-1), 3) ∧ decode cX5_insert 58 = .ok (.goto (-31), 3))) ∧ ((decode cX5_insert 61 = .ok (.aload_n 0, 1) ∧ decode cX5_insert 62 = .ok (.getfield 21, 3)) ∧ (decode cX5_insert 65 = .ok (.iload 4, 2) ∧ decode cX5_insert 67 = .ok (.iload_n 3, 1)))) ∧ (((decode cX5_insert 68 = .ok (.iadd, 1) ∧ decode cX5_insert 69 = .ok (.iload_n 1, 1)) ∧ (decode cX5_insert 70 = .ok (.iastore, 1) ∧ decode cX5_insert 71 = .ok (.aload_n 0, 1))) ∧ ((decode cX5_insert 72 = .ok (.getfield 18, 3) ∧ decode cX5_insert 75 = .ok (.iload_n 2, 1)) ∧ (decode cX5_insert 76 = .ok (.dup2, 1) ∧ decode cX5_insert 77 = .ok (.iaload, 1))))) ∧ ((((decode cX5_insert 78 = .ok (.iconst 1, 1) ∧ decode cX5_insert 79 = .ok (.iadd, 1)) ∧ (decode cX5_insert 80 = .ok (.iastore, 1) ∧ decode cX5_insert 81 = .ok (.aload_n 0, 1))) ∧ ((decode cX5_insert 82 = .ok (.getfield 15, 3) ∧ decode cX5_insert 85 = .ok (.iload_n 1, 1)) ∧ (decode cX5_insert 86 = .ok (.aload_n 0, 1) ∧ decode cX5_insert 87 = .ok (.getfield 9, 3)))) ∧ (((decode cX5_insert 90 = .ok (.iload_n 1, 1) ∧ decode cX5_insert 91 = .ok (.iaload, 1)) ∧ (decode cX5_insert 92 = .ok (.iastore, 1) ∧ decode cX5_insert 93 = .ok (.aload_n 0, 1))) ∧ ((decode cX5_insert 94 = .ok (.getfield 9, 3) ∧ decode cX5_insert 97 = .ok (.iload_n 1, 1)) ∧ (decode cX5_insert 98 = .ok (.bipush 10, 2) ∧ decode cX5_insert 100 = .ok (.iload_n 2, 1)))))) ∧ bA cX5_insert 101 fp_scX5_insert_2 :=
  have q0 := fp_o46 fp_hdX5_insert_0.2
  have q1 := fp_o79 q0.2
  have q2 := fp_o132 (v := (-1)) q1.2 rfl
  have q3 := fp_o167 (v := (-31)) q2.2 rfl
  have q4 := fp_o42 q3.2
  have q5 := fp_o180 (v := 21) q4.2 rfl
  have q6 := fp_o21 q5.2
  have q7 := fp_o29 q6.2
  have q8 := fp_o96 q7.2
  have q9 := fp_o27 q8.2
  have q10 := fp_o79 q9.2
  have q11 := fp_o42 q10.2
  have q12 := fp_o180 (v := 18) q11.2 rfl
  have q13 := fp_o28 q12.2
  have q14 := fp_o92 q13.2
  have q15 := fp_o46 q14.2
  have q16 := fp_o4 q15.2
  have q17 := fp_o96 q16.2
  have q18 := fp_o79 q17.2
  have q19 := fp_o42 q18.2
  have q20 := fp_o180 (v := 15) q19.2 rfl
  have q21 := fp_o27 q20.2
  have q22 := fp_o42 q21.2
  have q23 := fp_o180 (v := 9) q22.2 rfl
  have q24 := fp_o27 q23.2
  have q25 := fp_o46 q24.2
  have q26 := fp_o79 q25.2
  have q27 := fp_o42 q26.2
  have q28 := fp_o180 (v := 9) q27.2 rfl
  have q29 := fp_o27 q28.2
  have q30 := fp_o16 (v := 10) q29.2 rfl
  have q31 := fp_o28 q30.2
  ⟨⟨⟨⟨⟨⟨q0.1, q1.1⟩, ⟨q2.1, q3.1⟩⟩, ⟨⟨q4.1, q5.1⟩, ⟨q6.1, q7.1⟩⟩⟩, ⟨⟨⟨q8.1, q9.1⟩, ⟨q10.1, q11.1⟩⟩, ⟨⟨q12.1, q13.1⟩, ⟨q14.1, q15.1⟩⟩⟩⟩, ⟨⟨⟨⟨q16.1, q17.1⟩, ⟨q18.1, q19.1⟩⟩, ⟨⟨q20.1, q21.1⟩, ⟨q22.1, q23.1⟩⟩⟩, ⟨⟨⟨q24.1, q25.1⟩, ⟨q26.1, q27.1⟩⟩, ⟨⟨q28.1, q29.1⟩, ⟨q30.1, q31.1⟩⟩⟩⟩⟩, q31.2⟩
theorem dX5_insert_53 : decode cX5_insert 53 = .ok (.iaload, 1) := fp_hdX5_insert_53.1.1.1.1.1.1
theorem dX5_insert_54 : decode cX5_insert 54 = .ok (.iastore, 1) := fp_hdX5_insert_53.1.1.1.1.1.2
theorem dX5_insert_55 : decode cX5_insert 55 = .ok (.iinc 5 (-1), 3) := fp_hdX5_insert_53.1.1.1.1.2.1
theorem dX5_insert_58 : decode cX5_insert 58 = .ok (.goto (-31), 3) := fp_hdX5_insert_53.1.1.1.1.2.2
theorem dX5_insert_61 : decode cX5_insert 61 = .ok (.aload_n 0, 1) := fp_hdX5_insert_53.1.1.1.2.1.1
theorem dX5_insert_62 : decode cX5_insert 62 = .ok (.getfield 21, 3) := fp_hdX5_insert_53.1.1.1.2.1.2
theorem dX5_insert_65 : decode cX5_insert 65 = .ok (.iload 4, 2) := fp_hdX5_insert_53.1.1.1.2.2.1
theorem dX5_insert_67 : decode cX5_insert 67 = .ok (.iload_n 3, 1) := fp_hdX5_insert_53.1.1.1.2.2.2
theorem dX5_insert_68 : decode cX5_insert 68 = .ok (.iadd, 1) := fp_hdX5_insert_53.1.1.2.1.1.1
theorem dX5_insert_69 : decode cX5_insert 69 = .ok (.iload_n 1, 1) := fp_hdX5_insert_53.1.1.2.1.1.2
theorem dX5_insert_70 : decode cX5_insert 70 = .ok (.iastore, 1) := fp_hdX5_insert_53.1.1.2.1.2.1
theorem dX5_insert_71 : decode cX5_insert 71 = .ok (.aload_n 0, 1) := fp_hdX5_insert_53.1.1.2.1.2.2
theorem dX5_insert_72 : decode cX5_insert 72 = .ok (.getfield 18, 3) := fp_hdX5_insert_53.1.1.2.2.1.1
theorem dX5_insert_75 : decode cX5_insert 75 = .ok (.iload_n 2, 1) := fp_hdX5_insert_53.1.1.2.2.1.2
theorem dX5_insert_76 : decode cX5_insert 76 = .ok (.dup2, 1) := fp_hdX5_insert_53.1.1.2.2.2.1
theorem dX5_insert_77 : decode cX5_insert 77 = .ok (.iaload, 1) := fp_hdX5_insert_53.1.1.2.2.2.2
theorem dX5_insert_78 : decode cX5_insert 78 = .ok (.iconst 1, 1) := fp_hdX5_insert_53.1.2.1.1.1.1
theorem dX5_insert_79 : decode cX5_insert 79 = .ok (.iadd, 1) := fp_hdX5_insert_53.1.2.1.1.1.2
theorem dX5_insert_80 : decode cX5_insert 80 = .ok (.iastore, 1) := fp_hdX5_insert_53.1.2.1.1.2.1
theorem dX5_insert_81 : decode cX5_insert 81 = .ok (.aload_n 0, 1) := fp_hdX5_insert_53.1.2.1.1.2.2
theorem dX5_insert_82 : decode cX5_insert 82 = .ok (.getfield 15, 3) := fp_hdX5_insert_53.1.2.1.2.1.1
theorem dX5_insert_85 : decode cX5_insert 85 = .ok (.iload_n 1, 1) := fp_hdX5_insert_53.1.2.1.2.1.2
theorem dX5_insert_86 : decode cX5_insert 86 = .ok (.aload_n 0, 1) := fp_hdX5_insert_53.1.2.1.2.2.1
theorem dX5_insert_87 : decode cX5_insert 87 = .ok (.getfield 9, 3) := fp_hdX5_insert_53.1.2.1.2.2.2
theorem dX5_insert_90 : decode cX5_insert 90 = .ok (.iload_n 1, 1) := fp_hdX5_insert_53.1.2.2.1.1.1
theorem dX5_insert_91 : decode cX5_insert 91 = .ok (.iaload, 1) := fp_hdX5_insert_53.1.2.2.1.1.2
theorem dX5_insert_92 : decode cX5_insert 92 = .ok (.iastore, 1) := fp_hdX5_insert_53.1.2.2.1.2.1
theorem dX5_insert_93 : decode cX5_insert 93 = .ok (.aload_n 0, 1) := fp_hdX5_insert_53.1.2.2.1.2.2
theorem dX5_insert_94 : decode cX5_insert 94 = .ok (.getfield 9, 3) := fp_hdX5_insert_53.1.2.2.2.1.1
theorem dX5_insert_97 : decode cX5_insert 97 = .ok (.iload_n 1, 1) := fp_hdX5_insert_53.1.2.2.2.1.2
theorem dX5_insert_98 : decode cX5_insert 98 = .ok (.bipush 10, 2) := fp_hdX5_insert_53.1.2.2.2.2.1
theorem dX5_insert_100 : decode cX5_insert 100 = .ok (.iload_n 2, 1) := fp_hdX5_insert_53.1.2.2.2.2.2
theorem fp_hdX5_insert_101 : ((decode cX5_insert 101 = .ok (.iadd, 1) ∧ decode cX5_insert 102 = .ok (.iastore, 1)) ∧ (decode cX5_insert 103 = .ok (.iconst 1, 1) ∧ decode cX5_insert 104 = .ok (.ireturn, 1))) ∧ bA cX5_insert 105 [] :=
  have q0 := fp_o96 fp_hdX5_insert_53.2
  have q1 := fp_o79 q0.2
  have q2 := fp_o4 q1.2
  have q3 := fp_o172 q2.2
  ⟨⟨⟨q0.1, q1.1⟩, ⟨q2.1, q3.1⟩⟩, q3.2⟩
theorem dX5_insert_101 : decode cX5_insert 101 = .ok (.iadd, 1) := fp_hdX5_insert_101.1.1.1
theorem dX5_insert_102 : decode cX5_insert 102 = .ok (.iastore, 1) := fp_hdX5_insert_101.1.1.2
theorem dX5_insert_103 : decode cX5_insert 103 = .ok (.iconst 1, 1) := fp_hdX5_insert_101.1.2.1
theorem dX5_insert_104 : decode cX5_insert 104 = .ok (.ireturn, 1) := fp_hdX5_insert_101.1.2.2
def fp_scX7_init_0 : List Nat := 42 :: 183 :: 0 :: 3 :: 42 :: 7 :: 188 :: 10 :: 181 :: 0 :: 9 :: 42 :: 7 :: 188 :: 10 :: 181 :: 0 :: 15 :: 42 :: 7 :: 188 :: 10 :: 181 :: 0 :: 18 :: 42 :: 7 :: 188 :: 10 :: 181 :: 0 :: 21 :: 177 :: []
theorem fp_bcX7_init : bA cX7_init 0 fp_scX7_init_0 := show cX7_init.data.toList.map UInt8.toNat = fp_scX7_init_0 from by decide +kernel
theorem fp_hdX7_init_0 : (((((decode cX7_init 0 = .ok (.aload_n 0, 1) ∧ decode cX7_init 1 = .ok (.invokespecial 3, 3)) ∧ decode cX7_init 4 = .ok (.aload_n 0, 1)) ∧ (decode cX7_init 5 = .ok (.iconst 4, 1) ∧ decode cX7_init 6 = .ok (.newarray .int, 2))) ∧ (((decode cX7_init 8 = .ok (.putfield 9, 3) ∧ decode cX7_init 11 = .ok (.aload_n 0, 1)) ∧ decode cX7_init 12 = .ok (.iconst 4, 1)) ∧ (decode cX7_init 13 = .ok (.newarray .int, 2) ∧ decode cX7_init 15 = .ok (.putfield 15, 3)))) ∧ ((((decode cX7_init 18 = .ok (.aload_n 0, 1) ∧ decode cX7_init 19 = .ok (.iconst 4, 1)) ∧ decode cX7_init 20 = .ok (.newarray .int, 2)) ∧ (decode cX7_init 22 = .ok (.putfield 18, 3) ∧ decode cX7_init 25 = .ok (.aload_n 0, 1))) ∧ ((decode cX7_init 26 = .ok (.iconst 4, 1) ∧ decode cX7_init 27 = .ok (.newarray .int, 2)) ∧ (decode cX7_init 29 = .ok (.putfield 21, 3) ∧ decode cX7_init 32 = .ok (.return_, 1))))) ∧ bA cX7_init 33 [] :=
  have q0 := fp_o42 fp_bcX7_init
  have q1 := fp_o183 (v := 3) q0.2 rfl
  have q2 := fp_o42 q1.2
  have q3 := fp_o7 q2.2
  have q4 := fp_o188_10 q3.2
  have q5 := fp_o181 (v := 9) q4.2 rfl
  have q6 := fp_o42 q5.2
  have q7 := fp_o7 q6.2
  have q8 := fp_o188_10 q7.2
  have q9 := fp_o181 (v := 15) q8.2 rfl
  have q10 := fp_o42 q9.2
  have q11 := fp_o7 q10.2
  have q12 := fp_o188_10 q11.2
  have q13 := fp_o181 (v := 18) q12.2 rfl
  have q14 := fp_o42 q13.2
  have q15 := fp_o7 q14.2
  have q16 := fp_o188_10 q15.2
  have q17 := fp_o181 (v := 21) q16.2 rfl
  have q18 := fp_o177 q17.2
  ⟨⟨⟨⟨⟨⟨q0.1, q1.1⟩, q2.1⟩, ⟨q3.1, q4.1⟩⟩, ⟨⟨⟨q5.1, q6.1⟩, q7.1⟩, ⟨q8.1, q9.1⟩⟩⟩, ⟨⟨⟨⟨q10.1, q11.1⟩, q12.1⟩, ⟨q13.1, q14.1⟩⟩, ⟨⟨q15.1, q16.1⟩, ⟨q17.1, q18.1⟩⟩⟩⟩, q18.2⟩
theorem dX7_init_0 : decode cX7_init 0 = .ok (.aload_n 0, 1) := fp_hdX7_init_0.1.1.1.1.1.1
theorem dX7_init_1 : decode cX7_init 1 = .ok (.invokespecial 3, 3) := fp_hdX7_init_0.1.1.1.1.1.2
theorem dX7_init_4 : decode cX7_init 4 = .ok (.aload_n 0, 1) := fp_hdX7_init_0.1.1.1.1.2
theorem dX7_init_5 : decode cX7_init 5 = .ok (.iconst 4, 1) := fp_hdX7_init_0.1.1.1.2.1
theorem dX7_init_6 : decode cX7_init 6 = .ok (.newarray .int, 2) := fp_hdX7_init_0.1.1.1.2.2
theorem dX7_init_8 : decode cX7_init 8 = .ok (.putfield 9, 3) := fp_hdX7_init_0.1.1.2.1.1.1
theorem dX7_init_11 : decode cX7_init 11 = .ok (.aload_n 0, 1) := fp_hdX7_init_0.1.1.2.1.1.2
theorem dX7_init_12 : decode cX7_init 12 = .ok (.iconst 4, 1) := fp_hdX7_init_0.1.1.2.1.2
theorem dX7_init_13 : decode cX7_init 13 = .ok (.newarray .int, 2) := fp_hdX7_init_0.1.1.2.2.1
theorem dX7_init_15 : decode cX7_init 15 = .ok (.putfield 15, 3) := fp_hdX7_init_0.1.1.2.2.2
theorem dX7_init_18 : decode cX7_init 18 = .ok (.aload_n 0, 1) := fp_hdX7_init_0.1.2.1.1.1.1
theorem dX7_init_19 : decode cX7_init 19 = .ok (.iconst 4, 1) := fp_hdX7_init_0.1.2.1.1.1.2
theorem dX7_init_20 : decode cX7_init 20 = .ok (.newarray .int, 2) := fp_hdX7_init_0.1.2.1.1.2
theorem dX7_init_22 : decode cX7_init 22 = .ok (.putfield 18, 3) := fp_hdX7_init_0.1.2.1.2.1
theorem dX7_init_25 : decode cX7_init 25 = .ok (.aload_n 0, 1) := fp_hdX7_init_0.1.2.1.2.2
theorem dX7_init_26 : decode cX7_init 26 = .ok (.iconst 4, 1) := fp_hdX7_init_0.1.2.2.1.1
theorem dX7_init_27 : decode cX7_init 27 = .ok (.newarray .int, 2) := fp_hdX7_init_0.1.2.2.1.2
theorem dX7_init_29 : decode cX7_init 29 = .ok (.putfield 21, 3) := fp_hdX7_init_0.1.2.2.2.1
theorem dX7_init_32 : decode cX7_init 32 = .ok (.return_, 1) := fp_hdX7_init_0.1.2.2.2.2
def fp_scX7_form_1 : List Nat := 126 :: 181 :: 0 :: 36 :: 132 :: 3 :: 1 :: 167 :: 255 :: 201 :: 177 :: []
def fp_scX7_form_0 : List Nat := 42 :: 44 :: 182 :: 0 :: 24 :: 3 :: 62 :: 29 :: 7 :: 162 :: 0 :: 56 :: 42 :: 43 :: 182 :: 0 :: 28 :: 3 :: 54 :: 4 :: 3 :: 54 :: 5 :: 21 :: 5 :: 7 :: 162 :: 0 :: 20 :: 21 :: 4 :: 42 :: 21 :: 5 :: 182 :: 0 :: 32 :: 128 :: 54 :: 4 :: 132 :: 5 :: 1 :: 167 :: 255 :: 236 :: 42 :: 89 :: 180 :: 0 :: 36 :: 21 :: 4 :: 2 :: 130 :: fp_scX7_form_1
theorem fp_bcX7_form : bA cX7_form 0 fp_scX7_form_0 := show cX7_form.data.toList.map UInt8.toNat = fp_scX7_form_0 from by decide +kernel
theorem fp_hdX7_form_0 : (((((decode cX7_form 0 = .ok (.aload_n 0, 1) ∧ decode cX7_form 1 = .ok (.aload_n 2, 1)) ∧ (decode cX7_form 2 = .ok (.invokevirtual 24, 3) ∧ decode cX7_form 5 = .ok (.iconst 0, 1))) ∧ ((decode cX7_form 6 = .ok (.istore_n 3, 1) ∧ decode cX7_form 7 = .ok (.iload_n 3, 1)) ∧ (decode cX7_form 8 = .ok (.iconst 4, 1) ∧ decode cX7_form 9 = .ok (.if_icmp .ge 56, 3)))) ∧ (((decode cX7_form 12 = .ok (.aload_n 0, 1) ∧ decode cX7_form 13 = .ok (.aload_n 1, 1)) ∧ (decode cX7_form 14 = .ok (.invokevirtual 28, 3) ∧ decode cX7_form 17 = .ok (.iconst 0, 1))) ∧ ((decode cX7_form 18 = .ok (.istore 4, 2) ∧ decode cX7_form 20 = .ok (.iconst 0, 1)) ∧ (decode cX7_form 21 = .ok (.istore 5, 2) ∧ decode cX7_form 23 = .ok (.iload 5, 2))))) ∧ ((((decode cX7_form 25 = .ok (.iconst 4, 1) ∧ decode cX7_form 26 = .ok (.if_icmp .ge 20, 3)) ∧ (decode cX7_form 29 = .ok (.iload 4, 2) ∧ decode cX7_form 31 = .ok (.aload_n 0, 1))) ∧ ((decode cX7_form 32 = .ok (.iload 5, 2) ∧ decode cX7_form 34 = .ok (.invokevirtual 32, 3)) ∧ (decode cX7_form 37 = .ok (.ior, 1) ∧ decode cX7_form 38 = .ok (.istore 4, 2)))) ∧ (((decode cX7_form 40 = .ok (.iinc 5 1, 3) ∧ decode cX7_form 43 = .ok (.goto (-20), 3)) ∧ (decode cX7_form 46 = .ok (.aload_n 0, 1) ∧ decode cX7_form 47 = .ok (.dup, 1))) ∧ ((decode cX7_form 48 = .ok (.getfield 36, 3) ∧ decode cX7_form 51 = .ok (.iload 4, 2)) ∧ (decode cX7_form 53 = .ok (.iconst (-1), 1) ∧ decode cX7_form 54 = .ok (.ixor, 1)))))) ∧ bA cX7_form 55 fp_scX7_form_1 :=
  have q0 := fp_o42 fp_bcX7_form
  have q1 := fp_o44 q0.2
  have q2 := fp_o182 (v := 24) q1.2 rfl
  have q3 := fp_o3 q2.2
  have q4 := fp_o62 q3.2
  have q5 := fp_o29 q4.2
  have q6 := fp_o7 q5.2
  have q7 := fp_o162 (v := 56) q6.2 rfl
  have q8 := fp_o42 q7.2
  have q9 := fp_o43 q8.2
  have q10 := fp_o182 (v := 28) q9.2 rfl
  have q11 := fp_o3 q10.2
  have q12 := fp_o54 q11.2
  have q13 := fp_o3 q12.2
  have q14 := fp_o54 q13.2
  have q15 := fp_o21 q14.2
  have q16 := fp_o7 q15.2
  have q17 := fp_o162 (v := 20) q16.2 rfl
  have q18 := fp_o21 q17.2
  have q19 := fp_o42 q18.2
  have q20 := fp_o21 q19.2
  have q21 := fp_o182 (v := 32) q20.2 rfl
  have q22 := fp_o128 q21.2
  have q23 := fp_o54 q22.2
  have q24 := fp_o132 (v := 1) q23.2 rfl
  have q25 := fp_o167 (v := (-20)) q24.2 rfl
  have q26 := fp_o42 q25.2
  have q27 := fp_o89 q26.2
  have q28 := fp_o180 (v := 36) q27.2 rfl
  have q29 := fp_o21 q28.2
  have q30 := fp_o2 q29.2
  have q31 := fp_o130 q30.2
  ⟨⟨⟨⟨⟨⟨q0.1, q1.1⟩, ⟨q2.1, q3.1⟩⟩, ⟨⟨q4.1, q5.1⟩, ⟨q6.1, q7.1⟩⟩⟩, ⟨⟨⟨q8.1, q9.1⟩, ⟨q10.1, q11.1⟩⟩, ⟨⟨q12.1, q13.1⟩, ⟨q14.1, q15.1⟩⟩⟩⟩, ⟨⟨⟨⟨q16.1, q17.1⟩, ⟨q18.1, q19.1⟩⟩, ⟨⟨q20.1, q21.1⟩, ⟨q22.1, q23.1⟩⟩⟩, ⟨⟨⟨q24.1, q25.1⟩, ⟨q26.1, q27.1⟩⟩, ⟨⟨q28.1, q29.1⟩, ⟨q30.1, q31.1⟩⟩⟩⟩⟩, q31.2⟩
theorem dX7_form_0 : decode cX7_form 0 = .ok (.aload_n 0, 1) := fp_hdX7_form_0.1.1.1.1.1.1
theorem dX7_form_1 : decode cX7_form 1 = .ok (.aload_n 2, 1) := fp_hdX7_form_0.1.1.1.1.1.2
theorem dX7_form_2 : decode cX7_form 2 = .ok (.invokevirtual 24, 3) := fp_hdX7_form_0.1.1.1.1.2.1
theorem dX7_form_5 : decode cX7_form 5 = .ok (.iconst 0, 1) := fp_hdX7_form_0.1.1.1.1.2.2
theorem dX7_form_6 : decode cX7_form 6 = .ok (.istore_n 3, 1) := fp_hdX7_form_0.1.1.1.2.1.1
theorem dX7_form_7 : decode cX7_form 7 = .ok (.iload_n 3, 1) := fp_hdX7_form_0.1.1.1.2.1.2
theorem dX7_form_8 : decode cX7_form 8 = .ok (.iconst 4, 1) := fp_hdX7_form_0.1.1.1.2.2.1
theorem dX7_form_9 : decode cX7_form 9 = .ok (.if_icmp .ge 56, 3) := fp_hdX7_form_0.1.1.1.2.2.2
theorem dX7_form_12 : decode cX7_form 12 = .ok (.aload_n 0, 1) := fp_hdX7_form_0.1.1.2.1.1.1
theorem dX7_form_13 : decode cX7_form 13 = .ok (.aload_n 1, 1) := fp_hdX7_form_0.1.1.2.1.1.2
theorem dX7_form_14 : decode cX7_form 14 = .ok (.invokevirtual 28, 3) := fp_hdX7_form_0.1.1.2.1.2.1
theorem dX7_form_17 : decode cX7_form 17 = .ok (.iconst 0, 1) := fp_hdX7_form_0.1.1.2.1.2.2
theorem dX7_form_18 : decode cX7_form 18 = .ok (.istore 4, 2) := fp_hdX7_form_0.1.1.2.2.1.1
theorem dX7_form_20 : decode cX7_form 20 = .ok (.iconst 0, 1) := fp_hdX7_form_0.1.1.2.2.1.2
theorem dX7_form_21 : decode cX7_form 21 = .ok (.istore 5, 2) := fp_hdX7_form_0.1.1.2.2.2.1
theorem dX7_form_23 : decode cX7_form 23 = .ok (.iload 5, 2) := fp_hdX7_form_0.1.1.2.2.2.2
theorem dX7_form_25 : decode cX7_form 25 = .ok (.iconst 4, 1) := fp_hdX7_form_0.1.2.1.1.1.1
theorem dX7_form_26 : decode cX7_form 26 = .ok (.if_icmp .ge 20, 3) := fp_hdX7_form_0.1.2.1.1.1.2
theorem dX7_form_29 : decode cX7_form 29 = .ok (.iload 4, 2) := fp_hdX7_form_0.1.2.1.1.2.1
theorem dX7_form_31 : decode cX7_form 31 = .ok (.aload_n 0, 1) := fp_hdX7_form_0.1.2.1.1.2.2
theorem dX7_form_32 : decode cX7_form 32 = .ok (.iload 5, 2) := fp_hdX7_form_0.1.2.1.2.1.1
theorem dX7_form_34 : decode cX7_form 34 = .ok (.invokevirtual 32, 3) := fp_hdX7_form_0.1.2.1.2.1.2
theorem dX7_form_37 : decode cX7_form 37 = .ok (.ior, 1) := fp_hdX7_form_0.1.2.1.2.2.1
theorem dX7_form_38 : decode cX7_form 38 = .ok (.istore 4, 2) := fp_hdX7_form_0.1.2.1.2.2.2
theorem dX7_form_40 : decode cX7_form 40 = .ok (.iinc 5 1, 3) := fp_hdX7_form_0.1.2.2.1.1.1
theorem dX7_form_43 : decode cX7_form 43 = .ok (.goto (-20), 3) := fp_hdX7_form_0.1.2.2.1.1.2
theorem dX7_form_46 : decode cX7_form 46 = .ok (.aload_n 0, 1) := fp_hdX7_form_0.1.2.2.1.2.1
theorem dX7_form_47 : decode cX7_form 47 = .ok (.dup, 1) := fp_hdX7_form_0.1.2.2.1.2.2
theorem dX7_form_48 : decode cX7_form 48 = .ok (.getfield 36, 3) := fp_hdX7_form_0.1.2.2.2.1.1
theorem dX7_form_51 : decode cX7_form 51 = .ok (.iload 4, 2) := fp_hdX7_form_0.1.2.2.2.1.2
theorem dX7_form_53 : decode cX7_form 53 = .ok (.iconst (-1), 1) := fp_hdX7_form_0.1.2.2.2.2.1
theorem dX7_form_54 : decode cX7_form 54 = .ok (.ixor, 1) := fp_hdX7_form_0.1.2.2.2.2.2
theorem fp_hdX7_form_55 : (((decode cX7_form 55 = .ok (.iand, 1) ∧ decode cX7_form 56 = .ok (.putfield 36, 3)) ∧ decode cX7_form 59 = .ok (.iinc 3 1, 3)) ∧ (decode cX7_form 62 = .ok (.goto (-55), 3) ∧ decode cX7_form 65 = .ok (.return_, 1))) ∧ bA cX7_form 66 [] :=
  have q0 := fp_o126 fp_hdX7_form_0.2
  have q1 := fp_o181 (v := 36) q0.2 rfl
  have q2 := fp_o132 (v := 1) q1.2 rfl
  have q3 := fp_o167 (v := (-55)) q2.2 rfl
  have q4 := fp_o177 q3.2
  ⟨⟨⟨⟨q0.1, q1.1⟩, q2.1⟩, ⟨q3.1, q4.1⟩⟩, q4.2⟩
theorem dX7_form_55 : decode cX7_form 55 = .ok (.iand, 1) := fp_hdX7_form_55.1.1.1.1
theorem dX7_form_56 : decode cX7_form 56 = .ok (.putfield 36, 3) := fp_hdX7_form_55.1.1.1.2
theorem dX7_form_59 : decode cX7_form 59 = .ok (.iinc 3 1, 3) := fp_hdX7_form_55.1.1.2
theorem dX7_form_62 : decode cX7_form 62 = .ok (.goto (-55), 3) := fp_hdX7_form_55.1.2.1
theorem dX7_form_65 : decode cX7_form 65 = .ok (.return_, 1) := fp_hdX7_form_55.1.2.2
def fp_scX7_gather_1 : List Nat := 89 :: 180 :: 0 :: 36 :: 4 :: 28 :: 120 :: 128 :: 181 :: 0 :: 36 :: 132 :: 2 :: 1 :: 167 :: 255 :: 198 :: 177 :: []
def fp_scX7_gather_0 : List Nat := 42 :: 3 :: 181 :: 0 :: 36 :: 3 :: 61 :: 28 :: 7 :: 162 :: 0 :: 59 :: 42 :: 180 :: 0 :: 9 :: 28 :: 16 :: 252 :: 79 :: 42 :: 180 :: 0 :: 15 :: 28 :: 16 :: 252 :: 79 :: 42 :: 180 :: 0 :: 18 :: 28 :: 43 :: 28 :: 182 :: 0 :: 40 :: 79 :: 42 :: 180 :: 0 :: 18 :: 28 :: 46 :: 16 :: 252 :: 159 :: 0 :: 15 :: 42 :: fp_scX7_gather_1
theorem fp_bcX7_gather : bA cX7_gather 0 fp_scX7_gather_0 := show cX7_gather.data.toList.map UInt8.toNat = fp_scX7_gather_0 from by decide +kernel
theorem fp_hdX7_gather_0 : (((((decode cX7_gather 0 = .ok (.aload_n 0, 1) ∧ decode cX7_gather 1 = .ok (.iconst 0, 1)) ∧ (decode cX7_gather 2 = .ok (.putfield 36, 3) ∧ decode cX7_gather 5 = .ok (.iconst 0, 1))) ∧ ((decode cX7_gather 6 = .ok (.istore_n 2, 1) ∧ decode cX7_gather 7 = .ok (.iload_n 2, 1)) ∧ (decode cX7_gather 8 = .ok (.iconst 4, 1) ∧ decode cX7_gather 9 = .ok (.if_icmp .ge 59, 3)))) ∧ (((decode cX7_gather 12 = .ok (.aload_n 0, 1) ∧ decode cX7_gather 13 = .ok (.getfield 9, 3)) ∧ (decode cX7_gather 16 = .ok (.iload_n 2, 1) ∧ decode cX7_gather 17 = .ok (.bipush (-4), 2))) ∧ ((decode cX7_gather 19 = .ok (.iastore, 1) ∧ decode cX7_gather 20 = .ok (.aload_n 0, 1)) ∧ (decode cX7_gather 21 = .ok (.getfield 15, 3) ∧ decode cX7_gather 24 = .ok (.iload_n 2, 1))))) ∧ ((((decode cX7_gather 25 = .ok (.bipush (-4), 2) ∧ decode cX7_gather 27 = .ok (.iastore, 1)) ∧ (decode cX7_gather 28 = .ok (.aload_n 0, 1) ∧ decode cX7_gather 29 = .ok (.getfield 18, 3))) ∧ ((decode cX7_gather 32 = .ok (.iload_n 2, 1) ∧ decode cX7_gather 33 = .ok (.aload_n 1, 1)) ∧ (decode cX7_gather 34 = .ok (.iload_n 2, 1) ∧ decode cX7_gather 35 = .ok (.invokevirtual 40, 3)))) ∧ (((decode cX7_gather 38 = .ok (.iastore, 1) ∧ decode cX7_gather 39 = .ok (.aload_n 0, 1)) ∧ (decode cX7_gather 40 = .ok (.getfield 18, 3) ∧ decode cX7_gather 43 = .ok (.iload_n 2, 1))) ∧ ((decode cX7_gather 44 = .ok (.iaload, 1) ∧ decode cX7_gather 45 = .ok (.bipush (-4), 2)) ∧ (decode cX7_gather 47 = .ok (.if_icmp .eq 15, 3) ∧ decode cX7_gather 50 = .ok (.aload_n 0, 1)))))) ∧ bA cX7_gather 51 fp_scX7_gather_1 :=
  have q0 := fp_o42 fp_bcX7_gather
  have q1 := fp_o3 q0.2
  have q2 := fp_o181 (v := 36) q1.2 rfl
  have q3 := fp_o3 q2.2
  have q4 := fp_o61 q3.2
  have q5 := fp_o28 q4.2
  have q6 := fp_o7 q5.2
  have q7 := fp_o162 (v := 59) q6.2 rfl
  have q8 := fp_o42 q7.2
  have q9 := fp_o180 (v := 9) q8.2 rfl
  have q10 := fp_o28 q9.2
  have q11 := fp_o16 (v := (-4)) q10.2 rfl
  have q12 := fp_o79 q11.2
  have q13 := fp_o42 q12.2
  have q14 := fp_o180 (v := 15) q13.2 rfl
  have q15 := fp_o28 q14.2
  have q16 := fp_o16 (v := (-4)) q15.2 rfl
  have q17 := fp_o79 q16.2
  have q18 := fp_o42 q17.2
  have q19 := fp_o180 (v := 18) q18.2 rfl
  have q20 := fp_o28 q19.2
  have q21 := fp_o43 q20.2
  have q22 := fp_o28 q21.2
  have q23 := fp_o182 (v := 40) q22.2 rfl
  have q24 := fp_o79 q23.2
  have q25 := fp_o42 q24.2
  have q26 := fp_o180 (v := 18) q25.2 rfl
  have q27 := fp_o28 q26.2
  have q28 := fp_o46 q27.2
  have q29 := fp_o16 (v := (-4)) q28.2 rfl
  have q30 := fp_o159 (v := 15) q29.2 rfl
  have q31 := fp_o42 q30.2
  ⟨⟨⟨⟨⟨⟨q0.1, q1.1⟩, ⟨q2.1, q3.1⟩⟩, ⟨⟨q4.1, q5.1⟩, ⟨q6.1, q7.1⟩⟩⟩, ⟨⟨⟨q8.1, q9.1⟩, ⟨q10.1, q11.1⟩⟩, ⟨⟨q12.1, q13.1⟩, ⟨q14.1, q15.1⟩⟩⟩⟩, ⟨⟨⟨⟨q16.1, q17.1⟩, ⟨q18.1, q19.1⟩⟩, ⟨⟨q20.1, q21.1⟩, ⟨q22.1, q23.1⟩⟩⟩, ⟨⟨⟨q24.1, q25.1⟩, ⟨q26.1, q27.1⟩⟩, ⟨⟨q28.1, q29.1⟩, ⟨q30.1, q31.1⟩⟩⟩⟩⟩, q31.2⟩
theorem dX7_gather_0 : decode cX7_gather 0 = .ok (.aload_n 0, 1) := fp_hdX7_gather_0.1.1.1.1.1.1
theorem dX7_gather_1 : decode cX7_gather 1 = .ok (.iconst 0, 1) := fp_hdX7_gather_0.1.1.1.1.1.2
theorem dX7_gather_2 : decode cX7_gather 2 = .ok (.putfield 36, 3) := fp_hdX7_gather_0.1.1.1.1.2.1
theorem dX7_gather_5 : decode cX7_gather 5 = .ok (.iconst 0, 1) := fp_hdX7_gather_0.1.1.1.1.2.2
theorem dX7_gather_6 : decode cX7_gather 6 = .ok (.istore_n 2, 1) := fp_hdX7_gather_0.1.1.1.2.1.1
theorem dX7_gather_7 : decode cX7_gather 7 = .ok (.iload_n 2, 1) := fp_hdX7_gather_0.1.1.1.2.1.2
theorem dX7_gather_8 : decode cX7_gather 8 = .ok (.iconst 4, 1) := fp_hdX7_gather_0.1.1.1.2.2.1
theorem dX7_gather_9 : decode cX7_gather 9 = .ok (.if_icmp .ge 59, 3) := fp_hdX7_gather_0.1.1.1.2.2.2
theorem dX7_gather_12 : decode cX7_gather 12 = .ok (.aload_n 0, 1) := fp_hdX7_gather_0.1.1.2.1.1.1
theorem dX7_gather_13 : decode cX7_gather 13 = .ok (.getfield 9, 3) := fp_hdX7_gather_0.1.1.2.1.1.2
theorem dX7_gather_16 : decode cX7_gather 16 = .ok (.iload_n 2, 1) := fp_hdX7_gather_0.1.1.2.1.2.1
theorem dX7_gather_17 : decode cX7_gather 17 = .ok (.bipush (-4), 2) := fp_hdX7_gather_0.1.1.2.1.2.2
theorem dX7_gather_19 : decode cX7_gather 19 = .ok (.iastore, 1) := fp_hdX7_gather_0.1.1.2.2.1.1
theorem dX7_gather_20 : decode cX7_gather 20 = .ok (.aload_n 0, 1) := fp_hdX7_gather_0.1.1.2.2.1.2
theorem dX7_gather_21 : decode cX7_gather 21 = .ok (.getfield 15, 3) := fp_hdX7_gather_0.1.1.2.2.2.1
theorem dX7_gather_24 : decode cX7_gather 24 = .ok (.iload_n 2, 1) := fp_hdX7_gather_0.1.1.2.2.2.2
theorem dX7_gather_25 : decode cX7_gather 25 = .ok (.bipush (-4), 2) := fp_hdX7_gather_0.1.2.1.1.1.1
theorem dX7_gather_27 : decode cX7_gather 27 = .ok (.iastore, 1) := fp_hdX7_gather_0.1.2.1.1.1.2
theorem dX7_gather_28 : decode cX7_gather 28 = .ok (.aload_n 0, 1) := fp_hdX7_gather_0.1.2.1.1.2.1
theorem dX7_gather_29 : decode cX7_gather 29 = .ok (.getfield 18, 3) := fp_hdX7_gather_0.1.2.1.1.2.2
theorem dX7_gather_32 : decode cX7_gather 32 = .ok (.iload_n 2, 1) := fp_hdX7_gather_0.1.2.1.2.1.1
theorem dX7_gather_33 : decode cX7_gather 33 = .ok (.aload_n 1, 1) := fp_hdX7_gather_0.1.2.1.2.1.2
theorem dX7_gather_34 : decode cX7_gather 34 = .ok (.iload_n 2, 1) := fp_hdX7_gather_0.1.2.1.2.2.1
theorem dX7_gather_35 : decode cX7_gather 35 = .ok (.invokevirtual 40, 3) := fp_hdX7_gather_0.1.2.1.2.2.2
theorem dX7_gather_38 : decode cX7_gather 38 = .ok (.iastore, 1) := fp_hdX7_gather_0.1.2.2.1.1.1
theorem dX7_gather_39 : decode cX7_gather 39 = .ok (.aload_n 0, 1) := fp_hdX7_gather_0.1.2.2.1.1.2
theorem dX7_gather_40 : decode cX7_gather 40 = .ok (.getfield 18, 3) := fp_hdX7_gather_0.1.2.2.1.2.1
theorem dX7_gather_43 : decode cX7_gather 43 = .ok (.iload_n 2, 1) := fp_hdX7_gather_0.1.2.2.1.2.2
theorem dX7_gather_44 : decode cX7_gather 44 = .ok (.iaload, 1) := fp_hdX7_gather_0.1.2.2.2.1.1
theorem dX7_gather_45 : decode cX7_gather 45 = .ok (.bipush (-4), 2) := fp_hdX7_gather_0.1.2.2.2.1.2
theorem dX7_gather_47 : decode cX7_gather 47 = .ok (.if_icmp .eq 15, 3) := fp_hdX7_gather_0.1.2.2.2.2.1
theorem dX7_gather_50 : decode cX7_gather 50 = .ok (.aload_n 0, 1) := fp_hdX7_gather_0.1.2.2.2.2.2
theorem fp_hdX7_gather_51 : ((((decode cX7_gather 51 = .ok (.dup, 1) ∧ decode cX7_gather 52 = .ok (.getfield 36, 3)) ∧ decode cX7_gather 55 = .ok (.iconst 1, 1)) ∧ (decode cX7_gather 56 = .ok (.iload_n 2, 1) ∧ decode cX7_gather 57 = .ok (.ishl, 1))) ∧ (((decode cX7_gather 58 = .ok (.ior, 1) ∧ decode cX7_gather 59 = .ok (.putfield 36, 3)) ∧ decode cX7_gather 62 = .ok (.iinc 2 1, 3)) ∧ (decode cX7_gather 65 = .ok (.goto (-58), 3) ∧ decode cX7_gather 68 = .ok (.return_, 1)))) ∧ bA cX7_gather 69 [] :=
  have q0 := fp_o89 fp_hdX7_gather_0.2
  have q1 := fp_o180 (v := 36) q0.2 rfl
  have q2 := fp_o4 q1.2
  have q3 := fp_o28 q2.2
  have q4 := fp_o120 q3.2
  have q5 := fp_o128 q4.2
  have q6 := fp_o181 (v := 36) q5.2 rfl
  have q7 := fp_o132 (v := 1) q6.2 rfl
  have q8 := fp_o167 (v := (-58)) q7.2 rfl
  have q9 := fp_o177 q8.2
  ⟨⟨⟨⟨⟨q0.1, q1.1⟩, q2.1⟩, ⟨q3.1, q4.1⟩⟩, ⟨⟨⟨q5.1, q6.1⟩, q7.1⟩, ⟨q8.1, q9.1⟩⟩⟩, q9.2⟩
theorem dX7_gather_51 : decode cX7_gather 51 = .ok (.dup, 1) := fp_hdX7_gather_51.1.1.1.1.1
theorem dX7_gather_52 : decode cX7_gather 52 = .ok (.getfield 36, 3) := fp_hdX7_gather_51.1.1.1.1.2
theorem dX7_gather_55 : decode cX7_gather 55 = .ok (.iconst 1, 1) := fp_hdX7_gather_51.1.1.1.2
theorem dX7_gather_56 : decode cX7_gather 56 = .ok (.iload_n 2, 1) := fp_hdX7_gather_51.1.1.2.1
theorem dX7_gather_57 : decode cX7_gather 57 = .ok (.ishl, 1) := fp_hdX7_gather_51.1.1.2.2
theorem dX7_gather_58 : decode cX7_gather 58 = .ok (.ior, 1) := fp_hdX7_gather_51.1.2.1.1.1
theorem dX7_gather_59 : decode cX7_gather 59 = .ok (.putfield 36, 3) := fp_hdX7_gather_51.1.2.1.1.2
theorem dX7_gather_62 : decode cX7_gather 62 = .ok (.iinc 2 1, 3) := fp_hdX7_gather_51.1.2.1.2
theorem dX7_gather_65 : decode cX7_gather 65 = .ok (.goto (-58), 3) := fp_hdX7_gather_51.1.2.2.1
theorem dX7_gather_68 : decode cX7_gather 68 = .ok (.return_, 1) := fp_hdX7_gather_51.1.2.2.2
def fp_scX7_isThere_0 : List Nat := 42 :: 180 :: 0 :: 36 :: 4 :: 27 :: 120 :: 126 :: 153 :: 0 :: 7 :: 4 :: 167 :: 0 :: 4 :: 3 :: 172 :: []
theorem fp_bcX7_isThere : bA cX7_isThere 0 fp_scX7_isThere_0 := show cX7_isThere.data.toList.map UInt8.toNat = fp_scX7_isThere_0 from by decide +kernel
theorem fp_hdX7_isThere_0 : ((((decode cX7_isThere 0 = .ok (.aload_n 0, 1) ∧ decode cX7_isThere 1 = .ok (.getfield 36, 3)) ∧ decode cX7_isThere 4 = .ok (.iconst 1, 1)) ∧ ((decode cX7_isThere 5 = .ok (.iload_n 1, 1) ∧ decode cX7_isThere 6 = .ok (.ishl, 1)) ∧ decode cX7_isThere 7 = .ok (.iand, 1))) ∧ (((decode cX7_isThere 8 = .ok (.ifCond .eq 7, 3) ∧ decode cX7_isThere 11 = .ok (.iconst 1, 1)) ∧ decode cX7_isThere 12 = .ok (.goto 4, 3)) ∧ (decode cX7_isThere 15 = .ok (.iconst 0, 1) ∧ decode cX7_isThere 16 = .ok (.ireturn, 1)))) ∧ bA cX7_isThere 17 [] :=
  have q0 := fp_o42 fp_bcX7_isThere
  have q1 := fp_o180 (v := 36) q0.2 rfl
  have q2 := fp_o4 q1.2
  have q3 := fp_o27 q2.2
  have q4 := fp_o120 q3.2
  have q5 := fp_o126 q4.2
  have q6 := fp_o153 (v := 7) q5.2 rfl
  have q7 := fp_o4 q6.2
  have q8 := fp_o167 (v := 4) q7.2 rfl
  have q9 := fp_o3 q8.2
  have q10 := fp_o172 q9.2
  ⟨⟨⟨⟨⟨q0.1, q1.1⟩, q2.1⟩, ⟨⟨q3.1, q4.1⟩, q5.1⟩⟩, ⟨⟨⟨q6.1, q7.1⟩, q8.1⟩, ⟨q9.1, q10.1⟩⟩⟩, q10.2⟩
theorem dX7_isThere_0 : decode cX7_isThere 0 = .ok (.aload_n 0, 1) := fp_hdX7_isThere_0.1.1.1.1.1
theorem dX7_isThere_1 : decode cX7_isThere 1 = .ok (.getfield 36, 3) := fp_hdX7_isThere_0.1.1.1.1.2
theorem dX7_isThere_4 : decode cX7_isThere 4 = .ok (.iconst 1, 1) := fp_hdX7_isThere_0.1.1.1.2
theorem dX7_isThere_5 : decode cX7_isThere 5 = .ok (.iload_n 1, 1) := fp_hdX7_isThere_0.1.1.2.1.1
theorem dX7_isThere_6 : decode cX7_isThere 6 = .ok (.ishl, 1) := fp_hdX7_isThere_0.1.1.2.1.2
theorem dX7_isThere_7 : decode cX7_isThere 7 = .ok (.iand, 1) := fp_hdX7_isThere_0.1.1.2.2
theorem dX7_isThere_8 : decode cX7_isThere 8 = .ok (.ifCond .eq 7, 3) := fp_hdX7_isThere_0.1.2.1.1.1
theorem dX7_isThere_11 : decode cX7_isThere 11 = .ok (.iconst 1, 1) := fp_hdX7_isThere_0.1.2.1.1.2
theorem dX7_isThere_12 : decode cX7_isThere 12 = .ok (.goto 4, 3) := fp_hdX7_isThere_0.1.2.1.2
theorem dX7_isThere_15 : decode cX7_isThere 15 = .ok (.iconst 0, 1) := fp_hdX7_isThere_0.1.2.2.1
theorem dX7_isThere_16 : decode cX7_isThere 16 = .ok (.ireturn, 1) := fp_hdX7_isThere_0.1.2.2.2
def fp_scX7_point_1 : List Nat := 62 :: 132 :: 4 :: 1 :: 167 :: 255 :: 208 :: 42 :: 180 :: 0 :: 21 :: 28 :: 29 :: 79 :: 132 :: 2 :: 1 :: 167 :: 255 :: 184 :: 177 :: []
def fp_scX7_point_0 : List Nat := 3 :: 61 :: 28 :: 7 :: 162 :: 0 :: 73 :: 16 :: 252 :: 62 :: 3 :: 54 :: 4 :: 21 :: 4 :: 7 :: 162 :: 0 :: 48 :: 42 :: 21 :: 4 :: 182 :: 0 :: 45 :: 153 :: 0 :: 33 :: 29 :: 16 :: 252 :: 159 :: 0 :: 24 :: 43 :: 28 :: 42 :: 180 :: 0 :: 18 :: 21 :: 4 :: 46 :: 42 :: 180 :: 0 :: 18 :: 29 :: 46 :: 184 :: 0 :: 49 :: 153 :: 0 :: 6 :: 21 :: 4 :: fp_scX7_point_1
theorem fp_bcX7_point : bA cX7_point 0 fp_scX7_point_0 := show cX7_point.data.toList.map UInt8.toNat = fp_scX7_point_0 from by decide +kernel
theorem fp_hdX7_point_0 : (((((decode cX7_point 0 = .ok (.iconst 0, 1) ∧ decode cX7_point 1 = .ok (.istore_n 2, 1)) ∧ (decode cX7_point 2 = .ok (.iload_n 2, 1) ∧ decode cX7_point 3 = .ok (.iconst 4, 1))) ∧ ((decode cX7_point 4 = .ok (.if_icmp .ge 73, 3) ∧ decode cX7_point 7 = .ok (.bipush (-4), 2)) ∧ (decode cX7_point 9 = .ok (.istore_n 3, 1) ∧ decode cX7_point 10 = .ok (.iconst 0, 1)))) ∧ (((decode cX7_point 11 = .ok (.istore 4, 2) ∧ decode cX7_point 13 = .ok (.iload 4, 2)) ∧ (decode cX7_point 15 = .ok (.iconst 4, 1) ∧ decode cX7_point 16 = .ok (.if_icmp .ge 48, 3))) ∧ ((decode cX7_point 19 = .ok (.aload_n 0, 1) ∧ decode cX7_point 20 = .ok (.iload 4, 2)) ∧ (decode cX7_point 22 = .ok (.invokevirtual 45, 3) ∧ decode cX7_point 25 = .ok (.ifCond .eq 33, 3))))) ∧ ((((decode cX7_point 28 = .ok (.iload_n 3, 1) ∧ decode cX7_point 29 = .ok (.bipush (-4), 2)) ∧ (decode cX7_point 31 = .ok (.if_icmp .eq 24, 3) ∧ decode cX7_point 34 = .ok (.aload_n 1, 1))) ∧ ((decode cX7_point 35 = .ok (.iload_n 2, 1) ∧ decode cX7_point 36 = .ok (.aload_n 0, 1)) ∧ (decode cX7_point 37 = .ok (.getfield 18, 3) ∧ decode cX7_point 40 = .ok (.iload 4, 2)))) ∧ (((decode cX7_point 42 = .ok (.iaload, 1) ∧ decode cX7_point 43 = .ok (.aload_n 0, 1)) ∧ (decode cX7_point 44 = .ok (.getfield 18, 3) ∧ decode cX7_point 47 = .ok (.iload_n 3, 1))) ∧ ((decode cX7_point 48 = .ok (.iaload, 1) ∧ decode cX7_point 49 = .ok (.invokestatic 49, 3)) ∧ (decode cX7_point 52 = .ok (.ifCond .eq 6, 3) ∧ decode cX7_point 55 = .ok (.iload 4, 2)))))) ∧ bA cX7_point 57 fp_scX7_point_1 :=
  have q0 := fp_o3 fp_bcX7_point
  have q1 := fp_o61 q0.2
  have q2 := fp_o28 q1.2
  have q3 := fp_o7 q2.2
  have q4 := fp_o162 (v := 73) q3.2 rfl
  have q5 := fp_o16 (v := (-4)) q4.2 rfl
  have q6 := fp_o62 q5.2
  have q7 := fp_o3 q6.2
  have q8 := fp_o54 q7.2
  have q9 := fp_o21 q8.2
  have q10 := fp_o7 q9.2
  have q11 := fp_o162 (v := 48) q10.2 rfl
  have q12 := fp_o42 q11.2
  have q13 := fp_o21 q12.2
  have q14 := fp_o182 (v := 45) q13.2 rfl
  have q15 := fp_o153 (v := 33) q14.2 rfl
  have q16 := fp_o29 q15.2
  have q17 := fp_o16 (v := (-4)) q16.2 rfl
  have q18 := fp_o159 (v := 24) q17.2 rfl
  have q19 := fp_o43 q18.2
  have q20 := fp_o28 q19.2
  have q21 := fp_o42 q20.2
  have q22 := fp_o180 (v := 18) q21.2 rfl
  have q23 := fp_o21 q22.2
  have q24 := fp_o46 q23.2
  have q25 := fp_o42 q24.2
  have q26 := fp_o180 (v := 18) q25.2 rfl
  have q27 := fp_o29 q26.2
  have q28 := fp_o46 q27.2
  have q29 := fp_o184 (v := 49) q28.2 rfl
  have q30 := fp_o153 (v := 6) q29.2 rfl
  have q31 := fp_o21 q30.2
  ⟨⟨⟨⟨⟨⟨q0.1, q1.1⟩, ⟨q2.1, q3.1⟩⟩, ⟨⟨q4.1, q5.1⟩, ⟨q6.1, q7.1⟩⟩⟩, ⟨⟨⟨q8.1, q9.1⟩, ⟨q10.1, q11.1⟩⟩, ⟨⟨q12.1, q13.1⟩, ⟨q14.1, q15.1⟩⟩⟩⟩, ⟨⟨⟨⟨q16.1, q17.1⟩, ⟨q18.1, q19.1⟩⟩, ⟨⟨q20.1, q21.1⟩, ⟨q22.1, q23.1⟩⟩⟩, ⟨⟨⟨q24.1, q25.1⟩, ⟨q26.1, q27.1⟩⟩, ⟨⟨q28.1, q29.1⟩, ⟨q30.1, q31.1⟩⟩⟩⟩⟩, q31.2⟩
theorem dX7_point_0 : decode cX7_point 0 = .ok (.iconst 0, 1) := fp_hdX7_point_0.1.1.1.1.1.1
theorem dX7_point_1 : decode cX7_point 1 = .ok (.istore_n 2, 1) := fp_hdX7_point_0.1.1.1.1.1.2
theorem dX7_point_2 : decode cX7_point 2 = .ok (.iload_n 2, 1) := fp_hdX7_point_0.1.1.1.1.2.1
theorem dX7_point_3 : decode cX7_point 3 = .ok (.iconst 4, 1) := fp_hdX7_point_0.1.1.1.1.2.2
theorem dX7_point_4 : decode cX7_point 4 = .ok (.if_icmp .ge 73, 3) := fp_hdX7_point_0.1.1.1.2.1.1
theorem dX7_point_7 : decode cX7_point 7 = .ok (.bipush (-4), 2) := fp_hdX7_point_0.1.1.1.2.1.2
theorem dX7_point_9 : decode cX7_point 9 = .ok (.istore_n 3, 1) := fp_hdX7_point_0.1.1.1.2.2.1
theorem dX7_point_10 : decode cX7_point 10 = .ok (.iconst 0, 1) := fp_hdX7_point_0.1.1.1.2.2.2
theorem dX7_point_11 : decode cX7_point 11 = .ok (.istore 4, 2) := fp_hdX7_point_0.1.1.2.1.1.1
theorem dX7_point_13 : decode cX7_point 13 = .ok (.iload 4, 2) := fp_hdX7_point_0.1.1.2.1.1.2
theorem dX7_point_15 : decode cX7_point 15 = .ok (.iconst 4, 1) := fp_hdX7_point_0.1.1.2.1.2.1
theorem dX7_point_16 : decode cX7_point 16 = .ok (.if_icmp .ge 48, 3) := fp_hdX7_point_0.1.1.2.1.2.2
theorem dX7_point_19 : decode cX7_point 19 = .ok (.aload_n 0, 1) := fp_hdX7_point_0.1.1.2.2.1.1
theorem dX7_point_20 : decode cX7_point 20 = .ok (.iload 4, 2) := fp_hdX7_point_0.1.1.2.2.1.2
theorem dX7_point_22 : decode cX7_point 22 = .ok (.invokevirtual 45, 3) := fp_hdX7_point_0.1.1.2.2.2.1
theorem dX7_point_25 : decode cX7_point 25 = .ok (.ifCond .eq 33, 3) := fp_hdX7_point_0.1.1.2.2.2.2
theorem dX7_point_28 : decode cX7_point 28 = .ok (.iload_n 3, 1) := fp_hdX7_point_0.1.2.1.1.1.1
theorem dX7_point_29 : decode cX7_point 29 = .ok (.bipush (-4), 2) := fp_hdX7_point_0.1.2.1.1.1.2
theorem dX7_point_31 : decode cX7_point 31 = .ok (.if_icmp .eq 24, 3) := fp_hdX7_point_0.1.2.1.1.2.1
theorem dX7_point_34 : decode cX7_point 34 = .ok (.aload_n 1, 1) := fp_hdX7_point_0.1.2.1.1.2.2
theorem dX7_point_35 : decode cX7_point 35 = .ok (.iload_n 2, 1) := fp_hdX7_point_0.1.2.1.2.1.1
theorem dX7_point_36 : decode cX7_point 36 = .ok (.aload_n 0, 1) := fp_hdX7_point_0.1.2.1.2.1.2
theorem dX7_point_37 : decode cX7_point 37 = .ok (.getfield 18, 3) := fp_hdX7_point_0.1.2.1.2.2.1
theorem dX7_point_40 : decode cX7_point 40 = .ok (.iload 4, 2) := fp_hdX7_point_0.1.2.1.2.2.2
theorem dX7_point_42 : decode cX7_point 42 = .ok (.iaload, 1) := fp_hdX7_point_0.1.2.2.1.1.1
theorem dX7_point_43 : decode cX7_point 43 = .ok (.aload_n 0, 1) := fp_hdX7_point_0.1.2.2.1.1.2
theorem dX7_point_44 : decode cX7_point 44 = .ok (.getfield 18, 3) := fp_hdX7_point_0.1.2.2.1.2.1
theorem dX7_point_47 : decode cX7_point 47 = .ok (.iload_n 3, 1) := fp_hdX7_point_0.1.2.2.1.2.2
theorem dX7_point_48 : decode cX7_point 48 = .ok (.iaload, 1) := fp_hdX7_point_0.1.2.2.2.1.1
theorem dX7_point_49 : decode cX7_point 49 = .ok (.invokestatic 49, 3) := fp_hdX7_point_0.1.2.2.2.1.2
theorem dX7_point_52 : decode cX7_point 52 = .ok (.ifCond .eq 6, 3) := fp_hdX7_point_0.1.2.2.2.2.1
theorem dX7_point_55 : decode cX7_point 55 = .ok (.iload 4, 2) := fp_hdX7_point_0.1.2.2.2.2.2
theorem fp_hdX7_point_57 : ((((decode cX7_point 57 = .ok (.istore_n 3, 1) ∧ decode cX7_point 58 = .ok (.iinc 4 1, 3)) ∧ decode cX7_point 61 = .ok (.goto (-48), 3)) ∧ ((decode cX7_point 64 = .ok (.aload_n 0, 1) ∧ decode cX7_point 65 = .ok (.getfield 21, 3)) ∧ decode cX7_point 68 = .ok (.iload_n 2, 1))) ∧ (((decode cX7_point 69 = .ok (.iload_n 3, 1) ∧ decode cX7_point 70 = .ok (.iastore, 1)) ∧ decode cX7_point 71 = .ok (.iinc 2 1, 3)) ∧ (decode cX7_point 74 = .ok (.goto (-72), 3) ∧ decode cX7_point 77 = .ok (.return_, 1)))) ∧ bA cX7_point 78 [] :=
  have q0 := fp_o62 fp_hdX7_point_0.2
  have q1 := fp_o132 (v := 1) q0.2 rfl
  have q2 := fp_o167 (v := (-48)) q1.2 rfl
  have q3 := fp_o42 q2.2
  have q4 := fp_o180 (v := 21) q3.2 rfl
  have q5 := fp_o28 q4.2
  have q6 := fp_o29 q5.2
  have q7 := fp_o79 q6.2
  have q8 := fp_o132 (v := 1) q7.2 rfl
  have q9 := fp_o167 (v := (-72)) q8.2 rfl
  have q10 := fp_o177 q9.2
  ⟨⟨⟨⟨⟨q0.1, q1.1⟩, q2.1⟩, ⟨⟨q3.1, q4.1⟩, q5.1⟩⟩, ⟨⟨⟨q6.1, q7.1⟩, q8.1⟩, ⟨q9.1, q10.1⟩⟩⟩, q10.2⟩
theorem dX7_point_57 : decode cX7_point 57 = .ok (.istore_n 3, 1) := fp_hdX7_point_57.1.1.1.1.1
theorem dX7_point_58 : decode cX7_point 58 = .ok (.iinc 4 1, 3) := fp_hdX7_point_57.1.1.1.1.2
theorem dX7_point_61 : decode cX7_point 61 = .ok (.goto (-48), 3) := fp_hdX7_point_57.1.1.1.2
theorem dX7_point_64 : decode cX7_point 64 = .ok (.aload_n 0, 1) := fp_hdX7_point_57.1.1.2.1.1
theorem dX7_point_65 : decode cX7_point 65 = .ok (.getfield 21, 3) := fp_hdX7_point_57.1.1.2.1.2
theorem dX7_point_68 : decode cX7_point 68 = .ok (.iload_n 2, 1) := fp_hdX7_point_57.1.1.2.2
theorem dX7_point_69 : decode cX7_point 69 = .ok (.iload_n 3, 1) := fp_hdX7_point_57.1.2.1.1.1
theorem dX7_point_70 : decode cX7_point 70 = .ok (.iastore, 1) := fp_hdX7_point_57.1.2.1.1.2
theorem dX7_point_71 : decode cX7_point 71 = .ok (.iinc 2 1, 3) := fp_hdX7_point_57.1.2.1.2
theorem dX7_point_74 : decode cX7_point 74 = .ok (.goto (-72), 3) := fp_hdX7_point_57.1.2.2.1
theorem dX7_point_77 : decode cX7_point 77 = .ok (.return_, 1) := fp_hdX7_point_57.1.2.2.2
def fp_scX7_likesBetter_0 : List Nat := 42 :: 27 :: 28 :: 182 :: 0 :: 53 :: 42 :: 27 :: 29 :: 182 :: 0 :: 53 :: 100 :: 54 :: 4 :: 21 :: 4 :: 157 :: 0 :: 13 :: 21 :: 4 :: 154 :: 0 :: 12 :: 28 :: 29 :: 162 :: 0 :: 7 :: 4 :: 167 :: 0 :: 4 :: 3 :: 172 :: []
theorem fp_bcX7_likesBetter : bA cX7_likesBetter 0 fp_scX7_likesBetter_0 := show cX7_likesBetter.data.toList.map UInt8.toNat = fp_scX7_likesBetter_0 from by decide +kernel
theorem fp_hdX7_likesBetter_0 : (((((decode cX7_likesBetter 0 = .ok (.aload_n 0, 1) ∧ decode cX7_likesBetter 1 = .ok (.iload_n 1, 1)) ∧ decode cX7_likesBetter 2 = .ok (.iload_n 2, 1)) ∧ ((decode cX7_likesBetter 3 = .ok (.invokevirtual 53, 3) ∧ decode cX7_likesBetter 6 = .ok (.aload_n 0, 1)) ∧ decode cX7_likesBetter 7 = .ok (.iload_n 1, 1))) ∧ (((decode cX7_likesBetter 8 = .ok (.iload_n 3, 1) ∧ decode cX7_likesBetter 9 = .ok (.invokevirtual 53, 3)) ∧ decode cX7_likesBetter 12 = .ok (.isub, 1)) ∧ (decode cX7_likesBetter 13 = .ok (.istore 4, 2) ∧ decode cX7_likesBetter 15 = .ok (.iload 4, 2)))) ∧ ((((decode cX7_likesBetter 17 = .ok (.ifCond .gt 13, 3) ∧ decode cX7_likesBetter 20 = .ok (.iload 4, 2)) ∧ decode cX7_likesBetter 22 = .ok (.ifCond .ne 12, 3)) ∧ (decode cX7_likesBetter 25 = .ok (.iload_n 2, 1) ∧ decode cX7_likesBetter 26 = .ok (.iload_n 3, 1))) ∧ (((decode cX7_likesBetter 27 = .ok (.if_icmp .ge 7, 3) ∧ decode cX7_likesBetter 30 = .ok (.iconst 1, 1)) ∧ decode cX7_likesBetter 31 = .ok (.goto 4, 3)) ∧ (decode cX7_likesBetter 34 = .ok (.iconst 0, 1) ∧ decode cX7_likesBetter 35 = .ok (.ireturn, 1))))) ∧ bA cX7_likesBetter 36 [] :=
  have q0 := fp_o42 fp_bcX7_likesBetter
  have q1 := fp_o27 q0.2
  have q2 := fp_o28 q1.2
  have q3 := fp_o182 (v := 53) q2.2 rfl
  have q4 := fp_o42 q3.2
  have q5 := fp_o27 q4.2
  have q6 := fp_o29 q5.2
  have q7 := fp_o182 (v := 53) q6.2 rfl
  have q8 := fp_o100 q7.2
  have q9 := fp_o54 q8.2
  have q10 := fp_o21 q9.2
  have q11 := fp_o157 (v := 13) q10.2 rfl
  have q12 := fp_o21 q11.2
  have q13 := fp_o154 (v := 12) q12.2 rfl
  have q14 := fp_o28 q13.2
  have q15 := fp_o29 q14.2
  have q16 := fp_o162 (v := 7) q15.2 rfl
  have q17 := fp_o4 q16.2
  have q18 := fp_o167 (v := 4) q17.2 rfl
  have q19 := fp_o3 q18.2
  have q20 := fp_o172 q19.2
  ⟨⟨⟨⟨⟨⟨q0.1, q1.1⟩, q2.1⟩, ⟨⟨q3.1, q4.1⟩, q5.1⟩⟩, ⟨⟨⟨q6.1, q7.1⟩, q8.1⟩, ⟨q9.1, q10.1⟩⟩⟩, ⟨⟨⟨⟨q11.1, q12.1⟩, q13.1⟩, ⟨q14.1, q15.1⟩⟩, ⟨⟨⟨q16.1, q17.1⟩, q18.1⟩, ⟨q19.1, q20.1⟩⟩⟩⟩, q20.2⟩
theorem dX7_likesBetter_0 : decode cX7_likesBetter 0 = .ok (.aload_n 0, 1) := fp_hdX7_likesBetter_0.1.1.1.1.1.1
theorem dX7_likesBetter_1 : decode cX7_likesBetter 1 = .ok (.iload_n 1, 1) := fp_hdX7_likesBetter_0.1.1.1.1.1.2
theorem dX7_likesBetter_2 : decode cX7_likesBetter 2 = .ok (.iload_n 2, 1) := fp_hdX7_likesBetter_0.1.1.1.1.2
theorem dX7_likesBetter_3 : decode cX7_likesBetter 3 = .ok (.invokevirtual 53, 3) := fp_hdX7_likesBetter_0.1.1.1.2.1.1
theorem dX7_likesBetter_6 : decode cX7_likesBetter 6 = .ok (.aload_n 0, 1) := fp_hdX7_likesBetter_0.1.1.1.2.1.2
theorem dX7_likesBetter_7 : decode cX7_likesBetter 7 = .ok (.iload_n 1, 1) := fp_hdX7_likesBetter_0.1.1.1.2.2
theorem dX7_likesBetter_8 : decode cX7_likesBetter 8 = .ok (.iload_n 3, 1) := fp_hdX7_likesBetter_0.1.1.2.1.1.1
theorem dX7_likesBetter_9 : decode cX7_likesBetter 9 = .ok (.invokevirtual 53, 3) := fp_hdX7_likesBetter_0.1.1.2.1.1.2
theorem dX7_likesBetter_12 : decode cX7_likesBetter 12 = .ok (.isub, 1) := fp_hdX7_likesBetter_0.1.1.2.1.2
theorem dX7_likesBetter_13 : decode cX7_likesBetter 13 = .ok (.istore 4, 2) := fp_hdX7_likesBetter_0.1.1.2.2.1
theorem dX7_likesBetter_15 : decode cX7_likesBetter 15 = .ok (.iload 4, 2) := fp_hdX7_likesBetter_0.1.1.2.2.2
theorem dX7_likesBetter_17 : decode cX7_likesBetter 17 = .ok (.ifCond .gt 13, 3) := fp_hdX7_likesBetter_0.1.2.1.1.1.1
theorem dX7_likesBetter_20 : decode cX7_likesBetter 20 = .ok (.iload 4, 2) := fp_hdX7_likesBetter_0.1.2.1.1.1.2
theorem dX7_likesBetter_22 : decode cX7_likesBetter 22 = .ok (.ifCond .ne 12, 3) := fp_hdX7_likesBetter_0.1.2.1.1.2
theorem dX7_likesBetter_25 : decode cX7_likesBetter 25 = .ok (.iload_n 2, 1) := fp_hdX7_likesBetter_0.1.2.1.2.1
theorem dX7_likesBetter_26 : decode cX7_likesBetter 26 = .ok (.iload_n 3, 1) := fp_hdX7_likesBetter_0.1.2.1.2.2
theorem dX7_likesBetter_27 : decode cX7_likesBetter 27 = .ok (.if_icmp .ge 7, 3) := fp_hdX7_likesBetter_0.1.2.2.1.1.1
theorem dX7_likesBetter_30 : decode cX7_likesBetter 30 = .ok (.iconst 1, 1) := fp_hdX7_likesBetter_0.1.2.2.1.1.2
theorem dX7_likesBetter_31 : decode cX7_likesBetter 31 = .ok (.goto 4, 3) := fp_hdX7_likesBetter_0.1.2.2.1.2
theorem dX7_likesBetter_34 : decode cX7_likesBetter 34 = .ok (.iconst 0, 1) := fp_hdX7_likesBetter_0.1.2.2.2.1
theorem dX7_likesBetter_35 : decode cX7_likesBetter 35 = .ok (.ireturn, 1) := fp_hdX7_likesBetter_0.1.2.2.2.2
def fp_scX7_takeIfInRing_1 : List Nat := 42 :: 180 :: 0 :: 18 :: 42 :: 180 :: 0 :: 21 :: 27 :: 46 :: 46 :: 79 :: 42 :: 180 :: 0 :: 15 :: 27 :: 28 :: 79 :: 4 :: 27 :: 120 :: 172 :: 132 :: 4 :: 1 :: 167 :: 255 :: 201 :: 3 :: 172 :: []
def fp_scX7_takeIfInRing_0 : List Nat := 42 :: 27 :: 182 :: 0 :: 45 :: 154 :: 0 :: 5 :: 3 :: 172 :: 3 :: 61 :: 27 :: 62 :: 3 :: 54 :: 4 :: 21 :: 4 :: 7 :: 162 :: 0 :: 55 :: 28 :: 4 :: 29 :: 120 :: 128 :: 61 :: 42 :: 180 :: 0 :: 21 :: 29 :: 46 :: 62 :: 29 :: 27 :: 160 :: 0 :: 31 :: 42 :: 180 :: 0 :: 9 :: 27 :: fp_scX7_takeIfInRing_1
theorem fp_bcX7_takeIfInRing : bA cX7_takeIfInRing 0 fp_scX7_takeIfInRing_0 := show cX7_takeIfInRing.data.toList.map UInt8.toNat = fp_scX7_takeIfInRing_0 from by decide +kernel
theorem fp_hdX7_takeIfInRing_0 : (((((decode cX7_takeIfInRing 0 = .ok (.aload_n 0, 1) ∧ decode cX7_takeIfInRing 1 = .ok (.iload_n 1, 1)) ∧ (decode cX7_takeIfInRing 2 = .ok (.invokevirtual 45, 3) ∧ decode cX7_takeIfInRing 5 = .ok (.ifCond .ne 5, 3))) ∧ ((decode cX7_takeIfInRing 8 = .ok (.iconst 0, 1) ∧ decode cX7_takeIfInRing 9 = .ok (.ireturn, 1)) ∧ (decode cX7_takeIfInRing 10 = .ok (.iconst 0, 1) ∧ decode cX7_takeIfInRing 11 = .ok (.istore_n 2, 1)))) ∧ (((decode cX7_takeIfInRing 12 = .ok (.iload_n 1, 1) ∧ decode cX7_takeIfInRing 13 = .ok (.istore_n 3, 1)) ∧ (decode cX7_takeIfInRing 14 = .ok (.iconst 0, 1) ∧ decode cX7_takeIfInRing 15 = .ok (.istore 4, 2))) ∧ ((decode cX7_takeIfInRing 17 = .ok (.iload 4, 2) ∧ decode cX7_takeIfInRing 19 = .ok (.iconst 4, 1)) ∧ (decode cX7_takeIfInRing 20 = .ok (.if_icmp .ge 55, 3) ∧ decode cX7_takeIfInRing 23 = .ok (.iload_n 2, 1))))) ∧ ((((decode cX7_takeIfInRing 24 = .ok (.iconst 1, 1) ∧ decode cX7_takeIfInRing 25 = .ok (.iload_n 3, 1)) ∧ (decode cX7_takeIfInRing 26 = .ok (.ishl, 1) ∧ decode cX7_takeIfInRing 27 = .ok (.ior, 1))) ∧ ((decode cX7_takeIfInRing 28 = .ok (.istore_n 2, 1) ∧ decode cX7_takeIfInRing 29 = .ok (.aload_n 0, 1)) ∧ (decode cX7_takeIfInRing 30 = .ok (.getfield 21, 3) ∧ decode cX7_takeIfInRing 33 = .ok (.iload_n 3, 1)))) ∧ (((decode cX7_takeIfInRing 34 = .ok (.iaload, 1) ∧ decode cX7_takeIfInRing 35 = .ok (.istore_n 3, 1)) ∧ (decode cX7_takeIfInRing 36 = .ok (.iload_n 3, 1) ∧ decode cX7_takeIfInRing 37 = .ok (.iload_n 1, 1))) ∧ ((decode cX7_takeIfInRing 38 = .ok (.if_icmp .ne 31, 3) ∧ decode cX7_takeIfInRing 41 = .ok (.aload_n 0, 1)) ∧ (decode cX7_takeIfInRing 42 = .ok (.getfield 9, 3) ∧ decode cX7_takeIfInRing 45 = .ok (.iload_n 1, 1)))))) ∧ bA cX7_takeIfInRing 46 fp_scX7_takeIfInRing_1 :=
  have q0 := fp_o42 fp_bcX7_takeIfInRing
  have q1 := fp_o27 q0.2
  have q2 := fp_o182 (v := 45) q1.2 rfl
  have q3 := fp_o154 (v := 5) q2.2 rfl
  have q4 := fp_o3 q3.2
  have q5 := fp_o172 q4.2
  have q6 := fp_o3 q5.2
  have q7 := fp_o61 q6.2
  have q8 := fp_o27 q7.2
  have q9 := fp_o62 q8.2
  have q10 := fp_o3 q9.2
  have q11 := fp_o54 q10.2
  have q12 := fp_o21 q11.2
  have q13 := fp_o7 q12.2
  have q14 := fp_o162 (v := 55) q13.2 rfl
  have q15 := fp_o28 q14.2
  have q16 := fp_o4 q15.2
  have q17 := fp_o29 q16.2
  have q18 := fp_o120 q17.2
  have q19 := fp_o128 q18.2
  have q20 := fp_o61 q19.2
  have q21 := fp_o42 q20.2
  have q22 := fp_o180 (v := 21) q21.2 rfl
  have q23 := fp_o29 q22.2
  have q24 := fp_o46 q23.2
  have q25 := fp_o62 q24.2
  have q26 := fp_o29 q25.2
  have q27 := fp_o27 q26.2
  have q28 := fp_o160 (v := 31) q27.2 rfl
  have q29 := fp_o42 q28.2
  have q30 := fp_o180 (v := 9) q29.2 rfl
  have q31 := fp_o27 q30.2
  ⟨⟨⟨⟨⟨⟨q0.1, q1.1⟩, ⟨q2.1, q3.1⟩⟩, ⟨⟨q4.1, q5.1⟩, ⟨q6.1, q7.1⟩⟩⟩, ⟨⟨⟨q8.1, q9.1⟩, ⟨q10.1, q11.1⟩⟩, ⟨⟨q12.1, q13.1⟩, ⟨q14.1, q15.1⟩⟩⟩⟩, ⟨⟨⟨⟨q16.1, q17.1⟩, ⟨q18.1, q19.1⟩⟩, ⟨⟨q20.1, q21.1⟩, ⟨q22.1, q23.1⟩⟩⟩, ⟨⟨⟨q24.1, q25.1⟩, ⟨q26.1, q27.1⟩⟩, ⟨⟨q28.1, q29.1⟩, ⟨q30.1, q31.1⟩⟩⟩⟩⟩, q31.2⟩
theorem dX7_takeIfInRing_0 : decode cX7_takeIfInRing 0 = .ok (.aload_n 0, 1) := fp_hdX7_takeIfInRing_0.1.1.1.1.1.1
theorem dX7_takeIfInRing_1 : decode cX7_takeIfInRing 1 = .ok (.iload_n 1, 1) := fp_hdX7_takeIfInRing_0.1.1.1.1.1.2
theorem dX7_takeIfInRing_2 : decode cX7_takeIfInRing 2 = .ok (.invokevirtual 45, 3) := fp_hdX7_takeIfInRing_0.1.1.1.1.2.1
theorem dX7_takeIfInRing_5 : decode cX7_takeIfInRing 5 = .ok (.ifCond .ne 5, 3) := fp_hdX7_takeIfInRing_0.1.1.1.1.2.2
theorem dX7_takeIfInRing_8 : decode cX7_takeIfInRing 8 = .ok (.iconst 0, 1) := fp_hdX7_takeIfInRing_0.1.1.1.2.1.1
theorem dX7_takeIfInRing_9 : decode cX7_takeIfInRing 9 = .ok (.ireturn, 1) := fp_hdX7_takeIfInRing_0.1.1.1.2.1.2
theorem dX7_takeIfInRing_10 : decode cX7_takeIfInRing 10 = .ok (.iconst 0, 1) := fp_hdX7_takeIfInRing_0.1.1.1.2.2.1
theorem dX7_takeIfInRing_11 : decode cX7_takeIfInRing 11 = .ok (.istore_n 2, 1) := fp_hdX7_takeIfInRing_0.1.1.1.2.2.2
theorem dX7_takeIfInRing_12 : decode cX7_takeIfInRing 12 = .ok (.iload_n 1, 1) := fp_hdX7_takeIfInRing_0.1.1.2.1.1.1
theorem dX7_takeIfInRing_13 : decode cX7_takeIfInRing 13 = .ok (.istore_n 3, 1) := fp_hdX7_takeIfInRing_0.1.1.2.1.1.2
theorem dX7_takeIfInRing_14 : decode cX7_takeIfInRing 14 = .ok (.iconst 0, 1) := fp_hdX7_takeIfInRing_0.1.1.2.1.2.1
theorem dX7_takeIfInRing_15 : decode cX7_takeIfInRing 15 = .ok (.istore 4, 2) := fp_hdX7_takeIfInRing_0.1.1.2.1.2.2
theorem dX7_takeIfInRing_17 : decode cX7_takeIfInRing 17 = .ok (.iload 4, 2) := fp_hdX7_takeIfInRing_0.1.1.2.2.1.1
theorem dX7_takeIfInRing_19 : decode cX7_takeIfInRing 19 = .ok (.iconst 4, 1) := fp_hdX7_takeIfInRing_0.1.1.2.2.1.2
theorem dX7_takeIfInRing_20 : decode cX7_takeIfInRing 20 = .ok (.if_icmp .ge 55, 3) := fp_hdX7_takeIfInRing_0.1.1.2.2.2.1
theorem dX7_takeIfInRing_23 : decode cX7_takeIfInRing 23 = .ok (.iload_n 2, 1) := fp_hdX7_takeIfInRing_0.1.1.2.2.2.2
theorem dX7_takeIfInRing_24 : decode cX7_takeIfInRing 24 = .ok (.iconst 1, 1) := fp_hdX7_takeIfInRing_0.1.2.1.1.1.1
theorem dX7_takeIfInRing_25 : decode cX7_takeIfInRing 25 = .ok (.iload_n 3, 1) := fp_hdX7_takeIfInRing_0.1.2.1.1.1.2
theorem dX7_takeIfInRing_26 : decode cX7_takeIfInRing 26 = .ok (.ishl, 1) := fp_hdX7_takeIfInRing_0.1.2.1.1.2.1
theorem dX7_takeIfInRing_27 : decode cX7_takeIfInRing 27 = .ok (.ior, 1) := fp_hdX7_takeIfInRing_0.1.2.1.1.2.2
theorem dX7_takeIfInRing_28 : decode cX7_takeIfInRing 28 = .ok (.istore_n 2, 1) := fp_hdX7_takeIfInRing_0.1.2.1.2.1.1
theorem dX7_takeIfInRing_29 : decode cX7_takeIfInRing 29 = .ok (.aload_n 0, 1) := fp_hdX7_takeIfInRing_0.1.2.1.2.1.2
theorem dX7_takeIfInRing_30 : decode cX7_takeIfInRing 30 = .ok (.getfield 21, 3) := fp_hdX7_takeIfInRing_0.1.2.1.2.2.1
theorem dX7_takeIfInRing_33 : decode cX7_takeIfInRing 33 = .ok (.iload_n 3, 1) := fp_hdX7_takeIfInRing_0.1.2.1.2.2.2
theorem dX7_takeIfInRing_34 : decode cX7_takeIfInRing 34 = .ok (.iaload, 1) := fp_hdX7_takeIfInRing_0.1.2.2.1.1.1
theorem dX7_takeIfInRing_35 : decode cX7_takeIfInRing 35 = .ok (.istore_n 3, 1) := fp_hdX7_takeIfInRing_0.1.2.2.1.1.2
theorem dX7_takeIfInRing_36 : decode cX7_takeIfInRing 36 = .ok (.iload_n 3, 1) := fp_hdX7_takeIfInRing_0.1.2.2.1.2.1
theorem dX7_takeIfInRing_37 : decode cX7_takeIfInRing 37 = .ok (.iload_n 1, 1) := fp_hdX7_takeIfInRing_0.1.2.2.1.2.2
theorem dX7_takeIfInRing_38 : decode cX7_takeIfInRing 38 = .ok (.if_icmp .ne 31, 3) := fp_hdX7_takeIfInRing_0.1.2.2.2.1.1
theorem dX7_takeIfInRing_41 : decode cX7_takeIfInRing 41 = .ok (.aload_n 0, 1) := fp_hdX7_takeIfInRing_0.1.2.2.2.1.2
theorem dX7_takeIfInRing_42 : decode cX7_takeIfInRing 42 = .ok (.getfield 9, 3) := fp_hdX7_takeIfInRing_0.1.2.2.2.2.1
theorem dX7_takeIfInRing_45 : decode cX7_takeIfInRing 45 = .ok (.iload_n 1, 1) := fp_hdX7_takeIfInRing_0.1.2.2.2.2.2
theorem fp_hdX7_takeIfInRing_46 : (((((decode cX7_takeIfInRing 46 = .ok (.aload_n 0, 1) ∧ decode cX7_takeIfInRing 47 = .ok (.getfield 18, 3)) ∧ decode cX7_takeIfInRing 50 = .ok (.aload_n 0, 1)) ∧ ((decode cX7_takeIfInRing 51 = .ok (.getfield 21, 3) ∧ decode cX7_takeIfInRing 54 = .ok (.iload_n 1, 1)) ∧ decode cX7_takeIfInRing 55 = .ok (.iaload, 1))) ∧ (((decode cX7_takeIfInRing 56 = .ok (.iaload, 1) ∧ decode cX7_takeIfInRing 57 = .ok (.iastore, 1)) ∧ decode cX7_takeIfInRing 58 = .ok (.aload_n 0, 1)) ∧ (decode cX7_takeIfInRing 59 = .ok (.getfield 15, 3) ∧ decode cX7_takeIfInRing 62 = .ok (.iload_n 1, 1)))) ∧ ((((decode cX7_takeIfInRing 63 = .ok (.iload_n 2, 1) ∧ decode cX7_takeIfInRing 64 = .ok (.iastore, 1)) ∧ decode cX7_takeIfInRing 65 = .ok (.iconst 1, 1)) ∧ (decode cX7_takeIfInRing 66 = .ok (.iload_n 1, 1) ∧ decode cX7_takeIfInRing 67 = .ok (.ishl, 1))) ∧ (((decode cX7_takeIfInRing 68 = .ok (.ireturn, 1) ∧ decode cX7_takeIfInRing 69 = .ok (.iinc 4 1, 3)) ∧ decode cX7_takeIfInRing 72 = .ok (.goto (-55), 3)) ∧ (decode cX7_takeIfInRing 75 = .ok (.iconst 0, 1) ∧ decode cX7_takeIfInRing 76 = .ok (.ireturn, 1))))) ∧ bA cX7_takeIfInRing 77 [] :=
  have q0 := fp_o42 fp_hdX7_takeIfInRing_0.2
  have q1 := fp_o180 (v := 18) q0.2 rfl
  have q2 := fp_o42 q1.2
  have q3 := fp_o180 (v := 21) q2.2 rfl
  have q4 := fp_o27 q3.2
  have q5 := fp_o46 q4.2
  have q6 := fp_o46 q5.2
  have q7 := fp_o79 q6.2
  have q8 := fp_o42 q7.2
  have q9 := fp_o180 (v := 15) q8.2 rfl
  have q10 := fp_o27 q9.2
  have q11 := fp_o28 q10.2
  have q12 := fp_o79 q11.2
  have q13 := fp_o4 q12.2
  have q14 := fp_o27 q13.2
  have q15 := fp_o120 q14.2
  have q16 := fp_o172 q15.2
  have q17 := fp_o132 (v := 1) q16.2 rfl
  have q18 := fp_o167 (v := (-55)) q17.2 rfl
  have q19 := fp_o3 q18.2
  have q20 := fp_o172 q19.2
  ⟨⟨⟨⟨⟨⟨q0.1, q1.1⟩, q2.1⟩, ⟨⟨q3.1, q4.1⟩, q5.1⟩⟩, ⟨⟨⟨q6.1, q7.1⟩, q8.1⟩, ⟨q9.1, q10.1⟩⟩⟩, ⟨⟨⟨⟨q11.1, q12.1⟩, q13.1⟩, ⟨q14.1, q15.1⟩⟩, ⟨⟨⟨q16.1, q17.1⟩, q18.1⟩, ⟨q19.1, q20.1⟩⟩⟩⟩, q20.2⟩
theorem dX7_takeIfInRing_46 : decode cX7_takeIfInRing 46 = .ok (.aload_n 0, 1) := fp_hdX7_takeIfInRing_46.1.1.1.1.1.1
theorem dX7_takeIfInRing_47 : decode cX7_takeIfInRing 47 = .ok (.getfield 18, 3) := fp_hdX7_takeIfInRing_46.1.1.1.1.1.2
theorem dX7_takeIfInRing_50 : decode cX7_takeIfInRing 50 = .ok (.aload_n 0, 1) := fp_hdX7_takeIfInRing_46.1.1.1.1.2
theorem dX7_takeIfInRing_51 : decode cX7_takeIfInRing 51 = .ok (.getfield 21, 3) := fp_hdX7_takeIfInRing_46.1.1.1.2.1.1
theorem dX7_takeIfInRing_54 : decode cX7_takeIfInRing 54 = .ok (.iload_n 1, 1) := fp_hdX7_takeIfInRing_46.1.1.1.2.1.2
theorem dX7_takeIfInRing_55 : decode cX7_takeIfInRing 55 = .ok (.iaload, 1) := fp_hdX7_takeIfInRing_46.1.1.1.2.2
theorem dX7_takeIfInRing_56 : decode cX7_takeIfInRing 56 = .ok (.iaload, 1) := fp_hdX7_takeIfInRing_46.1.1.2.1.1.1
theorem dX7_takeIfInRing_57 : decode cX7_takeIfInRing 57 = .ok (.iastore, 1) := fp_hdX7_takeIfInRing_46.1.1.2.1.1.2
theorem dX7_takeIfInRing_58 : decode cX7_takeIfInRing 58 = .ok (.aload_n 0, 1) := fp_hdX7_takeIfInRing_46.1.1.2.1.2
theorem dX7_takeIfInRing_59 : decode cX7_takeIfInRing 59 = .ok (.getfield 15, 3) := fp_hdX7_takeIfInRing_46.1.1.2.2.1
theorem dX7_takeIfInRing_62 : decode cX7_takeIfInRing 62 = .ok (.iload_n 1, 1) := fp_hdX7_takeIfInRing_46.1.1.2.2.2
theorem dX7_takeIfInRing_63 : decode cX7_takeIfInRing 63 = .ok (.iload_n 2, 1) := fp_hdX7_takeIfInRing_46.1.2.1.1.1.1
theorem dX7_takeIfInRing_64 : decode cX7_takeIfInRing 64 = .ok (.iastore, 1) := fp_hdX7_takeIfInRing_46.1.2.1.1.1.2
theorem dX7_takeIfInRing_65 : decode cX7_takeIfInRing 65 = .ok (.iconst 1, 1) := fp_hdX7_takeIfInRing_46.1.2.1.1.2
theorem dX7_takeIfInRing_66 : decode cX7_takeIfInRing 66 = .ok (.iload_n 1, 1) := fp_hdX7_takeIfInRing_46.1.2.1.2.1
theorem dX7_takeIfInRing_67 : decode cX7_takeIfInRing 67 = .ok (.ishl, 1) := fp_hdX7_takeIfInRing_46.1.2.1.2.2
theorem dX7_takeIfInRing_68 : decode cX7_takeIfInRing 68 = .ok (.ireturn, 1) := fp_hdX7_takeIfInRing_46.1.2.2.1.1.1
theorem dX7_takeIfInRing_69 : decode cX7_takeIfInRing 69 = .ok (.iinc 4 1, 3) := fp_hdX7_takeIfInRing_46.1.2.2.1.1.2
theorem dX7_takeIfInRing_72 : decode cX7_takeIfInRing 72 = .ok (.goto (-55), 3) := fp_hdX7_takeIfInRing_46.1.2.2.1.2
theorem dX7_takeIfInRing_75 : decode cX7_takeIfInRing 75 = .ok (.iconst 0, 1) := fp_hdX7_takeIfInRing_46.1.2.2.2.1
theorem dX7_takeIfInRing_76 : decode cX7_takeIfInRing 76 = .ok (.ireturn, 1) := fp_hdX7_takeIfInRing_46.1.2.2.2.2
def fp_scX8_init_1 : List Nat := 180 :: 0 :: 11 :: 27 :: 187 :: 0 :: 9 :: 89 :: 183 :: 0 :: 35 :: 83 :: 132 :: 1 :: 1 :: 167 :: 255 :: 234 :: 3 :: 60 :: 27 :: 6 :: 162 :: 0 :: 22 :: 42 :: 180 :: 0 :: 17 :: 27 :: 187 :: 0 :: 9 :: 89 :: 183 :: 0 :: 35 :: 83 :: 132 :: 1 :: 1 :: 167 :: 255 :: 235 :: 177 :: []
def fp_scX8_init_0 : List Nat := 42 :: 183 :: 0 :: 3 :: 42 :: 16 :: 13 :: 189 :: 0 :: 9 :: 181 :: 0 :: 11 :: 42 :: 6 :: 189 :: 0 :: 9 :: 181 :: 0 :: 17 :: 42 :: 6 :: 188 :: 4 :: 181 :: 0 :: 20 :: 42 :: 16 :: 12 :: 188 :: 10 :: 181 :: 0 :: 24 :: 42 :: 16 :: 12 :: 188 :: 10 :: 181 :: 0 :: 28 :: 42 :: 16 :: 10 :: 188 :: 11 :: 181 :: 0 :: 31 :: 3 :: 60 :: 27 :: 16 :: 12 :: 163 :: 0 :: 22 :: 42 :: fp_scX8_init_1
theorem fp_bcX8_init : bA cX8_init 0 fp_scX8_init_0 := show cX8_init.data.toList.map UInt8.toNat = fp_scX8_init_0 from by decide +kernel
theorem fp_hdX8_init_0 : (((((decode cX8_init 0 = .ok (.aload_n 0, 1) ∧ decode cX8_init 1 = .ok (.invokespecial 3, 3)) ∧ (decode cX8_init 4 = .ok (.aload_n 0, 1) ∧ decode cX8_init 5 = .ok (.bipush 13, 2))) ∧ ((decode cX8_init 7 = .ok (.anewarray 9, 3) ∧ decode cX8_init 10 = .ok (.putfield 11, 3)) ∧ (decode cX8_init 13 = .ok (.aload_n 0, 1) ∧ decode cX8_init 14 = .ok (.iconst 3, 1)))) ∧ (((decode cX8_init 15 = .ok (.anewarray 9, 3) ∧ decode cX8_init 18 = .ok (.putfield 17, 3)) ∧ (decode cX8_init 21 = .ok (.aload_n 0, 1) ∧ decode cX8_init 22 = .ok (.iconst 3, 1))) ∧ ((decode cX8_init 23 = .ok (.newarray .boolean, 2) ∧ decode cX8_init 25 = .ok (.putfield 20, 3)) ∧ (decode cX8_init 28 = .ok (.aload_n 0, 1) ∧ decode cX8_init 29 = .ok (.bipush 12, 2))))) ∧ ((((decode cX8_init 31 = .ok (.newarray .int, 2) ∧ decode cX8_init 33 = .ok (.putfield 24, 3)) ∧ (decode cX8_init 36 = .ok (.aload_n 0, 1) ∧ decode cX8_init 37 = .ok (.bipush 12, 2))) ∧ ((decode cX8_init 39 = .ok (.newarray .int, 2) ∧ decode cX8_init 41 = .ok (.putfield 28, 3)) ∧ (decode cX8_init 44 = .ok (.aload_n 0, 1) ∧ decode cX8_init 45 = .ok (.bipush 10, 2)))) ∧ (((decode cX8_init 47 = .ok (.newarray .long, 2) ∧ decode cX8_init 49 = .ok (.putfield 31, 3)) ∧ (decode cX8_init 52 = .ok (.iconst 0, 1) ∧ decode cX8_init 53 = .ok (.istore_n 1, 1))) ∧ ((decode cX8_init 54 = .ok (.iload_n 1, 1) ∧ decode cX8_init 55 = .ok (.bipush 12, 2)) ∧ (decode cX8_init 57 = .ok (.if_icmp .gt 22, 3) ∧ decode cX8_init 60 = .ok (.aload_n 0, 1)))))) ∧ bA cX8_init 61 fp_scX8_init_1 :=
  have q0 := fp_o42 fp_bcX8_init
  have q1 := fp_o183 (v := 3) q0.2 rfl
  have q2 := fp_o42 q1.2
  have q3 := fp_o16 (v := 13) q2.2 rfl
  have q4 := fp_o189 (v := 9) q3.2 rfl
  have q5 := fp_o181 (v := 11) q4.2 rfl
  have q6 := fp_o42 q5.2
  have q7 := fp_o6 q6.2
  have q8 := fp_o189 (v := 9) q7.2 rfl
  have q9 := fp_o181 (v := 17) q8.2 rfl
  have q10 := fp_o42 q9.2
  have q11 := fp_o6 q10.2
  have q12 := fp_o188_4 q11.2
  have q13 := fp_o181 (v := 20) q12.2 rfl
  have q14 := fp_o42 q13.2
  have q15 := fp_o16 (v := 12) q14.2 rfl
  have q16 := fp_o188_10 q15.2
  have q17 := fp_o181 (v := 24) q16.2 rfl
  have q18 := fp_o42 q17.2
  have q19 := fp_o16 (v := 12) q18.2 rfl
  have q20 := fp_o188_10 q19.2
  have q21 := fp_o181 (v := 28) q20.2 rfl
  have q22 := fp_o42 q21.2
  have q23 := fp_o16 (v := 10) q22.2 rfl
  have q24 := fp_o188_11 q23.2
  have q25 := fp_o181 (v := 31) q24.2 rfl
  have q26 := fp_o3 q25.2
  have q27 := fp_o60 q26.2
  have q28 := fp_o27 q27.2
  have q29 := fp_o16 (v := 12) q28.2 rfl
  have q30 := fp_o163 (v := 22) q29.2 rfl
  have q31 := fp_o42 q30.2
  ⟨⟨⟨⟨⟨⟨q0.1, q1.1⟩, ⟨q2.1, q3.1⟩⟩, ⟨⟨q4.1, q5.1⟩, ⟨q6.1, q7.1⟩⟩⟩, ⟨⟨⟨q8.1, q9.1⟩, ⟨q10.1, q11.1⟩⟩, ⟨⟨q12.1, q13.1⟩, ⟨q14.1, q15.1⟩⟩⟩⟩, ⟨⟨⟨⟨q16.1, q17.1⟩, ⟨q18.1, q19.1⟩⟩, ⟨⟨q20.1, q21.1⟩, ⟨q22.1, q23.1⟩⟩⟩, ⟨⟨⟨q24.1, q25.1⟩, ⟨q26.1, q27.1⟩⟩, ⟨⟨q28.1, q29.1⟩, ⟨q30.1, q31.1⟩⟩⟩⟩⟩, q31.2⟩
theorem dX8_init_0 : decode cX8_init 0 = .ok (.aload_n 0, 1) := fp_hdX8_init_0.1.1.1.1.1.1
theorem dX8_init_1 : decode cX8_init 1 = .ok (.invokespecial 3, 3) := fp_hdX8_init_0.1.1.1.1.1.2
theorem dX8_init_4 : decode cX8_init 4 = .ok (.aload_n 0, 1) := fp_hdX8_init_0.1.1.1.1.2.1
theorem dX8_init_5 : decode cX8_init 5 = .ok (.bipush 13, 2) := fp_hdX8_init_0.1.1.1.1.2.2
theorem dX8_init_7 : decode cX8_init 7 = .ok (.anewarray 9, 3) := fp_hdX8_init_0.1.1.1.2.1.1
theorem dX8_init_10 : decode cX8_init 10 = .ok (.putfield 11, 3) := fp_hdX8_init_0.1.1.1.2.1.2
theorem dX8_init_13 : decode cX8_init 13 = .ok (.aload_n 0, 1) := fp_hdX8_init_0.1.1.1.2.2.1
theorem dX8_init_14 : decode cX8_init 14 = .ok (.iconst 3, 1) := fp_hdX8_init_0.1.1.1.2.2.2
theorem dX8_init_15 : decode cX8_init 15 = .ok (.anewarray 9, 3) := fp_hdX8_init_0.1.1.2.1.1.1
theorem dX8_init_18 : decode cX8_init 18 = .ok (.putfield 17, 3) := fp_hdX8_init_0.1.1.2.1.1.2
theorem dX8_init_21 : decode cX8_init 21 = .ok (.aload_n 0, 1) := fp_hdX8_init_0.1.1.2.1.2.1
theorem dX8_init_22 : decode cX8_init 22 = .ok (.iconst 3, 1) := fp_hdX8_init_0.1.1.2.1.2.2
theorem dX8_init_23 : decode cX8_init 23 = .ok (.newarray .boolean, 2) := fp_hdX8_init_0.1.1.2.2.1.1
theorem dX8_init_25 : decode cX8_init 25 = .ok (.putfield 20, 3) := fp_hdX8_init_0.1.1.2.2.1.2
theorem dX8_init_28 : decode cX8_init 28 = .ok (.aload_n 0, 1) := fp_hdX8_init_0.1.1.2.2.2.1
theorem dX8_init_29 : decode cX8_init 29 = .ok (.bipush 12, 2) := fp_hdX8_init_0.1.1.2.2.2.2
theorem dX8_init_31 : decode cX8_init 31 = .ok (.newarray .int, 2) := fp_hdX8_init_0.1.2.1.1.1.1
theorem dX8_init_33 : decode cX8_init 33 = .ok (.putfield 24, 3) := fp_hdX8_init_0.1.2.1.1.1.2
theorem dX8_init_36 : decode cX8_init 36 = .ok (.aload_n 0, 1) := fp_hdX8_init_0.1.2.1.1.2.1
theorem dX8_init_37 : decode cX8_init 37 = .ok (.bipush 12, 2) := fp_hdX8_init_0.1.2.1.1.2.2
theorem dX8_init_39 : decode cX8_init 39 = .ok (.newarray .int, 2) := fp_hdX8_init_0.1.2.1.2.1.1
theorem dX8_init_41 : decode cX8_init 41 = .ok (.putfield 28, 3) := fp_hdX8_init_0.1.2.1.2.1.2
theorem dX8_init_44 : decode cX8_init 44 = .ok (.aload_n 0, 1) := fp_hdX8_init_0.1.2.1.2.2.1
theorem dX8_init_45 : decode cX8_init 45 = .ok (.bipush 10, 2) := fp_hdX8_init_0.1.2.1.2.2.2
theorem dX8_init_47 : decode cX8_init 47 = .ok (.newarray .long, 2) := fp_hdX8_init_0.1.2.2.1.1.1
theorem dX8_init_49 : decode cX8_init 49 = .ok (.putfield 31, 3) := fp_hdX8_init_0.1.2.2.1.1.2
theorem dX8_init_52 : decode cX8_init 52 = .ok (.iconst 0, 1) := fp_hdX8_init_0.1.2.2.1.2.1
theorem dX8_init_53 : decode cX8_init 53 = .ok (.istore_n 1, 1) := fp_hdX8_init_0.1.2.2.1.2.2
theorem dX8_init_54 : decode cX8_init 54 = .ok (.iload_n 1, 1) := fp_hdX8_init_0.1.2.2.2.1.1
theorem dX8_init_55 : decode cX8_init 55 = .ok (.bipush 12, 2) := fp_hdX8_init_0.1.2.2.2.1.2
theorem dX8_init_57 : decode cX8_init 57 = .ok (.if_icmp .gt 22, 3) := fp_hdX8_init_0.1.2.2.2.2.1
theorem dX8_init_60 : decode cX8_init 60 = .ok (.aload_n 0, 1) := fp_hdX8_init_0.1.2.2.2.2.2
theorem fp_hdX8_init_61 : (((((decode cX8_init 61 = .ok (.getfield 11, 3) ∧ decode cX8_init 64 = .ok (.iload_n 1, 1)) ∧ decode cX8_init 65 = .ok (.new 9, 3)) ∧ ((decode cX8_init 68 = .ok (.dup, 1) ∧ decode cX8_init 69 = .ok (.invokespecial 35, 3)) ∧ decode cX8_init 72 = .ok (.aastore, 1))) ∧ (((decode cX8_init 73 = .ok (.iinc 1 1, 3) ∧ decode cX8_init 76 = .ok (.goto (-22), 3)) ∧ decode cX8_init 79 = .ok (.iconst 0, 1)) ∧ ((decode cX8_init 80 = .ok (.istore_n 1, 1) ∧ decode cX8_init 81 = .ok (.iload_n 1, 1)) ∧ decode cX8_init 82 = .ok (.iconst 3, 1)))) ∧ ((((decode cX8_init 83 = .ok (.if_icmp .ge 22, 3) ∧ decode cX8_init 86 = .ok (.aload_n 0, 1)) ∧ decode cX8_init 87 = .ok (.getfield 17, 3)) ∧ ((decode cX8_init 90 = .ok (.iload_n 1, 1) ∧ decode cX8_init 91 = .ok (.new 9, 3)) ∧ decode cX8_init 94 = .ok (.dup, 1))) ∧ (((decode cX8_init 95 = .ok (.invokespecial 35, 3) ∧ decode cX8_init 98 = .ok (.aastore, 1)) ∧ decode cX8_init 99 = .ok (.iinc 1 1, 3)) ∧ (decode cX8_init 102 = .ok (.goto (-21), 3) ∧ decode cX8_init 105 = .ok (.return_, 1))))) ∧ bA cX8_init 106 [] :=
  have q0 := fp_o180 (v := 11) fp_hdX8_init_0.2 rfl
  have q1 := fp_o27 q0.2
  have q2 := fp_o187 (v := 9) q1.2 rfl
  have q3 := fp_o89 q2.2
  have q4 := fp_o183 (v := 35) q3.2 rfl
  have q5 := fp_o83 q4.2
  have q6 := fp_o132 (v := 1) q5.2 rfl
  have q7 := fp_o167 (v := (-22)) q6.2 rfl
  have q8 := fp_o3 q7.2
  have q9 := fp_o60 q8.2
  have q10 := fp_o27 q9.2
  have q11 := fp_o6 q10.2
  have q12 := fp_o162 (v := 22) q11.2 rfl
  have q13 := fp_o42 q12.2
  have q14 := fp_o180 (v := 17) q13.2 rfl
  have q15 := fp_o27 q14.2
  have q16 := fp_o187 (v := 9) q15.2 rfl
  have q17 := fp_o89 q16.2
  have q18 := fp_o183 (v := 35) q17.2 rfl
  have q19 := fp_o83 q18.2
  have q20 := fp_o132 (v := 1) q19.2 rfl
  have q21 := fp_o167 (v := (-21)) q20.2 rfl
  have q22 := fp_o177 q21.2
  ⟨⟨⟨⟨⟨⟨q0.1, q1.1⟩, q2.1⟩, ⟨⟨q3.1, q4.1⟩, q5.1⟩⟩, ⟨⟨⟨q6.1, q7.1⟩, q8.1⟩, ⟨⟨q9.1, q10.1⟩, q11.1⟩⟩⟩, ⟨⟨⟨⟨q12.1, q13.1⟩, q14.1⟩, ⟨⟨q15.1, q16.1⟩, q17.1⟩⟩, ⟨⟨⟨q18.1, q19.1⟩, q20.1⟩, ⟨q21.1, q22.1⟩⟩⟩⟩, q22.2⟩
theorem dX8_init_61 : decode cX8_init 61 = .ok (.getfield 11, 3) := fp_hdX8_init_61.1.1.1.1.1.1
theorem dX8_init_64 : decode cX8_init 64 = .ok (.iload_n 1, 1) := fp_hdX8_init_61.1.1.1.1.1.2
theorem dX8_init_65 : decode cX8_init 65 = .ok (.new 9, 3) := fp_hdX8_init_61.1.1.1.1.2
theorem dX8_init_68 : decode cX8_init 68 = .ok (.dup, 1) := fp_hdX8_init_61.1.1.1.2.1.1
theorem dX8_init_69 : decode cX8_init 69 = .ok (.invokespecial 35, 3) := fp_hdX8_init_61.1.1.1.2.1.2
theorem dX8_init_72 : decode cX8_init 72 = .ok (.aastore, 1) := fp_hdX8_init_61.1.1.1.2.2
theorem dX8_init_73 : decode cX8_init 73 = .ok (.iinc 1 1, 3) := fp_hdX8_init_61.1.1.2.1.1.1
theorem dX8_init_76 : decode cX8_init 76 = .ok (.goto (-22), 3) := fp_hdX8_init_61.1.1.2.1.1.2
theorem dX8_init_79 : decode cX8_init 79 = .ok (.iconst 0, 1) := fp_hdX8_init_61.1.1.2.1.2
theorem dX8_init_80 : decode cX8_init 80 = .ok (.istore_n 1, 1) := fp_hdX8_init_61.1.1.2.2.1.1
theorem dX8_init_81 : decode cX8_init 81 = .ok (.iload_n 1, 1) := fp_hdX8_init_61.1.1.2.2.1.2
theorem dX8_init_82 : decode cX8_init 82 = .ok (.iconst 3, 1) := fp_hdX8_init_61.1.1.2.2.2
theorem dX8_init_83 : decode cX8_init 83 = .ok (.if_icmp .ge 22, 3) := fp_hdX8_init_61.1.2.1.1.1.1
theorem dX8_init_86 : decode cX8_init 86 = .ok (.aload_n 0, 1) := fp_hdX8_init_61.1.2.1.1.1.2
theorem dX8_init_87 : decode cX8_init 87 = .ok (.getfield 17, 3) := fp_hdX8_init_61.1.2.1.1.2
theorem dX8_init_90 : decode cX8_init 90 = .ok (.iload_n 1, 1) := fp_hdX8_init_61.1.2.1.2.1.1
theorem dX8_init_91 : decode cX8_init 91 = .ok (.new 9, 3) := fp_hdX8_init_61.1.2.1.2.1.2
theorem dX8_init_94 : decode cX8_init 94 = .ok (.dup, 1) := fp_hdX8_init_61.1.2.1.2.2
theorem dX8_init_95 : decode cX8_init 95 = .ok (.invokespecial 35, 3) := fp_hdX8_init_61.1.2.2.1.1.1
theorem dX8_init_98 : decode cX8_init 98 = .ok (.aastore, 1) := fp_hdX8_init_61.1.2.2.1.1.2
theorem dX8_init_99 : decode cX8_init 99 = .ok (.iinc 1 1, 3) := fp_hdX8_init_61.1.2.2.1.2
theorem dX8_init_102 : decode cX8_init 102 = .ok (.goto (-21), 3) := fp_hdX8_init_61.1.2.2.2.1
theorem dX8_init_105 : decode cX8_init 105 = .ok (.return_, 1) := fp_hdX8_init_61.1.2.2.2.2
def fp_scX8_behind_0 : List Nat := 42 :: 180 :: 0 :: 11 :: 3 :: 50 :: 58 :: 5 :: 25 :: 5 :: 45 :: 182 :: 0 :: 36 :: 3 :: 54 :: 6 :: 21 :: 6 :: 21 :: 4 :: 162 :: 0 :: 19 :: 44 :: 43 :: 25 :: 5 :: 21 :: 6 :: 182 :: 0 :: 40 :: 87 :: 132 :: 6 :: 1 :: 167 :: 255 :: 236 :: 25 :: 5 :: 176 :: []
theorem fp_bcX8_behind : bA cX8_behind 0 fp_scX8_behind_0 := show cX8_behind.data.toList.map UInt8.toNat = fp_scX8_behind_0 from by decide +kernel
theorem fp_hdX8_behind_0 : (((((decode cX8_behind 0 = .ok (.aload_n 0, 1) ∧ decode cX8_behind 1 = .ok (.getfield 11, 3)) ∧ decode cX8_behind 4 = .ok (.iconst 0, 1)) ∧ ((decode cX8_behind 5 = .ok (.aaload, 1) ∧ decode cX8_behind 6 = .ok (.astore 5, 2)) ∧ decode cX8_behind 8 = .ok (.aload 5, 2))) ∧ (((decode cX8_behind 10 = .ok (.aload_n 3, 1) ∧ decode cX8_behind 11 = .ok (.invokevirtual 36, 3)) ∧ decode cX8_behind 14 = .ok (.iconst 0, 1)) ∧ ((decode cX8_behind 15 = .ok (.istore 6, 2) ∧ decode cX8_behind 17 = .ok (.iload 6, 2)) ∧ decode cX8_behind 19 = .ok (.iload 4, 2)))) ∧ ((((decode cX8_behind 21 = .ok (.if_icmp .ge 19, 3) ∧ decode cX8_behind 24 = .ok (.aload_n 2, 1)) ∧ decode cX8_behind 25 = .ok (.aload_n 1, 1)) ∧ ((decode cX8_behind 26 = .ok (.aload 5, 2) ∧ decode cX8_behind 28 = .ok (.iload 6, 2)) ∧ decode cX8_behind 30 = .ok (.invokevirtual 40, 3))) ∧ (((decode cX8_behind 33 = .ok (.pop, 1) ∧ decode cX8_behind 34 = .ok (.iinc 6 1, 3)) ∧ decode cX8_behind 37 = .ok (.goto (-20), 3)) ∧ (decode cX8_behind 40 = .ok (.aload 5, 2) ∧ decode cX8_behind 42 = .ok (.areturn, 1))))) ∧ bA cX8_behind 43 [] :=
  have q0 := fp_o42 fp_bcX8_behind
  have q1 := fp_o180 (v := 11) q0.2 rfl
  have q2 := fp_o3 q1.2
  have q3 := fp_o50 q2.2
  have q4 := fp_o58 q3.2
  have q5 := fp_o25 q4.2
  have q6 := fp_o45 q5.2
  have q7 := fp_o182 (v := 36) q6.2 rfl
  have q8 := fp_o3 q7.2
  have q9 := fp_o54 q8.2
  have q10 := fp_o21 q9.2
  have q11 := fp_o21 q10.2
  have q12 := fp_o162 (v := 19) q11.2 rfl
  have q13 := fp_o44 q12.2
  have q14 := fp_o43 q13.2
  have q15 := fp_o25 q14.2
  have q16 := fp_o21 q15.2
  have q17 := fp_o182 (v := 40) q16.2 rfl
  have q18 := fp_o87 q17.2
  have q19 := fp_o132 (v := 1) q18.2 rfl
  have q20 := fp_o167 (v := (-20)) q19.2 rfl
  have q21 := fp_o25 q20.2
  have q22 := fp_o176 q21.2
  ⟨⟨⟨⟨⟨⟨q0.1, q1.1⟩, q2.1⟩, ⟨⟨q3.1, q4.1⟩, q5.1⟩⟩, ⟨⟨⟨q6.1, q7.1⟩, q8.1⟩, ⟨⟨q9.1, q10.1⟩, q11.1⟩⟩⟩, ⟨⟨⟨⟨q12.1, q13.1⟩, q14.1⟩, ⟨⟨q15.1, q16.1⟩, q17.1⟩⟩, ⟨⟨⟨q18.1, q19.1⟩, q20.1⟩, ⟨q21.1, q22.1⟩⟩⟩⟩, q22.2⟩
theorem dX8_behind_0 : decode cX8_behind 0 = .ok (.aload_n 0, 1) := fp_hdX8_behind_0.1.1.1.1.1.1
theorem dX8_behind_1 : decode cX8_behind 1 = .ok (.getfield 11, 3) := fp_hdX8_behind_0.1.1.1.1.1.2
theorem dX8_behind_4 : decode cX8_behind 4 = .ok (.iconst 0, 1) := fp_hdX8_behind_0.1.1.1.1.2
theorem dX8_behind_5 : decode cX8_behind 5 = .ok (.aaload, 1) := fp_hdX8_behind_0.1.1.1.2.1.1
theorem dX8_behind_6 : decode cX8_behind 6 = .ok (.astore 5, 2) := fp_hdX8_behind_0.1.1.1.2.1.2
theorem dX8_behind_8 : decode cX8_behind 8 = .ok (.aload 5, 2) := fp_hdX8_behind_0.1.1.1.2.2
theorem dX8_behind_10 : decode cX8_behind 10 = .ok (.aload_n 3, 1) := fp_hdX8_behind_0.1.1.2.1.1.1
theorem dX8_behind_11 : decode cX8_behind 11 = .ok (.invokevirtual 36, 3) := fp_hdX8_behind_0.1.1.2.1.1.2
theorem dX8_behind_14 : decode cX8_behind 14 = .ok (.iconst 0, 1) := fp_hdX8_behind_0.1.1.2.1.2
theorem dX8_behind_15 : decode cX8_behind 15 = .ok (.istore 6, 2) := fp_hdX8_behind_0.1.1.2.2.1.1
theorem dX8_behind_17 : decode cX8_behind 17 = .ok (.iload 6, 2) := fp_hdX8_behind_0.1.1.2.2.1.2
theorem dX8_behind_19 : decode cX8_behind 19 = .ok (.iload 4, 2) := fp_hdX8_behind_0.1.1.2.2.2
theorem dX8_behind_21 : decode cX8_behind 21 = .ok (.if_icmp .ge 19, 3) := fp_hdX8_behind_0.1.2.1.1.1.1
theorem dX8_behind_24 : decode cX8_behind 24 = .ok (.aload_n 2, 1) := fp_hdX8_behind_0.1.2.1.1.1.2
theorem dX8_behind_25 : decode cX8_behind 25 = .ok (.aload_n 1, 1) := fp_hdX8_behind_0.1.2.1.1.2
theorem dX8_behind_26 : decode cX8_behind 26 = .ok (.aload 5, 2) := fp_hdX8_behind_0.1.2.1.2.1.1
theorem dX8_behind_28 : decode cX8_behind 28 = .ok (.iload 6, 2) := fp_hdX8_behind_0.1.2.1.2.1.2
theorem dX8_behind_30 : decode cX8_behind 30 = .ok (.invokevirtual 40, 3) := fp_hdX8_behind_0.1.2.1.2.2
theorem dX8_behind_33 : decode cX8_behind 33 = .ok (.pop, 1) := fp_hdX8_behind_0.1.2.2.1.1.1
theorem dX8_behind_34 : decode cX8_behind 34 = .ok (.iinc 6 1, 3) := fp_hdX8_behind_0.1.2.2.1.1.2
theorem dX8_behind_37 : decode cX8_behind 37 = .ok (.goto (-20), 3) := fp_hdX8_behind_0.1.2.2.1.2
theorem dX8_behind_40 : decode cX8_behind 40 = .ok (.aload 5, 2) := fp_hdX8_behind_0.1.2.2.2.1
theorem dX8_behind_42 : decode cX8_behind 42 = .ok (.areturn, 1) := fp_hdX8_behind_0.1.2.2.2.2
def fp_scX8_tryTrick_1 : List Nat := 182 :: 0 :: 59 :: 84 :: 132 :: 7 :: 1 :: 167 :: 255 :: 204 :: 177 :: []
def fp_scX8_tryTrick_0 : List Nat := 42 :: 43 :: 44 :: 45 :: 21 :: 4 :: 182 :: 0 :: 46 :: 58 :: 6 :: 3 :: 54 :: 7 :: 21 :: 7 :: 43 :: 180 :: 0 :: 50 :: 162 :: 0 :: 49 :: 42 :: 180 :: 0 :: 17 :: 21 :: 7 :: 50 :: 25 :: 6 :: 182 :: 0 :: 36 :: 42 :: 180 :: 0 :: 20 :: 21 :: 7 :: 42 :: 180 :: 0 :: 17 :: 21 :: 7 :: 50 :: 45 :: 180 :: 0 :: 56 :: 21 :: 5 :: 46 :: 21 :: 5 :: 21 :: 7 :: fp_scX8_tryTrick_1
theorem fp_bcX8_tryTrick : bA cX8_tryTrick 0 fp_scX8_tryTrick_0 := show cX8_tryTrick.data.toList.map UInt8.toNat = fp_scX8_tryTrick_0 from by decide +kernel
theorem fp_hdX8_tryTrick_0 : (((((decode cX8_tryTrick 0 = .ok (.aload_n 0, 1) ∧ decode cX8_tryTrick 1 = .ok (.aload_n 1, 1)) ∧ (decode cX8_tryTrick 2 = .ok (.aload_n 2, 1) ∧ decode cX8_tryTrick 3 = .ok (.aload_n 3, 1))) ∧ ((decode cX8_tryTrick 4 = .ok (.iload 4, 2) ∧ decode cX8_tryTrick 6 = .ok (.invokevirtual 46, 3)) ∧ (decode cX8_tryTrick 9 = .ok (.astore 6, 2) ∧ decode cX8_tryTrick 11 = .ok (.iconst 0, 1)))) ∧ (((decode cX8_tryTrick 12 = .ok (.istore 7, 2) ∧ decode cX8_tryTrick 14 = .ok (.iload 7, 2)) ∧ (decode cX8_tryTrick 16 = .ok (.aload_n 1, 1) ∧ decode cX8_tryTrick 17 = .ok (.getfield 50, 3))) ∧ ((decode cX8_tryTrick 20 = .ok (.if_icmp .ge 49, 3) ∧ decode cX8_tryTrick 23 = .ok (.aload_n 0, 1)) ∧ (decode cX8_tryTrick 24 = .ok (.getfield 17, 3) ∧ decode cX8_tryTrick 27 = .ok (.iload 7, 2))))) ∧ ((((decode cX8_tryTrick 29 = .ok (.aaload, 1) ∧ decode cX8_tryTrick 30 = .ok (.aload 6, 2)) ∧ (decode cX8_tryTrick 32 = .ok (.invokevirtual 36, 3) ∧ decode cX8_tryTrick 35 = .ok (.aload_n 0, 1))) ∧ ((decode cX8_tryTrick 36 = .ok (.getfield 20, 3) ∧ decode cX8_tryTrick 39 = .ok (.iload 7, 2)) ∧ (decode cX8_tryTrick 41 = .ok (.aload_n 0, 1) ∧ decode cX8_tryTrick 42 = .ok (.getfield 17, 3)))) ∧ (((decode cX8_tryTrick 45 = .ok (.iload 7, 2) ∧ decode cX8_tryTrick 47 = .ok (.aaload, 1)) ∧ (decode cX8_tryTrick 48 = .ok (.aload_n 3, 1) ∧ decode cX8_tryTrick 49 = .ok (.getfield 56, 3))) ∧ ((decode cX8_tryTrick 52 = .ok (.iload 5, 2) ∧ decode cX8_tryTrick 54 = .ok (.iaload, 1)) ∧ (decode cX8_tryTrick 55 = .ok (.iload 5, 2) ∧ decode cX8_tryTrick 57 = .ok (.iload 7, 2)))))) ∧ bA cX8_tryTrick 59 fp_scX8_tryTrick_1 :=
  have q0 := fp_o42 fp_bcX8_tryTrick
  have q1 := fp_o43 q0.2
  have q2 := fp_o44 q1.2
  have q3 := fp_o45 q2.2
  have q4 := fp_o21 q3.2
  have q5 := fp_o182 (v := 46) q4.2 rfl
  have q6 := fp_o58 q5.2
  have q7 := fp_o3 q6.2
  have q8 := fp_o54 q7.2
  have q9 := fp_o21 q8.2
  have q10 := fp_o43 q9.2
  have q11 := fp_o180 (v := 50) q10.2 rfl
  have q12 := fp_o162 (v := 49) q11.2 rfl
  have q13 := fp_o42 q12.2
  have q14 := fp_o180 (v := 17) q13.2 rfl
  have q15 := fp_o21 q14.2
  have q16 := fp_o50 q15.2
  have q17 := fp_o25 q16.2
  have q18 := fp_o182 (v := 36) q17.2 rfl
  have q19 := fp_o42 q18.2
  have q20 := fp_o180 (v := 20) q19.2 rfl
  have q21 := fp_o21 q20.2
  have q22 := fp_o42 q21.2
  have q23 := fp_o180 (v := 17) q22.2 rfl
  have q24 := fp_o21 q23.2
  have q25 := fp_o50 q24.2
  have q26 := fp_o45 q25.2
  have q27 := fp_o180 (v := 56) q26.2 rfl
  have q28 := fp_o21 q27.2
  have q29 := fp_o46 q28.2
  have q30 := fp_o21 q29.2
  have q31 := fp_o21 q30.2
  ⟨⟨⟨⟨⟨⟨q0.1, q1.1⟩, ⟨q2.1, q3.1⟩⟩, ⟨⟨q4.1, q5.1⟩, ⟨q6.1, q7.1⟩⟩⟩, ⟨⟨⟨q8.1, q9.1⟩, ⟨q10.1, q11.1⟩⟩, ⟨⟨q12.1, q13.1⟩, ⟨q14.1, q15.1⟩⟩⟩⟩, ⟨⟨⟨⟨q16.1, q17.1⟩, ⟨q18.1, q19.1⟩⟩, ⟨⟨q20.1, q21.1⟩, ⟨q22.1, q23.1⟩⟩⟩, ⟨⟨⟨q24.1, q25.1⟩, ⟨q26.1, q27.1⟩⟩, ⟨⟨q28.1, q29.1⟩, ⟨q30.1, q31.1⟩⟩⟩⟩⟩, q31.2⟩
theorem dX8_tryTrick_0 : decode cX8_tryTrick 0 = .ok (.aload_n 0, 1) := fp_hdX8_tryTrick_0.1.1.1.1.1.1
theorem dX8_tryTrick_1 : decode cX8_tryTrick 1 = .ok (.aload_n 1, 1) := fp_hdX8_tryTrick_0.1.1.1.1.1.2
theorem dX8_tryTrick_2 : decode cX8_tryTrick 2 = .ok (.aload_n 2, 1) := fp_hdX8_tryTrick_0.1.1.1.1.2.1
theorem dX8_tryTrick_3 : decode cX8_tryTrick 3 = .ok (.aload_n 3, 1) := fp_hdX8_tryTrick_0.1.1.1.1.2.2
theorem dX8_tryTrick_4 : decode cX8_tryTrick 4 = .ok (.iload 4, 2) := fp_hdX8_tryTrick_0.1.1.1.2.1.1
theorem dX8_tryTrick_6 : decode cX8_tryTrick 6 = .ok (.invokevirtual 46, 3) := fp_hdX8_tryTrick_0.1.1.1.2.1.2
theorem dX8_tryTrick_9 : decode cX8_tryTrick 9 = .ok (.astore 6, 2) := fp_hdX8_tryTrick_0.1.1.1.2.2.1
theorem dX8_tryTrick_11 : decode cX8_tryTrick 11 = .ok (.iconst 0, 1) := fp_hdX8_tryTrick_0.1.1.1.2.2.2
theorem dX8_tryTrick_12 : decode cX8_tryTrick 12 = .ok (.istore 7, 2) := fp_hdX8_tryTrick_0.1.1.2.1.1.1
theorem dX8_tryTrick_14 : decode cX8_tryTrick 14 = .ok (.iload 7, 2) := fp_hdX8_tryTrick_0.1.1.2.1.1.2
theorem dX8_tryTrick_16 : decode cX8_tryTrick 16 = .ok (.aload_n 1, 1) := fp_hdX8_tryTrick_0.1.1.2.1.2.1
theorem dX8_tryTrick_17 : decode cX8_tryTrick 17 = .ok (.getfield 50, 3) := fp_hdX8_tryTrick_0.1.1.2.1.2.2
theorem dX8_tryTrick_20 : decode cX8_tryTrick 20 = .ok (.if_icmp .ge 49, 3) := fp_hdX8_tryTrick_0.1.1.2.2.1.1
theorem dX8_tryTrick_23 : decode cX8_tryTrick 23 = .ok (.aload_n 0, 1) := fp_hdX8_tryTrick_0.1.1.2.2.1.2
theorem dX8_tryTrick_24 : decode cX8_tryTrick 24 = .ok (.getfield 17, 3) := fp_hdX8_tryTrick_0.1.1.2.2.2.1
theorem dX8_tryTrick_27 : decode cX8_tryTrick 27 = .ok (.iload 7, 2) := fp_hdX8_tryTrick_0.1.1.2.2.2.2
theorem dX8_tryTrick_29 : decode cX8_tryTrick 29 = .ok (.aaload, 1) := fp_hdX8_tryTrick_0.1.2.1.1.1.1
theorem dX8_tryTrick_30 : decode cX8_tryTrick 30 = .ok (.aload 6, 2) := fp_hdX8_tryTrick_0.1.2.1.1.1.2
theorem dX8_tryTrick_32 : decode cX8_tryTrick 32 = .ok (.invokevirtual 36, 3) := fp_hdX8_tryTrick_0.1.2.1.1.2.1
theorem dX8_tryTrick_35 : decode cX8_tryTrick 35 = .ok (.aload_n 0, 1) := fp_hdX8_tryTrick_0.1.2.1.1.2.2
theorem dX8_tryTrick_36 : decode cX8_tryTrick 36 = .ok (.getfield 20, 3) := fp_hdX8_tryTrick_0.1.2.1.2.1.1
theorem dX8_tryTrick_39 : decode cX8_tryTrick 39 = .ok (.iload 7, 2) := fp_hdX8_tryTrick_0.1.2.1.2.1.2
theorem dX8_tryTrick_41 : decode cX8_tryTrick 41 = .ok (.aload_n 0, 1) := fp_hdX8_tryTrick_0.1.2.1.2.2.1
theorem dX8_tryTrick_42 : decode cX8_tryTrick 42 = .ok (.getfield 17, 3) := fp_hdX8_tryTrick_0.1.2.1.2.2.2
theorem dX8_tryTrick_45 : decode cX8_tryTrick 45 = .ok (.iload 7, 2) := fp_hdX8_tryTrick_0.1.2.2.1.1.1
theorem dX8_tryTrick_47 : decode cX8_tryTrick 47 = .ok (.aaload, 1) := fp_hdX8_tryTrick_0.1.2.2.1.1.2
theorem dX8_tryTrick_48 : decode cX8_tryTrick 48 = .ok (.aload_n 3, 1) := fp_hdX8_tryTrick_0.1.2.2.1.2.1
theorem dX8_tryTrick_49 : decode cX8_tryTrick 49 = .ok (.getfield 56, 3) := fp_hdX8_tryTrick_0.1.2.2.1.2.2
theorem dX8_tryTrick_52 : decode cX8_tryTrick 52 = .ok (.iload 5, 2) := fp_hdX8_tryTrick_0.1.2.2.2.1.1
theorem dX8_tryTrick_54 : decode cX8_tryTrick 54 = .ok (.iaload, 1) := fp_hdX8_tryTrick_0.1.2.2.2.1.2
theorem dX8_tryTrick_55 : decode cX8_tryTrick 55 = .ok (.iload 5, 2) := fp_hdX8_tryTrick_0.1.2.2.2.2.1
theorem dX8_tryTrick_57 : decode cX8_tryTrick 57 = .ok (.iload 7, 2) := fp_hdX8_tryTrick_0.1.2.2.2.2.2
theorem fp_hdX8_tryTrick_59 : (((decode cX8_tryTrick 59 = .ok (.invokevirtual 59, 3) ∧ decode cX8_tryTrick 62 = .ok (.bastore, 1)) ∧ decode cX8_tryTrick 63 = .ok (.iinc 7 1, 3)) ∧ (decode cX8_tryTrick 66 = .ok (.goto (-52), 3) ∧ decode cX8_tryTrick 69 = .ok (.return_, 1))) ∧ bA cX8_tryTrick 70 [] :=
  have q0 := fp_o182 (v := 59) fp_hdX8_tryTrick_0.2 rfl
  have q1 := fp_o84 q0.2
  have q2 := fp_o132 (v := 1) q1.2 rfl
  have q3 := fp_o167 (v := (-52)) q2.2 rfl
  have q4 := fp_o177 q3.2
  ⟨⟨⟨⟨q0.1, q1.1⟩, q2.1⟩, ⟨q3.1, q4.1⟩⟩, q4.2⟩
theorem dX8_tryTrick_59 : decode cX8_tryTrick 59 = .ok (.invokevirtual 59, 3) := fp_hdX8_tryTrick_59.1.1.1.1
theorem dX8_tryTrick_62 : decode cX8_tryTrick 62 = .ok (.bastore, 1) := fp_hdX8_tryTrick_59.1.1.1.2
theorem dX8_tryTrick_63 : decode cX8_tryTrick 63 = .ok (.iinc 7 1, 3) := fp_hdX8_tryTrick_59.1.1.2
theorem dX8_tryTrick_66 : decode cX8_tryTrick 66 = .ok (.goto (-52), 3) := fp_hdX8_tryTrick_59.1.2.1
theorem dX8_tryTrick_69 : decode cX8_tryTrick 69 = .ok (.return_, 1) := fp_hdX8_tryTrick_59.1.2.2
def fp_scX8_goOnWithTrick_0 : List Nat := 3 :: 54 :: 4 :: 21 :: 4 :: 43 :: 180 :: 0 :: 50 :: 162 :: 0 :: 33 :: 42 :: 180 :: 0 :: 20 :: 21 :: 4 :: 51 :: 153 :: 0 :: 17 :: 44 :: 43 :: 42 :: 180 :: 0 :: 17 :: 21 :: 4 :: 50 :: 29 :: 182 :: 0 :: 40 :: 87 :: 132 :: 4 :: 1 :: 167 :: 255 :: 220 :: 177 :: []
theorem fp_bcX8_goOnWithTrick : bA cX8_goOnWithTrick 0 fp_scX8_goOnWithTrick_0 := show cX8_goOnWithTrick.data.toList.map UInt8.toNat = fp_scX8_goOnWithTrick_0 from by decide +kernel
theorem fp_hdX8_goOnWithTrick_0 : (((((decode cX8_goOnWithTrick 0 = .ok (.iconst 0, 1) ∧ decode cX8_goOnWithTrick 1 = .ok (.istore 4, 2)) ∧ decode cX8_goOnWithTrick 3 = .ok (.iload 4, 2)) ∧ ((decode cX8_goOnWithTrick 5 = .ok (.aload_n 1, 1) ∧ decode cX8_goOnWithTrick 6 = .ok (.getfield 50, 3)) ∧ decode cX8_goOnWithTrick 9 = .ok (.if_icmp .ge 33, 3))) ∧ (((decode cX8_goOnWithTrick 12 = .ok (.aload_n 0, 1) ∧ decode cX8_goOnWithTrick 13 = .ok (.getfield 20, 3)) ∧ decode cX8_goOnWithTrick 16 = .ok (.iload 4, 2)) ∧ ((decode cX8_goOnWithTrick 18 = .ok (.baload, 1) ∧ decode cX8_goOnWithTrick 19 = .ok (.ifCond .eq 17, 3)) ∧ decode cX8_goOnWithTrick 22 = .ok (.aload_n 2, 1)))) ∧ ((((decode cX8_goOnWithTrick 23 = .ok (.aload_n 1, 1) ∧ decode cX8_goOnWithTrick 24 = .ok (.aload_n 0, 1)) ∧ decode cX8_goOnWithTrick 25 = .ok (.getfield 17, 3)) ∧ ((decode cX8_goOnWithTrick 28 = .ok (.iload 4, 2) ∧ decode cX8_goOnWithTrick 30 = .ok (.aaload, 1)) ∧ decode cX8_goOnWithTrick 31 = .ok (.iload_n 3, 1))) ∧ (((decode cX8_goOnWithTrick 32 = .ok (.invokevirtual 40, 3) ∧ decode cX8_goOnWithTrick 35 = .ok (.pop, 1)) ∧ decode cX8_goOnWithTrick 36 = .ok (.iinc 4 1, 3)) ∧ (decode cX8_goOnWithTrick 39 = .ok (.goto (-36), 3) ∧ decode cX8_goOnWithTrick 42 = .ok (.return_, 1))))) ∧ bA cX8_goOnWithTrick 43 [] :=
  have q0 := fp_o3 fp_bcX8_goOnWithTrick
  have q1 := fp_o54 q0.2
  have q2 := fp_o21 q1.2
  have q3 := fp_o43 q2.2
  have q4 := fp_o180 (v := 50) q3.2 rfl
  have q5 := fp_o162 (v := 33) q4.2 rfl
  have q6 := fp_o42 q5.2
  have q7 := fp_o180 (v := 20) q6.2 rfl
  have q8 := fp_o21 q7.2
  have q9 := fp_o51 q8.2
  have q10 := fp_o153 (v := 17) q9.2 rfl
  have q11 := fp_o44 q10.2
  have q12 := fp_o43 q11.2
  have q13 := fp_o42 q12.2
  have q14 := fp_o180 (v := 17) q13.2 rfl
  have q15 := fp_o21 q14.2
  have q16 := fp_o50 q15.2
  have q17 := fp_o29 q16.2
  have q18 := fp_o182 (v := 40) q17.2 rfl
  have q19 := fp_o87 q18.2
  have q20 := fp_o132 (v := 1) q19.2 rfl
  have q21 := fp_o167 (v := (-36)) q20.2 rfl
  have q22 := fp_o177 q21.2
  ⟨⟨⟨⟨⟨⟨q0.1, q1.1⟩, q2.1⟩, ⟨⟨q3.1, q4.1⟩, q5.1⟩⟩, ⟨⟨⟨q6.1, q7.1⟩, q8.1⟩, ⟨⟨q9.1, q10.1⟩, q11.1⟩⟩⟩, ⟨⟨⟨⟨q12.1, q13.1⟩, q14.1⟩, ⟨⟨q15.1, q16.1⟩, q17.1⟩⟩, ⟨⟨⟨q18.1, q19.1⟩, q20.1⟩, ⟨q21.1, q22.1⟩⟩⟩⟩, q22.2⟩
theorem dX8_goOnWithTrick_0 : decode cX8_goOnWithTrick 0 = .ok (.iconst 0, 1) := fp_hdX8_goOnWithTrick_0.1.1.1.1.1.1
theorem dX8_goOnWithTrick_1 : decode cX8_goOnWithTrick 1 = .ok (.istore 4, 2) := fp_hdX8_goOnWithTrick_0.1.1.1.1.1.2
theorem dX8_goOnWithTrick_3 : decode cX8_goOnWithTrick 3 = .ok (.iload 4, 2) := fp_hdX8_goOnWithTrick_0.1.1.1.1.2
theorem dX8_goOnWithTrick_5 : decode cX8_goOnWithTrick 5 = .ok (.aload_n 1, 1) := fp_hdX8_goOnWithTrick_0.1.1.1.2.1.1
theorem dX8_goOnWithTrick_6 : decode cX8_goOnWithTrick 6 = .ok (.getfield 50, 3) := fp_hdX8_goOnWithTrick_0.1.1.1.2.1.2
theorem dX8_goOnWithTrick_9 : decode cX8_goOnWithTrick 9 = .ok (.if_icmp .ge 33, 3) := fp_hdX8_goOnWithTrick_0.1.1.1.2.2
theorem dX8_goOnWithTrick_12 : decode cX8_goOnWithTrick 12 = .ok (.aload_n 0, 1) := fp_hdX8_goOnWithTrick_0.1.1.2.1.1.1
theorem dX8_goOnWithTrick_13 : decode cX8_goOnWithTrick 13 = .ok (.getfield 20, 3) := fp_hdX8_goOnWithTrick_0.1.1.2.1.1.2
theorem dX8_goOnWithTrick_16 : decode cX8_goOnWithTrick 16 = .ok (.iload 4, 2) := fp_hdX8_goOnWithTrick_0.1.1.2.1.2
theorem dX8_goOnWithTrick_18 : decode cX8_goOnWithTrick 18 = .ok (.baload, 1) := fp_hdX8_goOnWithTrick_0.1.1.2.2.1.1
theorem dX8_goOnWithTrick_19 : decode cX8_goOnWithTrick 19 = .ok (.ifCond .eq 17, 3) := fp_hdX8_goOnWithTrick_0.1.1.2.2.1.2
theorem dX8_goOnWithTrick_22 : decode cX8_goOnWithTrick 22 = .ok (.aload_n 2, 1) := fp_hdX8_goOnWithTrick_0.1.1.2.2.2
theorem dX8_goOnWithTrick_23 : decode cX8_goOnWithTrick 23 = .ok (.aload_n 1, 1) := fp_hdX8_goOnWithTrick_0.1.2.1.1.1.1
theorem dX8_goOnWithTrick_24 : decode cX8_goOnWithTrick 24 = .ok (.aload_n 0, 1) := fp_hdX8_goOnWithTrick_0.1.2.1.1.1.2
theorem dX8_goOnWithTrick_25 : decode cX8_goOnWithTrick 25 = .ok (.getfield 17, 3) := fp_hdX8_goOnWithTrick_0.1.2.1.1.2
theorem dX8_goOnWithTrick_28 : decode cX8_goOnWithTrick 28 = .ok (.iload 4, 2) := fp_hdX8_goOnWithTrick_0.1.2.1.2.1.1
theorem dX8_goOnWithTrick_30 : decode cX8_goOnWithTrick 30 = .ok (.aaload, 1) := fp_hdX8_goOnWithTrick_0.1.2.1.2.1.2
theorem dX8_goOnWithTrick_31 : decode cX8_goOnWithTrick 31 = .ok (.iload_n 3, 1) := fp_hdX8_goOnWithTrick_0.1.2.1.2.2
theorem dX8_goOnWithTrick_32 : decode cX8_goOnWithTrick 32 = .ok (.invokevirtual 40, 3) := fp_hdX8_goOnWithTrick_0.1.2.2.1.1.1
theorem dX8_goOnWithTrick_35 : decode cX8_goOnWithTrick 35 = .ok (.pop, 1) := fp_hdX8_goOnWithTrick_0.1.2.2.1.1.2
theorem dX8_goOnWithTrick_36 : decode cX8_goOnWithTrick 36 = .ok (.iinc 4 1, 3) := fp_hdX8_goOnWithTrick_0.1.2.2.1.2
theorem dX8_goOnWithTrick_39 : decode cX8_goOnWithTrick 39 = .ok (.goto (-36), 3) := fp_hdX8_goOnWithTrick_0.1.2.2.2.1
theorem dX8_goOnWithTrick_42 : decode cX8_goOnWithTrick 42 = .ok (.return_, 1) := fp_hdX8_goOnWithTrick_0.1.2.2.2.2
def fp_scX8_lineTrickedOf_0 : List Nat := 3 :: 62 :: 29 :: 43 :: 180 :: 0 :: 50 :: 162 :: 0 :: 35 :: 42 :: 180 :: 0 :: 20 :: 29 :: 51 :: 153 :: 0 :: 20 :: 42 :: 180 :: 0 :: 17 :: 29 :: 50 :: 43 :: 29 :: 182 :: 0 :: 63 :: 28 :: 160 :: 0 :: 5 :: 29 :: 172 :: 132 :: 3 :: 1 :: 167 :: 255 :: 219 :: 16 :: 252 :: 172 :: []
theorem fp_bcX8_lineTrickedOf : bA cX8_lineTrickedOf 0 fp_scX8_lineTrickedOf_0 := show cX8_lineTrickedOf.data.toList.map UInt8.toNat = fp_scX8_lineTrickedOf_0 from by decide +kernel
theorem fp_hdX8_lineTrickedOf_0 : (((((decode cX8_lineTrickedOf 0 = .ok (.iconst 0, 1) ∧ decode cX8_lineTrickedOf 1 = .ok (.istore_n 3, 1)) ∧ (decode cX8_lineTrickedOf 2 = .ok (.iload_n 3, 1) ∧ decode cX8_lineTrickedOf 3 = .ok (.aload_n 1, 1))) ∧ ((decode cX8_lineTrickedOf 4 = .ok (.getfield 50, 3) ∧ decode cX8_lineTrickedOf 7 = .ok (.if_icmp .ge 35, 3)) ∧ decode cX8_lineTrickedOf 10 = .ok (.aload_n 0, 1))) ∧ (((decode cX8_lineTrickedOf 11 = .ok (.getfield 20, 3) ∧ decode cX8_lineTrickedOf 14 = .ok (.iload_n 3, 1)) ∧ decode cX8_lineTrickedOf 15 = .ok (.baload, 1)) ∧ ((decode cX8_lineTrickedOf 16 = .ok (.ifCond .eq 20, 3) ∧ decode cX8_lineTrickedOf 19 = .ok (.aload_n 0, 1)) ∧ decode cX8_lineTrickedOf 20 = .ok (.getfield 17, 3)))) ∧ ((((decode cX8_lineTrickedOf 23 = .ok (.iload_n 3, 1) ∧ decode cX8_lineTrickedOf 24 = .ok (.aaload, 1)) ∧ (decode cX8_lineTrickedOf 25 = .ok (.aload_n 1, 1) ∧ decode cX8_lineTrickedOf 26 = .ok (.iload_n 3, 1))) ∧ ((decode cX8_lineTrickedOf 27 = .ok (.invokevirtual 63, 3) ∧ decode cX8_lineTrickedOf 30 = .ok (.iload_n 2, 1)) ∧ decode cX8_lineTrickedOf 31 = .ok (.if_icmp .ne 5, 3))) ∧ (((decode cX8_lineTrickedOf 34 = .ok (.iload_n 3, 1) ∧ decode cX8_lineTrickedOf 35 = .ok (.ireturn, 1)) ∧ decode cX8_lineTrickedOf 36 = .ok (.iinc 3 1, 3)) ∧ ((decode cX8_lineTrickedOf 39 = .ok (.goto (-37), 3) ∧ decode cX8_lineTrickedOf 42 = .ok (.bipush (-4), 2)) ∧ decode cX8_lineTrickedOf 44 = .ok (.ireturn, 1))))) ∧ bA cX8_lineTrickedOf 45 [] :=
  have q0 := fp_o3 fp_bcX8_lineTrickedOf
  have q1 := fp_o62 q0.2
  have q2 := fp_o29 q1.2
  have q3 := fp_o43 q2.2
  have q4 := fp_o180 (v := 50) q3.2 rfl
  have q5 := fp_o162 (v := 35) q4.2 rfl
  have q6 := fp_o42 q5.2
  have q7 := fp_o180 (v := 20) q6.2 rfl
  have q8 := fp_o29 q7.2
  have q9 := fp_o51 q8.2
  have q10 := fp_o153 (v := 20) q9.2 rfl
  have q11 := fp_o42 q10.2
  have q12 := fp_o180 (v := 17) q11.2 rfl
  have q13 := fp_o29 q12.2
  have q14 := fp_o50 q13.2
  have q15 := fp_o43 q14.2
  have q16 := fp_o29 q15.2
  have q17 := fp_o182 (v := 63) q16.2 rfl
  have q18 := fp_o28 q17.2
  have q19 := fp_o160 (v := 5) q18.2 rfl
  have q20 := fp_o29 q19.2
  have q21 := fp_o172 q20.2
  have q22 := fp_o132 (v := 1) q21.2 rfl
  have q23 := fp_o167 (v := (-37)) q22.2 rfl
  have q24 := fp_o16 (v := (-4)) q23.2 rfl
  have q25 := fp_o172 q24.2
  ⟨⟨⟨⟨⟨⟨q0.1, q1.1⟩, ⟨q2.1, q3.1⟩⟩, ⟨⟨q4.1, q5.1⟩, q6.1⟩⟩, ⟨⟨⟨q7.1, q8.1⟩, q9.1⟩, ⟨⟨q10.1, q11.1⟩, q12.1⟩⟩⟩, ⟨⟨⟨⟨q13.1, q14.1⟩, ⟨q15.1, q16.1⟩⟩, ⟨⟨q17.1, q18.1⟩, q19.1⟩⟩, ⟨⟨⟨q20.1, q21.1⟩, q22.1⟩, ⟨⟨q23.1, q24.1⟩, q25.1⟩⟩⟩⟩, q25.2⟩
theorem dX8_lineTrickedOf_0 : decode cX8_lineTrickedOf 0 = .ok (.iconst 0, 1) := fp_hdX8_lineTrickedOf_0.1.1.1.1.1.1
theorem dX8_lineTrickedOf_1 : decode cX8_lineTrickedOf 1 = .ok (.istore_n 3, 1) := fp_hdX8_lineTrickedOf_0.1.1.1.1.1.2
theorem dX8_lineTrickedOf_2 : decode cX8_lineTrickedOf 2 = .ok (.iload_n 3, 1) := fp_hdX8_lineTrickedOf_0.1.1.1.1.2.1
theorem dX8_lineTrickedOf_3 : decode cX8_lineTrickedOf 3 = .ok (.aload_n 1, 1) := fp_hdX8_lineTrickedOf_0.1.1.1.1.2.2
theorem dX8_lineTrickedOf_4 : decode cX8_lineTrickedOf 4 = .ok (.getfield 50, 3) := fp_hdX8_lineTrickedOf_0.1.1.1.2.1.1
theorem dX8_lineTrickedOf_7 : decode cX8_lineTrickedOf 7 = .ok (.if_icmp .ge 35, 3) := fp_hdX8_lineTrickedOf_0.1.1.1.2.1.2
theorem dX8_lineTrickedOf_10 : decode cX8_lineTrickedOf 10 = .ok (.aload_n 0, 1) := fp_hdX8_lineTrickedOf_0.1.1.1.2.2
theorem dX8_lineTrickedOf_11 : decode cX8_lineTrickedOf 11 = .ok (.getfield 20, 3) := fp_hdX8_lineTrickedOf_0.1.1.2.1.1.1
theorem dX8_lineTrickedOf_14 : decode cX8_lineTrickedOf 14 = .ok (.iload_n 3, 1) := fp_hdX8_lineTrickedOf_0.1.1.2.1.1.2
theorem dX8_lineTrickedOf_15 : decode cX8_lineTrickedOf 15 = .ok (.baload, 1) := fp_hdX8_lineTrickedOf_0.1.1.2.1.2
theorem dX8_lineTrickedOf_16 : decode cX8_lineTrickedOf 16 = .ok (.ifCond .eq 20, 3) := fp_hdX8_lineTrickedOf_0.1.1.2.2.1.1
theorem dX8_lineTrickedOf_19 : decode cX8_lineTrickedOf 19 = .ok (.aload_n 0, 1) := fp_hdX8_lineTrickedOf_0.1.1.2.2.1.2
theorem dX8_lineTrickedOf_20 : decode cX8_lineTrickedOf 20 = .ok (.getfield 17, 3) := fp_hdX8_lineTrickedOf_0.1.1.2.2.2
theorem dX8_lineTrickedOf_23 : decode cX8_lineTrickedOf 23 = .ok (.iload_n 3, 1) := fp_hdX8_lineTrickedOf_0.1.2.1.1.1.1
theorem dX8_lineTrickedOf_24 : decode cX8_lineTrickedOf 24 = .ok (.aaload, 1) := fp_hdX8_lineTrickedOf_0.1.2.1.1.1.2
theorem dX8_lineTrickedOf_25 : decode cX8_lineTrickedOf 25 = .ok (.aload_n 1, 1) := fp_hdX8_lineTrickedOf_0.1.2.1.1.2.1
theorem dX8_lineTrickedOf_26 : decode cX8_lineTrickedOf 26 = .ok (.iload_n 3, 1) := fp_hdX8_lineTrickedOf_0.1.2.1.1.2.2
theorem dX8_lineTrickedOf_27 : decode cX8_lineTrickedOf 27 = .ok (.invokevirtual 63, 3) := fp_hdX8_lineTrickedOf_0.1.2.1.2.1.1
theorem dX8_lineTrickedOf_30 : decode cX8_lineTrickedOf 30 = .ok (.iload_n 2, 1) := fp_hdX8_lineTrickedOf_0.1.2.1.2.1.2
theorem dX8_lineTrickedOf_31 : decode cX8_lineTrickedOf 31 = .ok (.if_icmp .ne 5, 3) := fp_hdX8_lineTrickedOf_0.1.2.1.2.2
theorem dX8_lineTrickedOf_34 : decode cX8_lineTrickedOf 34 = .ok (.iload_n 3, 1) := fp_hdX8_lineTrickedOf_0.1.2.2.1.1.1
theorem dX8_lineTrickedOf_35 : decode cX8_lineTrickedOf 35 = .ok (.ireturn, 1) := fp_hdX8_lineTrickedOf_0.1.2.2.1.1.2
theorem dX8_lineTrickedOf_36 : decode cX8_lineTrickedOf 36 = .ok (.iinc 3 1, 3) := fp_hdX8_lineTrickedOf_0.1.2.2.1.2
theorem dX8_lineTrickedOf_39 : decode cX8_lineTrickedOf 39 = .ok (.goto (-37), 3) := fp_hdX8_lineTrickedOf_0.1.2.2.2.1.1
theorem dX8_lineTrickedOf_42 : decode cX8_lineTrickedOf 42 = .ok (.bipush (-4), 2) := fp_hdX8_lineTrickedOf_0.1.2.2.2.1.2
theorem dX8_lineTrickedOf_44 : decode cX8_lineTrickedOf 44 = .ok (.ireturn, 1) := fp_hdX8_lineTrickedOf_0.1.2.2.2.2
def fp_scX8_findMost_0 : List Nat := 42 :: 180 :: 0 :: 11 :: 3 :: 50 :: 45 :: 182 :: 0 :: 36 :: 42 :: 16 :: 252 :: 181 :: 0 :: 67 :: 42 :: 180 :: 0 :: 28 :: 16 :: 252 :: 184 :: 0 :: 70 :: 42 :: 43 :: 44 :: 21 :: 4 :: 3 :: 182 :: 0 :: 76 :: 177 :: []
theorem fp_bcX8_findMost : bA cX8_findMost 0 fp_scX8_findMost_0 := show cX8_findMost.data.toList.map UInt8.toNat = fp_scX8_findMost_0 from by decide +kernel
theorem fp_hdX8_findMost_0 : (((((decode cX8_findMost 0 = .ok (.aload_n 0, 1) ∧ decode cX8_findMost 1 = .ok (.getfield 11, 3)) ∧ decode cX8_findMost 4 = .ok (.iconst 0, 1)) ∧ (decode cX8_findMost 5 = .ok (.aaload, 1) ∧ decode cX8_findMost 6 = .ok (.aload_n 3, 1))) ∧ (((decode cX8_findMost 7 = .ok (.invokevirtual 36, 3) ∧ decode cX8_findMost 10 = .ok (.aload_n 0, 1)) ∧ decode cX8_findMost 11 = .ok (.bipush (-4), 2)) ∧ (decode cX8_findMost 13 = .ok (.putfield 67, 3) ∧ decode cX8_findMost 16 = .ok (.aload_n 0, 1)))) ∧ ((((decode cX8_findMost 17 = .ok (.getfield 28, 3) ∧ decode cX8_findMost 20 = .ok (.bipush (-4), 2)) ∧ decode cX8_findMost 22 = .ok (.invokestatic 70, 3)) ∧ (decode cX8_findMost 25 = .ok (.aload_n 0, 1) ∧ decode cX8_findMost 26 = .ok (.aload_n 1, 1))) ∧ (((decode cX8_findMost 27 = .ok (.aload_n 2, 1) ∧ decode cX8_findMost 28 = .ok (.iload 4, 2)) ∧ decode cX8_findMost 30 = .ok (.iconst 0, 1)) ∧ (decode cX8_findMost 31 = .ok (.invokevirtual 76, 3) ∧ decode cX8_findMost 34 = .ok (.return_, 1))))) ∧ bA cX8_findMost 35 [] :=
  have q0 := fp_o42 fp_bcX8_findMost
  have q1 := fp_o180 (v := 11) q0.2 rfl
  have q2 := fp_o3 q1.2
  have q3 := fp_o50 q2.2
  have q4 := fp_o45 q3.2
  have q5 := fp_o182 (v := 36) q4.2 rfl
  have q6 := fp_o42 q5.2
  have q7 := fp_o16 (v := (-4)) q6.2 rfl
  have q8 := fp_o181 (v := 67) q7.2 rfl
  have q9 := fp_o42 q8.2
  have q10 := fp_o180 (v := 28) q9.2 rfl
  have q11 := fp_o16 (v := (-4)) q10.2 rfl
  have q12 := fp_o184 (v := 70) q11.2 rfl
  have q13 := fp_o42 q12.2
  have q14 := fp_o43 q13.2
  have q15 := fp_o44 q14.2
  have q16 := fp_o21 q15.2
  have q17 := fp_o3 q16.2
  have q18 := fp_o182 (v := 76) q17.2 rfl
  have q19 := fp_o177 q18.2
  ⟨⟨⟨⟨⟨⟨q0.1, q1.1⟩, q2.1⟩, ⟨q3.1, q4.1⟩⟩, ⟨⟨⟨q5.1, q6.1⟩, q7.1⟩, ⟨q8.1, q9.1⟩⟩⟩, ⟨⟨⟨⟨q10.1, q11.1⟩, q12.1⟩, ⟨q13.1, q14.1⟩⟩, ⟨⟨⟨q15.1, q16.1⟩, q17.1⟩, ⟨q18.1, q19.1⟩⟩⟩⟩, q19.2⟩
theorem dX8_findMost_0 : decode cX8_findMost 0 = .ok (.aload_n 0, 1) := fp_hdX8_findMost_0.1.1.1.1.1.1
theorem dX8_findMost_1 : decode cX8_findMost 1 = .ok (.getfield 11, 3) := fp_hdX8_findMost_0.1.1.1.1.1.2
theorem dX8_findMost_4 : decode cX8_findMost 4 = .ok (.iconst 0, 1) := fp_hdX8_findMost_0.1.1.1.1.2
theorem dX8_findMost_5 : decode cX8_findMost 5 = .ok (.aaload, 1) := fp_hdX8_findMost_0.1.1.1.2.1
theorem dX8_findMost_6 : decode cX8_findMost 6 = .ok (.aload_n 3, 1) := fp_hdX8_findMost_0.1.1.1.2.2
theorem dX8_findMost_7 : decode cX8_findMost 7 = .ok (.invokevirtual 36, 3) := fp_hdX8_findMost_0.1.1.2.1.1.1
theorem dX8_findMost_10 : decode cX8_findMost 10 = .ok (.aload_n 0, 1) := fp_hdX8_findMost_0.1.1.2.1.1.2
theorem dX8_findMost_11 : decode cX8_findMost 11 = .ok (.bipush (-4), 2) := fp_hdX8_findMost_0.1.1.2.1.2
theorem dX8_findMost_13 : decode cX8_findMost 13 = .ok (.putfield 67, 3) := fp_hdX8_findMost_0.1.1.2.2.1
theorem dX8_findMost_16 : decode cX8_findMost 16 = .ok (.aload_n 0, 1) := fp_hdX8_findMost_0.1.1.2.2.2
theorem dX8_findMost_17 : decode cX8_findMost 17 = .ok (.getfield 28, 3) := fp_hdX8_findMost_0.1.2.1.1.1.1
theorem dX8_findMost_20 : decode cX8_findMost 20 = .ok (.bipush (-4), 2) := fp_hdX8_findMost_0.1.2.1.1.1.2
theorem dX8_findMost_22 : decode cX8_findMost 22 = .ok (.invokestatic 70, 3) := fp_hdX8_findMost_0.1.2.1.1.2
theorem dX8_findMost_25 : decode cX8_findMost 25 = .ok (.aload_n 0, 1) := fp_hdX8_findMost_0.1.2.1.2.1
theorem dX8_findMost_26 : decode cX8_findMost 26 = .ok (.aload_n 1, 1) := fp_hdX8_findMost_0.1.2.1.2.2
theorem dX8_findMost_27 : decode cX8_findMost 27 = .ok (.aload_n 2, 1) := fp_hdX8_findMost_0.1.2.2.1.1.1
theorem dX8_findMost_28 : decode cX8_findMost 28 = .ok (.iload 4, 2) := fp_hdX8_findMost_0.1.2.2.1.1.2
theorem dX8_findMost_30 : decode cX8_findMost 30 = .ok (.iconst 0, 1) := fp_hdX8_findMost_0.1.2.2.1.2
theorem dX8_findMost_31 : decode cX8_findMost 31 = .ok (.invokevirtual 76, 3) := fp_hdX8_findMost_0.1.2.2.2.1
theorem dX8_findMost_34 : decode cX8_findMost 34 = .ok (.return_, 1) := fp_hdX8_findMost_0.1.2.2.2.2
def fp_scX8_tryLines_3 : List Nat := 177 :: []
def fp_scX8_tryLines_2 : List Nat := 50 :: 42 :: 180 :: 0 :: 11 :: 21 :: 4 :: 50 :: 182 :: 0 :: 36 :: 42 :: 180 :: 0 :: 11 :: 21 :: 4 :: 4 :: 96 :: 50 :: 43 :: 29 :: 21 :: 5 :: 182 :: 0 :: 94 :: 87 :: 42 :: 180 :: 0 :: 28 :: 21 :: 4 :: 21 :: 5 :: 79 :: 42 :: 43 :: 44 :: 29 :: 21 :: 4 :: 4 :: 96 :: 182 :: 0 :: 76 :: 132 :: 5 :: 1 :: 167 :: 255 :: 188 :: fp_scX8_tryLines_3
def fp_scX8_tryLines_1 : List Nat := 182 :: 0 :: 36 :: 44 :: 43 :: 42 :: 180 :: 0 :: 11 :: 21 :: 4 :: 4 :: 96 :: 50 :: 21 :: 4 :: 182 :: 0 :: 40 :: 87 :: 42 :: 43 :: 44 :: 29 :: 21 :: 4 :: 4 :: 96 :: 182 :: 0 :: 76 :: 177 :: 3 :: 54 :: 5 :: 21 :: 5 :: 43 :: 180 :: 0 :: 50 :: 162 :: 0 :: 65 :: 42 :: 180 :: 0 :: 11 :: 21 :: 4 :: 4 :: 96 :: fp_scX8_tryLines_2
def fp_scX8_tryLines_0 : List Nat := 21 :: 4 :: 16 :: 12 :: 162 :: 0 :: 12 :: 21 :: 4 :: 44 :: 180 :: 0 :: 80 :: 161 :: 0 :: 20 :: 42 :: 42 :: 180 :: 0 :: 11 :: 21 :: 4 :: 50 :: 43 :: 29 :: 182 :: 0 :: 83 :: 182 :: 0 :: 86 :: 177 :: 44 :: 29 :: 21 :: 4 :: 182 :: 0 :: 90 :: 154 :: 0 :: 51 :: 42 :: 180 :: 0 :: 11 :: 21 :: 4 :: 4 :: 96 :: 50 :: 42 :: 180 :: 0 :: 11 :: 21 :: 4 :: 50 :: fp_scX8_tryLines_1
theorem fp_bcX8_tryLines : bA cX8_tryLines 0 fp_scX8_tryLines_0 := show cX8_tryLines.data.toList.map UInt8.toNat = fp_scX8_tryLines_0 from by decide +kernel
theorem fp_hdX8_tryLines_0 : (((((decode cX8_tryLines 0 = .ok (.iload 4, 2) ∧ decode cX8_tryLines 2 = .ok (.bipush 12, 2)) ∧ (decode cX8_tryLines 4 = .ok (.if_icmp .ge 12, 3) ∧ decode cX8_tryLines 7 = .ok (.iload 4, 2))) ∧ ((decode cX8_tryLines 9 = .ok (.aload_n 2, 1) ∧ decode cX8_tryLines 10 = .ok (.getfield 80, 3)) ∧ (decode cX8_tryLines 13 = .ok (.if_icmp .lt 20, 3) ∧ decode cX8_tryLines 16 = .ok (.aload_n 0, 1)))) ∧ (((decode cX8_tryLines 17 = .ok (.aload_n 0, 1) ∧ decode cX8_tryLines 18 = .ok (.getfield 11, 3)) ∧ (decode cX8_tryLines 21 = .ok (.iload 4, 2) ∧ decode cX8_tryLines 23 = .ok (.aaload, 1))) ∧ ((decode cX8_tryLines 24 = .ok (.aload_n 1, 1) ∧ decode cX8_tryLines 25 = .ok (.iload_n 3, 1)) ∧ (decode cX8_tryLines 26 = .ok (.invokevirtual 83, 3) ∧ decode cX8_tryLines 29 = .ok (.invokevirtual 86, 3))))) ∧ ((((decode cX8_tryLines 32 = .ok (.return_, 1) ∧ decode cX8_tryLines 33 = .ok (.aload_n 2, 1)) ∧ (decode cX8_tryLines 34 = .ok (.iload_n 3, 1) ∧ decode cX8_tryLines 35 = .ok (.iload 4, 2))) ∧ ((decode cX8_tryLines 37 = .ok (.invokevirtual 90, 3) ∧ decode cX8_tryLines 40 = .ok (.ifCond .ne 51, 3)) ∧ (decode cX8_tryLines 43 = .ok (.aload_n 0, 1) ∧ decode cX8_tryLines 44 = .ok (.getfield 11, 3)))) ∧ (((decode cX8_tryLines 47 = .ok (.iload 4, 2) ∧ decode cX8_tryLines 49 = .ok (.iconst 1, 1)) ∧ (decode cX8_tryLines 50 = .ok (.iadd, 1) ∧ decode cX8_tryLines 51 = .ok (.aaload, 1))) ∧ ((decode cX8_tryLines 52 = .ok (.aload_n 0, 1) ∧ decode cX8_tryLines 53 = .ok (.getfield 11, 3)) ∧ (decode cX8_tryLines 56 = .ok (.iload 4, 2) ∧ decode cX8_tryLines 58 = .ok (.aaload, 1)))))) ∧ bA cX8_tryLines 59 fp_scX8_tryLines_1 :=
  have q0 := fp_o21 fp_bcX8_tryLines
  have q1 := fp_o16 (v := 12) q0.2 rfl
  have q2 := fp_o162 (v := 12) q1.2 rfl
  have q3 := fp_o21 q2.2
  have q4 := fp_o44 q3.2
  have q5 := fp_o180 (v := 80) q4.2 rfl
  have q6 := fp_o161 (v := 20) q5.2 rfl
  have q7 := fp_o42 q6.2
  have q8 := fp_o42 q7.2
  have q9 := fp_o180 (v := 11) q8.2 rfl
  have q10 := fp_o21 q9.2
  have q11 := fp_o50 q10.2
  have q12 := fp_o43 q11.2
  have q13 := fp_o29 q12.2
  have q14 := fp_o182 (v := 83) q13.2 rfl
  have q15 := fp_o182 (v := 86) q14.2 rfl
  have q16 := fp_o177 q15.2
  have q17 := fp_o44 q16.2
  have q18 := fp_o29 q17.2
  have q19 := fp_o21 q18.2
  have q20 := fp_o182 (v := 90) q19.2 rfl
  have q21 := fp_o154 (v := 51) q20.2 rfl
  have q22 := fp_o42 q21.2
  have q23 := fp_o180 (v := 11) q22.2 rfl
  have q24 := fp_o21 q23.2
  have q25 := fp_o4 q24.2
  have q26 := fp_o96 q25.2
  have q27 := fp_o50 q26.2
  have q28 := fp_o42 q27.2
  have q29 := fp_o180 (v := 11) q28.2 rfl
  have q30 := fp_o21 q29.2
  have q31 := fp_o50 q30.2
  ⟨⟨⟨⟨⟨⟨q0.1, q1.1⟩, ⟨q2.1, q3.1⟩⟩, ⟨⟨q4.1, q5.1⟩, ⟨q6.1, q7.1⟩⟩⟩, ⟨⟨⟨q8.1, q9.1⟩, ⟨q10.1, q11.1⟩⟩, ⟨⟨q12.1, q13.1⟩, ⟨q14.1, q15.1⟩⟩⟩⟩, ⟨⟨⟨⟨q16.1, q17.1⟩, ⟨q18.1, q19.1⟩⟩, ⟨⟨q20.1, q21.1⟩, ⟨q22.1, q23.1⟩⟩⟩, ⟨⟨⟨q24.1, q25.1⟩, ⟨q26.1, q27.1⟩⟩, ⟨⟨q28.1, q29.1⟩, ⟨q30.1, q31.1⟩⟩⟩⟩⟩, q31.2⟩
theorem dX8_tryLines_0 : decode cX8_tryLines 0 = .ok (.iload 4, 2) := fp_hdX8_tryLines_0.1.1.1.1.1.1
theorem dX8_tryLines_2 : decode cX8_tryLines 2 = .ok (.bipush 12, 2) := fp_hdX8_tryLines_0.1.1.1.1.1.2
theorem dX8_tryLines_4 : decode cX8_tryLines 4 = .ok (.if_icmp .ge 12, 3) := fp_hdX8_tryLines_0.1.1.1.1.2.1
theorem dX8_tryLines_7 : decode cX8_tryLines 7 = .ok (.iload 4, 2) := fp_hdX8_tryLines_0.1.1.1.1.2.2
theorem dX8_tryLines_9 : decode cX8_tryLines 9 = .ok (.aload_n 2, 1) := fp_hdX8_tryLines_0.1.1.1.2.1.1
theorem dX8_tryLines_10 : decode cX8_tryLines 10 = .ok (.getfield 80, 3) := fp_hdX8_tryLines_0.1.1.1.2.1.2
theorem dX8_tryLines_13 : decode cX8_tryLines 13 = .ok (.if_icmp .lt 20, 3) := fp_hdX8_tryLines_0.1.1.1.2.2.1
theorem dX8_tryLines_16 : decode cX8_tryLines 16 = .ok (.aload_n 0, 1) := fp_hdX8_tryLines_0.1.1.1.2.2.2
theorem dX8_tryLines_17 : decode cX8_tryLines 17 = .ok (.aload_n 0, 1) := fp_hdX8_tryLines_0.1.1.2.1.1.1
theorem dX8_tryLines_18 : decode cX8_tryLines 18 = .ok (.getfield 11, 3) := fp_hdX8_tryLines_0.1.1.2.1.1.2
theorem dX8_tryLines_21 : decode cX8_tryLines 21 = .ok (.iload 4, 2) := fp_hdX8_tryLines_0.1.1.2.1.2.1
theorem dX8_tryLines_23 : decode cX8_tryLines 23 = .ok (.aaload, 1) := fp_hdX8_tryLines_0.1.1.2.1.2.2
theorem dX8_tryLines_24 : decode cX8_tryLines 24 = .ok (.aload_n 1, 1) := fp_hdX8_tryLines_0.1.1.2.2.1.1
theorem dX8_tryLines_25 : decode cX8_tryLines 25 = .ok (.iload_n 3, 1) := fp_hdX8_tryLines_0.1.1.2.2.1.2
theorem dX8_tryLines_26 : decode cX8_tryLines 26 = .ok (.invokevirtual 83, 3) := fp_hdX8_tryLines_0.1.1.2.2.2.1
theorem dX8_tryLines_29 : decode cX8_tryLines 29 = .ok (.invokevirtual 86, 3) := fp_hdX8_tryLines_0.1.1.2.2.2.2
theorem dX8_tryLines_32 : decode cX8_tryLines 32 = .ok (.return_, 1) := fp_hdX8_tryLines_0.1.2.1.1.1.1
theorem dX8_tryLines_33 : decode cX8_tryLines 33 = .ok (.aload_n 2, 1) := fp_hdX8_tryLines_0.1.2.1.1.1.2
theorem dX8_tryLines_34 : decode cX8_tryLines 34 = .ok (.iload_n 3, 1) := fp_hdX8_tryLines_0.1.2.1.1.2.1
theorem dX8_tryLines_35 : decode cX8_tryLines 35 = .ok (.iload 4, 2) := fp_hdX8_tryLines_0.1.2.1.1.2.2
theorem dX8_tryLines_37 : decode cX8_tryLines 37 = .ok (.invokevirtual 90, 3) := fp_hdX8_tryLines_0.1.2.1.2.1.1
theorem dX8_tryLines_40 : decode cX8_tryLines 40 = .ok (.ifCond .ne 51, 3) := fp_hdX8_tryLines_0.1.2.1.2.1.2
theorem dX8_tryLines_43 : decode cX8_tryLines 43 = .ok (.aload_n 0, 1) := fp_hdX8_tryLines_0.1.2.1.2.2.1
theorem dX8_tryLines_44 : decode cX8_tryLines 44 = .ok (.getfield 11, 3) := fp_hdX8_tryLines_0.1.2.1.2.2.2
theorem dX8_tryLines_47 : decode cX8_tryLines 47 = .ok (.iload 4, 2) := fp_hdX8_tryLines_0.1.2.2.1.1.1
theorem dX8_tryLines_49 : decode cX8_tryLines 49 = .ok (.iconst 1, 1) := fp_hdX8_tryLines_0.1.2.2.1.1.2
theorem dX8_tryLines_50 : decode cX8_tryLines 50 = .ok (.iadd, 1) := fp_hdX8_tryLines_0.1.2.2.1.2.1
theorem dX8_tryLines_51 : decode cX8_tryLines 51 = .ok (.aaload, 1) := fp_hdX8_tryLines_0.1.2.2.1.2.2
theorem dX8_tryLines_52 : decode cX8_tryLines 52 = .ok (.aload_n 0, 1) := fp_hdX8_tryLines_0.1.2.2.2.1.1
theorem dX8_tryLines_53 : decode cX8_tryLines 53 = .ok (.getfield 11, 3) := fp_hdX8_tryLines_0.1.2.2.2.1.2
theorem dX8_tryLines_56 : decode cX8_tryLines 56 = .ok (.iload 4, 2) := fp_hdX8_tryLines_0.1.2.2.2.2.1
theorem dX8_tryLines_58 : decode cX8_tryLines 58 = .ok (.aaload, 1) := fp_hdX8_tryLines_0.1.2.2.2.2.2
theorem fp_hdX8_tryLines_59 : (((((decode cX8_tryLines 59 = .ok (.invokevirtual 36, 3) ∧ decode cX8_tryLines 62 = .ok (.aload_n 2, 1)) ∧ (decode cX8_tryLines 63 = .ok (.aload_n 1, 1) ∧ decode cX8_tryLines 64 = .ok (.aload_n 0, 1))) ∧ ((decode cX8_tryLines 65 = .ok (.getfield 11, 3) ∧ decode cX8_tryLines 68 = .ok (.iload 4, 2)) ∧ (decode cX8_tryLines 70 = .ok (.iconst 1, 1) ∧ decode cX8_tryLines 71 = .ok (.iadd, 1)))) ∧ (((decode cX8_tryLines 72 = .ok (.aaload, 1) ∧ decode cX8_tryLines 73 = .ok (.iload 4, 2)) ∧ (decode cX8_tryLines 75 = .ok (.invokevirtual 40, 3) ∧ decode cX8_tryLines 78 = .ok (.pop, 1))) ∧ ((decode cX8_tryLines 79 = .ok (.aload_n 0, 1) ∧ decode cX8_tryLines 80 = .ok (.aload_n 1, 1)) ∧ (decode cX8_tryLines 81 = .ok (.aload_n 2, 1) ∧ decode cX8_tryLines 82 = .ok (.iload_n 3, 1))))) ∧ ((((decode cX8_tryLines 83 = .ok (.iload 4, 2) ∧ decode cX8_tryLines 85 = .ok (.iconst 1, 1)) ∧ (decode cX8_tryLines 86 = .ok (.iadd, 1) ∧ decode cX8_tryLines 87 = .ok (.invokevirtual 76, 3))) ∧ ((decode cX8_tryLines 90 = .ok (.return_, 1) ∧ decode cX8_tryLines 91 = .ok (.iconst 0, 1)) ∧ (decode cX8_tryLines 92 = .ok (.istore 5, 2) ∧ decode cX8_tryLines 94 = .ok (.iload 5, 2)))) ∧ (((decode cX8_tryLines 96 = .ok (.aload_n 1, 1) ∧ decode cX8_tryLines 97 = .ok (.getfield 50, 3)) ∧ (decode cX8_tryLines 100 = .ok (.if_icmp .ge 65, 3) ∧ decode cX8_tryLines 103 = .ok (.aload_n 0, 1))) ∧ ((decode cX8_tryLines 104 = .ok (.getfield 11, 3) ∧ decode cX8_tryLines 107 = .ok (.iload 4, 2)) ∧ (decode cX8_tryLines 109 = .ok (.iconst 1, 1) ∧ decode cX8_tryLines 110 = .ok (.iadd, 1)))))) ∧ bA cX8_tryLines 111 fp_scX8_tryLines_2 :=
  have q0 := fp_o182 (v := 36) fp_hdX8_tryLines_0.2 rfl
  have q1 := fp_o44 q0.2
  have q2 := fp_o43 q1.2
  have q3 := fp_o42 q2.2
  have q4 := fp_o180 (v := 11) q3.2 rfl
  have q5 := fp_o21 q4.2
  have q6 := fp_o4 q5.2
  have q7 := fp_o96 q6.2
  have q8 := fp_o50 q7.2
  have q9 := fp_o21 q8.2
  have q10 := fp_o182 (v := 40) q9.2 rfl
  have q11 := fp_o87 q10.2
  have q12 := fp_o42 q11.2
  have q13 := fp_o43 q12.2
  have q14 := fp_o44 q13.2
  have q15 := fp_o29 q14.2
  have q16 := fp_o21 q15.2
  have q17 := fp_o4 q16.2
  have q18 := fp_o96 q17.2
  have q19 := fp_o182 (v := 76) q18.2 rfl
  have q20 := fp_o177 q19.2
  have q21 := fp_o3 q20.2
  have q22 := fp_o54 q21.2
  have q23 := fp_o21 q22.2
  have q24 := fp_o43 q23.2
  have q25 := fp_o180 (v := 50) q24.2 rfl
  have q26 := fp_o162 (v := 65) q25.2 rfl
  have q27 := fp_o42 q26.2
  have q28 := fp_o180 (v := 11) q27.2 rfl
  have q29 := fp_o21 q28.2
  have q30 := fp_o4 q29.2
  have q31 := fp_o96 q30.2
  ⟨⟨⟨⟨⟨⟨q0.1, q1.1⟩, ⟨q2.1, q3.1⟩⟩, ⟨⟨q4.1, q5.1⟩, ⟨q6.1, q7.1⟩⟩⟩, ⟨⟨⟨q8.1, q9.1⟩, ⟨q10.1, q11.1⟩⟩, ⟨⟨q12.1, q13.1⟩, ⟨q14.1, q15.1⟩⟩⟩⟩, ⟨⟨⟨⟨q16.1, q17.1⟩, ⟨q18.1, q19.1⟩⟩, ⟨⟨q20.1, q21.1⟩, ⟨q22.1, q23.1⟩⟩⟩, ⟨⟨⟨q24.1, q25.1⟩, ⟨q26.1, q27.1⟩⟩, ⟨⟨q28.1, q29.1⟩, ⟨q30.1, q31.1⟩⟩⟩⟩⟩, q31.2⟩
theorem dX8_tryLines_59 : decode cX8_tryLines 59 = .ok (.invokevirtual 36, 3) := fp_hdX8_tryLines_59.1.1.1.1.1.1
theorem dX8_tryLines_62 : decode cX8_tryLines 62 = .ok (.aload_n 2, 1) := fp_hdX8_tryLines_59.1.1.1.1.1.2
theorem dX8_tryLines_63 : decode cX8_tryLines 63 = .ok (.aload_n 1, 1) := fp_hdX8_tryLines_59.1.1.1.1.2.1
theorem dX8_tryLines_64 : decode cX8_tryLines 64 = .ok (.aload_n 0, 1) := fp_hdX8_tryLines_59.1.1.1.1.2.2
theorem dX8_tryLines_65 : decode cX8_tryLines 65 = .ok (.getfield 11, 3) := fp_hdX8_tryLines_59.1.1.1.2.1.1
theorem dX8_tryLines_68 : decode cX8_tryLines 68 = .ok (.iload 4, 2) := fp_hdX8_tryLines_59.1.1.1.2.1.2
theorem dX8_tryLines_70 : decode cX8_tryLines 70 = .ok (.iconst 1, 1) := fp_hdX8_tryLines_59.1.1.1.2.2.1
theorem dX8_tryLines_71 : decode cX8_tryLines 71 = .ok (.iadd, 1) := fp_hdX8_tryLines_59.1.1.1.2.2.2
theorem dX8_tryLines_72 : decode cX8_tryLines 72 = .ok (.aaload, 1) := fp_hdX8_tryLines_59.1.1.2.1.1.1
theorem dX8_tryLines_73 : decode cX8_tryLines 73 = .ok (.iload 4, 2) := fp_hdX8_tryLines_59.1.1.2.1.1.2
theorem dX8_tryLines_75 : decode cX8_tryLines 75 = .ok (.invokevirtual 40, 3) := fp_hdX8_tryLines_59.1.1.2.1.2.1
theorem dX8_tryLines_78 : decode cX8_tryLines 78 = .ok (.pop, 1) := fp_hdX8_tryLines_59.1.1.2.1.2.2
theorem dX8_tryLines_79 : decode cX8_tryLines 79 = .ok (.aload_n 0, 1) := fp_hdX8_tryLines_59.1.1.2.2.1.1
theorem dX8_tryLines_80 : decode cX8_tryLines 80 = .ok (.aload_n 1, 1) := fp_hdX8_tryLines_59.1.1.2.2.1.2
theorem dX8_tryLines_81 : decode cX8_tryLines 81 = .ok (.aload_n 2, 1) := fp_hdX8_tryLines_59.1.1.2.2.2.1
theorem dX8_tryLines_82 : decode cX8_tryLines 82 = .ok (.iload_n 3, 1) := fp_hdX8_tryLines_59.1.1.2.2.2.2
theorem dX8_tryLines_83 : decode cX8_tryLines 83 = .ok (.iload 4, 2) := fp_hdX8_tryLines_59.1.2.1.1.1.1
theorem dX8_tryLines_85 : decode cX8_tryLines 85 = .ok (.iconst 1, 1) := fp_hdX8_tryLines_59.1.2.1.1.1.2
theorem dX8_tryLines_86 : decode cX8_tryLines 86 = .ok (.iadd, 1) := fp_hdX8_tryLines_59.1.2.1.1.2.1
theorem dX8_tryLines_87 : decode cX8_tryLines 87 = .ok (.invokevirtual 76, 3) := fp_hdX8_tryLines_59.1.2.1.1.2.2
theorem dX8_tryLines_90 : decode cX8_tryLines 90 = .ok (.return_, 1) := fp_hdX8_tryLines_59.1.2.1.2.1.1
theorem dX8_tryLines_91 : decode cX8_tryLines 91 = .ok (.iconst 0, 1) := fp_hdX8_tryLines_59.1.2.1.2.1.2
theorem dX8_tryLines_92 : decode cX8_tryLines 92 = .ok (.istore 5, 2) := fp_hdX8_tryLines_59.1.2.1.2.2.1
theorem dX8_tryLines_94 : decode cX8_tryLines 94 = .ok (.iload 5, 2) := fp_hdX8_tryLines_59.1.2.1.2.2.2
theorem dX8_tryLines_96 : decode cX8_tryLines 96 = .ok (.aload_n 1, 1) := fp_hdX8_tryLines_59.1.2.2.1.1.1
theorem dX8_tryLines_97 : decode cX8_tryLines 97 = .ok (.getfield 50, 3) := fp_hdX8_tryLines_59.1.2.2.1.1.2
theorem dX8_tryLines_100 : decode cX8_tryLines 100 = .ok (.if_icmp .ge 65, 3) := fp_hdX8_tryLines_59.1.2.2.1.2.1
theorem dX8_tryLines_103 : decode cX8_tryLines 103 = .ok (.aload_n 0, 1) := fp_hdX8_tryLines_59.1.2.2.1.2.2
theorem dX8_tryLines_104 : decode cX8_tryLines 104 = .ok (.getfield 11, 3) := fp_hdX8_tryLines_59.1.2.2.2.1.1
theorem dX8_tryLines_107 : decode cX8_tryLines 107 = .ok (.iload 4, 2) := fp_hdX8_tryLines_59.1.2.2.2.1.2
theorem dX8_tryLines_109 : decode cX8_tryLines 109 = .ok (.iconst 1, 1) := fp_hdX8_tryLines_59.1.2.2.2.2.1
theorem dX8_tryLines_110 : decode cX8_tryLines 110 = .ok (.iadd, 1) := fp_hdX8_tryLines_59.1.2.2.2.2.2
theorem fp_hdX8_tryLines_111 : (((((decode cX8_tryLines 111 = .ok (.aaload, 1) ∧ decode cX8_tryLines 112 = .ok (.aload_n 0, 1)) ∧ (decode cX8_tryLines 113 = .ok (.getfield 11, 3) ∧ decode cX8_tryLines 116 = .ok (.iload 4, 2))) ∧ ((decode cX8_tryLines 118 = .ok (.aaload, 1) ∧ decode cX8_tryLines 119 = .ok (.invokevirtual 36, 3)) ∧ (decode cX8_tryLines 122 = .ok (.aload_n 0, 1) ∧ decode cX8_tryLines 123 = .ok (.getfield 11, 3)))) ∧ (((decode cX8_tryLines 126 = .ok (.iload 4, 2) ∧ decode cX8_tryLines 128 = .ok (.iconst 1, 1)) ∧ (decode cX8_tryLines 129 = .ok (.iadd, 1) ∧ decode cX8_tryLines 130 = .ok (.aaload, 1))) ∧ ((decode cX8_tryLines 131 = .ok (.aload_n 1, 1) ∧ decode cX8_tryLines 132 = .ok (.iload_n 3, 1)) ∧ (decode cX8_tryLines 133 = .ok (.iload 5, 2) ∧ decode cX8_tryLines 135 = .ok (.invokevirtual 94, 3))))) ∧ ((((decode cX8_tryLines 138 = .ok (.pop, 1) ∧ decode cX8_tryLines 139 = .ok (.aload_n 0, 1)) ∧ (decode cX8_tryLines 140 = .ok (.getfield 28, 3) ∧ decode cX8_tryLines 143 = .ok (.iload 4, 2))) ∧ ((decode cX8_tryLines 145 = .ok (.iload 5, 2) ∧ decode cX8_tryLines 147 = .ok (.iastore, 1)) ∧ (decode cX8_tryLines 148 = .ok (.aload_n 0, 1) ∧ decode cX8_tryLines 149 = .ok (.aload_n 1, 1)))) ∧ (((decode cX8_tryLines 150 = .ok (.aload_n 2, 1) ∧ decode cX8_tryLines 151 = .ok (.iload_n 3, 1)) ∧ (decode cX8_tryLines 152 = .ok (.iload 4, 2) ∧ decode cX8_tryLines 154 = .ok (.iconst 1, 1))) ∧ ((decode cX8_tryLines 155 = .ok (.iadd, 1) ∧ decode cX8_tryLines 156 = .ok (.invokevirtual 76, 3)) ∧ (decode cX8_tryLines 159 = .ok (.iinc 5 1, 3) ∧ decode cX8_tryLines 162 = .ok (.goto (-68), 3)))))) ∧ bA cX8_tryLines 165 fp_scX8_tryLines_3 :=
  have q0 := fp_o50 fp_hdX8_tryLines_59.2
  have q1 := fp_o42 q0.2
  have q2 := fp_o180 (v := 11) q1.2 rfl
  have q3 := fp_o21 q2.2
  have q4 := fp_o50 q3.2
  have q5 := fp_o182 (v := 36) q4.2 rfl
  have q6 := fp_o42 q5.2
  have q7 := fp_o180 (v := 11) q6.2 rfl
  have q8 := fp_o21 q7.2
  have q9 := fp_o4 q8.2
  have q10 := fp_o96 q9.2
  have q11 := fp_o50 q10.2
  have q12 := fp_o43 q11.2
  have q13 := fp_o29 q12.2
  have q14 := fp_o21 q13.2
  have q15 := fp_o182 (v := 94) q14.2 rfl
  have q16 := fp_o87 q15.2
  have q17 := fp_o42 q16.2
  have q18 := fp_o180 (v := 28) q17.2 rfl
  have q19 := fp_o21 q18.2
  have q20 := fp_o21 q19.2
  have q21 := fp_o79 q20.2
  have q22 := fp_o42 q21.2
  have q23 := fp_o43 q22.2
  have q24 := fp_o44 q23.2
  have q25 := fp_o29 q24.2
  have q26 := fp_o21 q25.2
  have q27 := fp_o4 q26.2
  have q28 := fp_o96 q27.2
  have q29 := fp_o182 (v := 76) q28.2 rfl
  have q30 := fp_o132 (v := 1) q29.2 rfl
  have q31 := fp_o167 (v := (-68)) q30.2 rfl
  ⟨⟨⟨⟨⟨⟨q0.1, q1.1⟩, ⟨q2.1, q3.1⟩⟩, ⟨⟨q4.1, q5.1⟩, ⟨q6.1, q7.1⟩⟩⟩, ⟨⟨⟨q8.1, q9.1⟩, ⟨q10.1, q11.1⟩⟩, ⟨⟨q12.1, q13.1⟩, ⟨q14.1, q15.1⟩⟩⟩⟩, ⟨⟨⟨⟨q16.1, q17.1⟩, ⟨q18.1, q19.1⟩⟩, ⟨⟨q20.1, q21.1⟩, ⟨q22.1, q23.1⟩⟩⟩, ⟨⟨⟨q24.1, q25.1⟩, ⟨q26.1, q27.1⟩⟩, ⟨⟨q28.1, q29.1⟩, ⟨q30.1, q31.1⟩⟩⟩⟩⟩, q31.2⟩
theorem dX8_tryLines_111 : decode cX8_tryLines 111 = .ok (.aaload, 1) := fp_hdX8_tryLines_111.1.1.1.1.1.1
theorem dX8_tryLines_112 : decode cX8_tryLines 112 = .ok (.aload_n 0, 1) := fp_hdX8_tryLines_111.1.1.1.1.1.2
theorem dX8_tryLines_113 : decode cX8_tryLines 113 = .ok (.getfield 11, 3) := fp_hdX8_tryLines_111.1.1.1.1.2.1
theorem dX8_tryLines_116 : decode cX8_tryLines 116 = .ok (.iload 4, 2) := fp_hdX8_tryLines_111.1.1.1.1.2.2
theorem dX8_tryLines_118 : decode cX8_tryLines 118 = .ok (.aaload, 1) := fp_hdX8_tryLines_111.1.1.1.2.1.1
theorem dX8_tryLines_119 : decode cX8_tryLines 119 = .ok (.invokevirtual 36, 3) := fp_hdX8_tryLines_111.1.1.1.2.1.2
theorem dX8_tryLines_122 : decode cX8_tryLines 122 = .ok (.aload_n 0, 1) := fp_hdX8_tryLines_111.1.1.1.2.2.1
theorem dX8_tryLines_123 : decode cX8_tryLines 123 = .ok (.getfield 11, 3) := fp_hdX8_tryLines_111.1.1.1.2.2.2
theorem dX8_tryLines_126 : decode cX8_tryLines 126 = .ok (.iload 4, 2) := fp_hdX8_tryLines_111.1.1.2.1.1.1
theorem dX8_tryLines_128 : decode cX8_tryLines 128 = .ok (.iconst 1, 1) := fp_hdX8_tryLines_111.1.1.2.1.1.2
theorem dX8_tryLines_129 : decode cX8_tryLines 129 = .ok (.iadd, 1) := fp_hdX8_tryLines_111.1.1.2.1.2.1
theorem dX8_tryLines_130 : decode cX8_tryLines 130 = .ok (.aaload, 1) := fp_hdX8_tryLines_111.1.1.2.1.2.2
theorem dX8_tryLines_131 : decode cX8_tryLines 131 = .ok (.aload_n 1, 1) := fp_hdX8_tryLines_111.1.1.2.2.1.1
theorem dX8_tryLines_132 : decode cX8_tryLines 132 = .ok (.iload_n 3, 1) := fp_hdX8_tryLines_111.1.1.2.2.1.2
theorem dX8_tryLines_133 : decode cX8_tryLines 133 = .ok (.iload 5, 2) := fp_hdX8_tryLines_111.1.1.2.2.2.1
theorem dX8_tryLines_135 : decode cX8_tryLines 135 = .ok (.invokevirtual 94, 3) := fp_hdX8_tryLines_111.1.1.2.2.2.2
theorem dX8_tryLines_138 : decode cX8_tryLines 138 = .ok (.pop, 1) := fp_hdX8_tryLines_111.1.2.1.1.1.1
theorem dX8_tryLines_139 : decode cX8_tryLines 139 = .ok (.aload_n 0, 1) := fp_hdX8_tryLines_111.1.2.1.1.1.2
theorem dX8_tryLines_140 : decode cX8_tryLines 140 = .ok (.getfield 28, 3) := fp_hdX8_tryLines_111.1.2.1.1.2.1
theorem dX8_tryLines_143 : decode cX8_tryLines 143 = .ok (.iload 4, 2) := fp_hdX8_tryLines_111.1.2.1.1.2.2
theorem dX8_tryLines_145 : decode cX8_tryLines 145 = .ok (.iload 5, 2) := fp_hdX8_tryLines_111.1.2.1.2.1.1
theorem dX8_tryLines_147 : decode cX8_tryLines 147 = .ok (.iastore, 1) := fp_hdX8_tryLines_111.1.2.1.2.1.2
theorem dX8_tryLines_148 : decode cX8_tryLines 148 = .ok (.aload_n 0, 1) := fp_hdX8_tryLines_111.1.2.1.2.2.1
theorem dX8_tryLines_149 : decode cX8_tryLines 149 = .ok (.aload_n 1, 1) := fp_hdX8_tryLines_111.1.2.1.2.2.2
theorem dX8_tryLines_150 : decode cX8_tryLines 150 = .ok (.aload_n 2, 1) := fp_hdX8_tryLines_111.1.2.2.1.1.1
theorem dX8_tryLines_151 : decode cX8_tryLines 151 = .ok (.iload_n 3, 1) := fp_hdX8_tryLines_111.1.2.2.1.1.2
theorem dX8_tryLines_152 : decode cX8_tryLines 152 = .ok (.iload 4, 2) := fp_hdX8_tryLines_111.1.2.2.1.2.1
theorem dX8_tryLines_154 : decode cX8_tryLines 154 = .ok (.iconst 1, 1) := fp_hdX8_tryLines_111.1.2.2.1.2.2
theorem dX8_tryLines_155 : decode cX8_tryLines 155 = .ok (.iadd, 1) := fp_hdX8_tryLines_111.1.2.2.2.1.1
theorem dX8_tryLines_156 : decode cX8_tryLines 156 = .ok (.invokevirtual 76, 3) := fp_hdX8_tryLines_111.1.2.2.2.1.2
theorem dX8_tryLines_159 : decode cX8_tryLines 159 = .ok (.iinc 5 1, 3) := fp_hdX8_tryLines_111.1.2.2.2.2.1
theorem dX8_tryLines_162 : decode cX8_tryLines 162 = .ok (.goto (-68), 3) := fp_hdX8_tryLines_111.1.2.2.2.2.2
theorem fp_hdX8_tryLines_165 : decode cX8_tryLines 165 = .ok (.return_, 1) ∧ bA cX8_tryLines 166 [] :=
  have q0 := fp_o177 fp_hdX8_tryLines_111.2
  ⟨q0.1, q0.2⟩
theorem dX8_tryLines_165 : decode cX8_tryLines 165 = .ok (.return_, 1) := fp_hdX8_tryLines_165.1
def fp_scX8_takeIfBetter_0 : List Nat := 27 :: 42 :: 180 :: 0 :: 67 :: 164 :: 0 :: 26 :: 42 :: 27 :: 181 :: 0 :: 67 :: 42 :: 180 :: 0 :: 28 :: 3 :: 42 :: 180 :: 0 :: 24 :: 3 :: 42 :: 180 :: 0 :: 24 :: 190 :: 184 :: 0 :: 98 :: 177 :: []
theorem fp_bcX8_takeIfBetter : bA cX8_takeIfBetter 0 fp_scX8_takeIfBetter_0 := show cX8_takeIfBetter.data.toList.map UInt8.toNat = fp_scX8_takeIfBetter_0 from by decide +kernel
theorem fp_hdX8_takeIfBetter_0 : (((((decode cX8_takeIfBetter 0 = .ok (.iload_n 1, 1) ∧ decode cX8_takeIfBetter 1 = .ok (.aload_n 0, 1)) ∧ decode cX8_takeIfBetter 2 = .ok (.getfield 67, 3)) ∧ (decode cX8_takeIfBetter 5 = .ok (.if_icmp .le 26, 3) ∧ decode cX8_takeIfBetter 8 = .ok (.aload_n 0, 1))) ∧ ((decode cX8_takeIfBetter 9 = .ok (.iload_n 1, 1) ∧ decode cX8_takeIfBetter 10 = .ok (.putfield 67, 3)) ∧ (decode cX8_takeIfBetter 13 = .ok (.aload_n 0, 1) ∧ decode cX8_takeIfBetter 14 = .ok (.getfield 28, 3)))) ∧ ((((decode cX8_takeIfBetter 17 = .ok (.iconst 0, 1) ∧ decode cX8_takeIfBetter 18 = .ok (.aload_n 0, 1)) ∧ decode cX8_takeIfBetter 19 = .ok (.getfield 24, 3)) ∧ (decode cX8_takeIfBetter 22 = .ok (.iconst 0, 1) ∧ decode cX8_takeIfBetter 23 = .ok (.aload_n 0, 1))) ∧ ((decode cX8_takeIfBetter 24 = .ok (.getfield 24, 3) ∧ decode cX8_takeIfBetter 27 = .ok (.arraylength, 1)) ∧ (decode cX8_takeIfBetter 28 = .ok (.invokestatic 98, 3) ∧ decode cX8_takeIfBetter 31 = .ok (.return_, 1))))) ∧ bA cX8_takeIfBetter 32 [] :=
  have q0 := fp_o27 fp_bcX8_takeIfBetter
  have q1 := fp_o42 q0.2
  have q2 := fp_o180 (v := 67) q1.2 rfl
  have q3 := fp_o164 (v := 26) q2.2 rfl
  have q4 := fp_o42 q3.2
  have q5 := fp_o27 q4.2
  have q6 := fp_o181 (v := 67) q5.2 rfl
  have q7 := fp_o42 q6.2
  have q8 := fp_o180 (v := 28) q7.2 rfl
  have q9 := fp_o3 q8.2
  have q10 := fp_o42 q9.2
  have q11 := fp_o180 (v := 24) q10.2 rfl
  have q12 := fp_o3 q11.2
  have q13 := fp_o42 q12.2
  have q14 := fp_o180 (v := 24) q13.2 rfl
  have q15 := fp_o190 q14.2
  have q16 := fp_o184 (v := 98) q15.2 rfl
  have q17 := fp_o177 q16.2
  ⟨⟨⟨⟨⟨⟨q0.1, q1.1⟩, q2.1⟩, ⟨q3.1, q4.1⟩⟩, ⟨⟨q5.1, q6.1⟩, ⟨q7.1, q8.1⟩⟩⟩, ⟨⟨⟨⟨q9.1, q10.1⟩, q11.1⟩, ⟨q12.1, q13.1⟩⟩, ⟨⟨q14.1, q15.1⟩, ⟨q16.1, q17.1⟩⟩⟩⟩, q17.2⟩
theorem dX8_takeIfBetter_0 : decode cX8_takeIfBetter 0 = .ok (.iload_n 1, 1) := fp_hdX8_takeIfBetter_0.1.1.1.1.1.1
theorem dX8_takeIfBetter_1 : decode cX8_takeIfBetter 1 = .ok (.aload_n 0, 1) := fp_hdX8_takeIfBetter_0.1.1.1.1.1.2
theorem dX8_takeIfBetter_2 : decode cX8_takeIfBetter 2 = .ok (.getfield 67, 3) := fp_hdX8_takeIfBetter_0.1.1.1.1.2
theorem dX8_takeIfBetter_5 : decode cX8_takeIfBetter 5 = .ok (.if_icmp .le 26, 3) := fp_hdX8_takeIfBetter_0.1.1.1.2.1
theorem dX8_takeIfBetter_8 : decode cX8_takeIfBetter 8 = .ok (.aload_n 0, 1) := fp_hdX8_takeIfBetter_0.1.1.1.2.2
theorem dX8_takeIfBetter_9 : decode cX8_takeIfBetter 9 = .ok (.iload_n 1, 1) := fp_hdX8_takeIfBetter_0.1.1.2.1.1
theorem dX8_takeIfBetter_10 : decode cX8_takeIfBetter 10 = .ok (.putfield 67, 3) := fp_hdX8_takeIfBetter_0.1.1.2.1.2
theorem dX8_takeIfBetter_13 : decode cX8_takeIfBetter 13 = .ok (.aload_n 0, 1) := fp_hdX8_takeIfBetter_0.1.1.2.2.1
theorem dX8_takeIfBetter_14 : decode cX8_takeIfBetter 14 = .ok (.getfield 28, 3) := fp_hdX8_takeIfBetter_0.1.1.2.2.2
theorem dX8_takeIfBetter_17 : decode cX8_takeIfBetter 17 = .ok (.iconst 0, 1) := fp_hdX8_takeIfBetter_0.1.2.1.1.1.1
theorem dX8_takeIfBetter_18 : decode cX8_takeIfBetter 18 = .ok (.aload_n 0, 1) := fp_hdX8_takeIfBetter_0.1.2.1.1.1.2
theorem dX8_takeIfBetter_19 : decode cX8_takeIfBetter 19 = .ok (.getfield 24, 3) := fp_hdX8_takeIfBetter_0.1.2.1.1.2
theorem dX8_takeIfBetter_22 : decode cX8_takeIfBetter 22 = .ok (.iconst 0, 1) := fp_hdX8_takeIfBetter_0.1.2.1.2.1
theorem dX8_takeIfBetter_23 : decode cX8_takeIfBetter 23 = .ok (.aload_n 0, 1) := fp_hdX8_takeIfBetter_0.1.2.1.2.2
theorem dX8_takeIfBetter_24 : decode cX8_takeIfBetter 24 = .ok (.getfield 24, 3) := fp_hdX8_takeIfBetter_0.1.2.2.1.1
theorem dX8_takeIfBetter_27 : decode cX8_takeIfBetter 27 = .ok (.arraylength, 1) := fp_hdX8_takeIfBetter_0.1.2.2.1.2
theorem dX8_takeIfBetter_28 : decode cX8_takeIfBetter 28 = .ok (.invokestatic 98, 3) := fp_hdX8_takeIfBetter_0.1.2.2.2.1
theorem dX8_takeIfBetter_31 : decode cX8_takeIfBetter 31 = .ok (.return_, 1) := fp_hdX8_takeIfBetter_0.1.2.2.2.2
def fp_scX8_findShares_1 : List Nat := 173 :: []
def fp_scX8_findShares_0 : List Nat := 42 :: 180 :: 0 :: 11 :: 3 :: 50 :: 45 :: 182 :: 0 :: 36 :: 42 :: 180 :: 0 :: 31 :: 9 :: 184 :: 0 :: 104 :: 42 :: 43 :: 44 :: 21 :: 4 :: 3 :: 10 :: 182 :: 0 :: 107 :: 10 :: 55 :: 5 :: 3 :: 54 :: 7 :: 21 :: 7 :: 44 :: 180 :: 0 :: 80 :: 162 :: 0 :: 17 :: 22 :: 5 :: 20 :: 0 :: 111 :: 105 :: 55 :: 5 :: 132 :: 7 :: 1 :: 167 :: 255 :: 236 :: 22 :: 5 :: fp_scX8_findShares_1
theorem fp_bcX8_findShares : bA cX8_findShares 0 fp_scX8_findShares_0 := show cX8_findShares.data.toList.map UInt8.toNat = fp_scX8_findShares_0 from by decide +kernel
theorem fp_hdX8_findShares_0 : (((((decode cX8_findShares 0 = .ok (.aload_n 0, 1) ∧ decode cX8_findShares 1 = .ok (.getfield 11, 3)) ∧ (decode cX8_findShares 4 = .ok (.iconst 0, 1) ∧ decode cX8_findShares 5 = .ok (.aaload, 1))) ∧ ((decode cX8_findShares 6 = .ok (.aload_n 3, 1) ∧ decode cX8_findShares 7 = .ok (.invokevirtual 36, 3)) ∧ (decode cX8_findShares 10 = .ok (.aload_n 0, 1) ∧ decode cX8_findShares 11 = .ok (.getfield 31, 3)))) ∧ (((decode cX8_findShares 14 = .ok (.lconst 0, 1) ∧ decode cX8_findShares 15 = .ok (.invokestatic 104, 3)) ∧ (decode cX8_findShares 18 = .ok (.aload_n 0, 1) ∧ decode cX8_findShares 19 = .ok (.aload_n 1, 1))) ∧ ((decode cX8_findShares 20 = .ok (.aload_n 2, 1) ∧ decode cX8_findShares 21 = .ok (.iload 4, 2)) ∧ (decode cX8_findShares 23 = .ok (.iconst 0, 1) ∧ decode cX8_findShares 24 = .ok (.lconst 1, 1))))) ∧ ((((decode cX8_findShares 25 = .ok (.invokevirtual 107, 3) ∧ decode cX8_findShares 28 = .ok (.lconst 1, 1)) ∧ (decode cX8_findShares 29 = .ok (.lstore 5, 2) ∧ decode cX8_findShares 31 = .ok (.iconst 0, 1))) ∧ ((decode cX8_findShares 32 = .ok (.istore 7, 2) ∧ decode cX8_findShares 34 = .ok (.iload 7, 2)) ∧ (decode cX8_findShares 36 = .ok (.aload_n 2, 1) ∧ decode cX8_findShares 37 = .ok (.getfield 80, 3)))) ∧ (((decode cX8_findShares 40 = .ok (.if_icmp .ge 17, 3) ∧ decode cX8_findShares 43 = .ok (.lload 5, 2)) ∧ (decode cX8_findShares 45 = .ok (.ldc2_w 111, 3) ∧ decode cX8_findShares 48 = .ok (.lmul, 1))) ∧ ((decode cX8_findShares 49 = .ok (.lstore 5, 2) ∧ decode cX8_findShares 51 = .ok (.iinc 7 1, 3)) ∧ (decode cX8_findShares 54 = .ok (.goto (-20), 3) ∧ decode cX8_findShares 57 = .ok (.lload 5, 2)))))) ∧ bA cX8_findShares 59 fp_scX8_findShares_1 :=
  have q0 := fp_o42 fp_bcX8_findShares
  have q1 := fp_o180 (v := 11) q0.2 rfl
  have q2 := fp_o3 q1.2
  have q3 := fp_o50 q2.2
  have q4 := fp_o45 q3.2
  have q5 := fp_o182 (v := 36) q4.2 rfl
  have q6 := fp_o42 q5.2
  have q7 := fp_o180 (v := 31) q6.2 rfl
  have q8 := fp_o9 q7.2
  have q9 := fp_o184 (v := 104) q8.2 rfl
  have q10 := fp_o42 q9.2
  have q11 := fp_o43 q10.2
  have q12 := fp_o44 q11.2
  have q13 := fp_o21 q12.2
  have q14 := fp_o3 q13.2
  have q15 := fp_o10 q14.2
  have q16 := fp_o182 (v := 107) q15.2 rfl
  have q17 := fp_o10 q16.2
  have q18 := fp_o55 q17.2
  have q19 := fp_o3 q18.2
  have q20 := fp_o54 q19.2
  have q21 := fp_o21 q20.2
  have q22 := fp_o44 q21.2
  have q23 := fp_o180 (v := 80) q22.2 rfl
  have q24 := fp_o162 (v := 17) q23.2 rfl
  have q25 := fp_o22 q24.2
  have q26 := fp_o20 (v := 111) q25.2 rfl
  have q27 := fp_o105 q26.2
  have q28 := fp_o55 q27.2
  have q29 := fp_o132 (v := 1) q28.2 rfl
  have q30 := fp_o167 (v := (-20)) q29.2 rfl
  have q31 := fp_o22 q30.2
  ⟨⟨⟨⟨⟨⟨q0.1, q1.1⟩, ⟨q2.1, q3.1⟩⟩, ⟨⟨q4.1, q5.1⟩, ⟨q6.1, q7.1⟩⟩⟩, ⟨⟨⟨q8.1, q9.1⟩, ⟨q10.1, q11.1⟩⟩, ⟨⟨q12.1, q13.1⟩, ⟨q14.1, q15.1⟩⟩⟩⟩, ⟨⟨⟨⟨q16.1, q17.1⟩, ⟨q18.1, q19.1⟩⟩, ⟨⟨q20.1, q21.1⟩, ⟨q22.1, q23.1⟩⟩⟩, ⟨⟨⟨q24.1, q25.1⟩, ⟨q26.1, q27.1⟩⟩, ⟨⟨q28.1, q29.1⟩, ⟨q30.1, q31.1⟩⟩⟩⟩⟩, q31.2⟩
theorem dX8_findShares_0 : decode cX8_findShares 0 = .ok (.aload_n 0, 1) := fp_hdX8_findShares_0.1.1.1.1.1.1
theorem dX8_findShares_1 : decode cX8_findShares 1 = .ok (.getfield 11, 3) := fp_hdX8_findShares_0.1.1.1.1.1.2
theorem dX8_findShares_4 : decode cX8_findShares 4 = .ok (.iconst 0, 1) := fp_hdX8_findShares_0.1.1.1.1.2.1
theorem dX8_findShares_5 : decode cX8_findShares 5 = .ok (.aaload, 1) := fp_hdX8_findShares_0.1.1.1.1.2.2
theorem dX8_findShares_6 : decode cX8_findShares 6 = .ok (.aload_n 3, 1) := fp_hdX8_findShares_0.1.1.1.2.1.1
theorem dX8_findShares_7 : decode cX8_findShares 7 = .ok (.invokevirtual 36, 3) := fp_hdX8_findShares_0.1.1.1.2.1.2
theorem dX8_findShares_10 : decode cX8_findShares 10 = .ok (.aload_n 0, 1) := fp_hdX8_findShares_0.1.1.1.2.2.1
theorem dX8_findShares_11 : decode cX8_findShares 11 = .ok (.getfield 31, 3) := fp_hdX8_findShares_0.1.1.1.2.2.2
theorem dX8_findShares_14 : decode cX8_findShares 14 = .ok (.lconst 0, 1) := fp_hdX8_findShares_0.1.1.2.1.1.1
theorem dX8_findShares_15 : decode cX8_findShares 15 = .ok (.invokestatic 104, 3) := fp_hdX8_findShares_0.1.1.2.1.1.2
theorem dX8_findShares_18 : decode cX8_findShares 18 = .ok (.aload_n 0, 1) := fp_hdX8_findShares_0.1.1.2.1.2.1
theorem dX8_findShares_19 : decode cX8_findShares 19 = .ok (.aload_n 1, 1) := fp_hdX8_findShares_0.1.1.2.1.2.2
theorem dX8_findShares_20 : decode cX8_findShares 20 = .ok (.aload_n 2, 1) := fp_hdX8_findShares_0.1.1.2.2.1.1
theorem dX8_findShares_21 : decode cX8_findShares 21 = .ok (.iload 4, 2) := fp_hdX8_findShares_0.1.1.2.2.1.2
theorem dX8_findShares_23 : decode cX8_findShares 23 = .ok (.iconst 0, 1) := fp_hdX8_findShares_0.1.1.2.2.2.1
theorem dX8_findShares_24 : decode cX8_findShares 24 = .ok (.lconst 1, 1) := fp_hdX8_findShares_0.1.1.2.2.2.2
theorem dX8_findShares_25 : decode cX8_findShares 25 = .ok (.invokevirtual 107, 3) := fp_hdX8_findShares_0.1.2.1.1.1.1
theorem dX8_findShares_28 : decode cX8_findShares 28 = .ok (.lconst 1, 1) := fp_hdX8_findShares_0.1.2.1.1.1.2
theorem dX8_findShares_29 : decode cX8_findShares 29 = .ok (.lstore 5, 2) := fp_hdX8_findShares_0.1.2.1.1.2.1
theorem dX8_findShares_31 : decode cX8_findShares 31 = .ok (.iconst 0, 1) := fp_hdX8_findShares_0.1.2.1.1.2.2
theorem dX8_findShares_32 : decode cX8_findShares 32 = .ok (.istore 7, 2) := fp_hdX8_findShares_0.1.2.1.2.1.1
theorem dX8_findShares_34 : decode cX8_findShares 34 = .ok (.iload 7, 2) := fp_hdX8_findShares_0.1.2.1.2.1.2
theorem dX8_findShares_36 : decode cX8_findShares 36 = .ok (.aload_n 2, 1) := fp_hdX8_findShares_0.1.2.1.2.2.1
theorem dX8_findShares_37 : decode cX8_findShares 37 = .ok (.getfield 80, 3) := fp_hdX8_findShares_0.1.2.1.2.2.2
theorem dX8_findShares_40 : decode cX8_findShares 40 = .ok (.if_icmp .ge 17, 3) := fp_hdX8_findShares_0.1.2.2.1.1.1
theorem dX8_findShares_43 : decode cX8_findShares 43 = .ok (.lload 5, 2) := fp_hdX8_findShares_0.1.2.2.1.1.2
theorem dX8_findShares_45 : decode cX8_findShares 45 = .ok (.ldc2_w 111, 3) := fp_hdX8_findShares_0.1.2.2.1.2.1
theorem dX8_findShares_48 : decode cX8_findShares 48 = .ok (.lmul, 1) := fp_hdX8_findShares_0.1.2.2.1.2.2
theorem dX8_findShares_49 : decode cX8_findShares 49 = .ok (.lstore 5, 2) := fp_hdX8_findShares_0.1.2.2.2.1.1
theorem dX8_findShares_51 : decode cX8_findShares 51 = .ok (.iinc 7 1, 3) := fp_hdX8_findShares_0.1.2.2.2.1.2
theorem dX8_findShares_54 : decode cX8_findShares 54 = .ok (.goto (-20), 3) := fp_hdX8_findShares_0.1.2.2.2.2.1
theorem dX8_findShares_57 : decode cX8_findShares 57 = .ok (.lload 5, 2) := fp_hdX8_findShares_0.1.2.2.2.2.2
theorem fp_hdX8_findShares_59 : decode cX8_findShares 59 = .ok (.lreturn, 1) ∧ bA cX8_findShares 60 [] :=
  have q0 := fp_o173 fp_hdX8_findShares_0.2
  ⟨q0.1, q0.2⟩
theorem dX8_findShares_59 : decode cX8_findShares 59 = .ok (.lreturn, 1) := fp_hdX8_findShares_59.1
def fp_scX8_spread_2 : List Nat := 133 :: 105 :: 182 :: 0 :: 107 :: 42 :: 180 :: 0 :: 11 :: 21 :: 4 :: 4 :: 96 :: 50 :: 42 :: 180 :: 0 :: 11 :: 21 :: 4 :: 50 :: 182 :: 0 :: 36 :: 42 :: 43 :: 44 :: 29 :: 21 :: 4 :: 4 :: 96 :: 22 :: 5 :: 16 :: 10 :: 43 :: 180 :: 0 :: 113 :: 100 :: 133 :: 105 :: 182 :: 0 :: 107 :: 177 :: []
def fp_scX8_spread_1 : List Nat := 42 :: 180 :: 0 :: 11 :: 21 :: 4 :: 4 :: 96 :: 50 :: 42 :: 180 :: 0 :: 11 :: 21 :: 4 :: 50 :: 182 :: 0 :: 36 :: 44 :: 43 :: 42 :: 180 :: 0 :: 11 :: 21 :: 4 :: 4 :: 96 :: 50 :: 21 :: 4 :: 182 :: 0 :: 40 :: 87 :: 42 :: 43 :: 44 :: 29 :: 21 :: 4 :: 4 :: 96 :: 22 :: 5 :: 43 :: 180 :: 0 :: 113 :: fp_scX8_spread_2
def fp_scX8_spread_0 : List Nat := 22 :: 5 :: 9 :: 148 :: 154 :: 0 :: 4 :: 177 :: 21 :: 4 :: 16 :: 12 :: 162 :: 0 :: 12 :: 21 :: 4 :: 44 :: 180 :: 0 :: 80 :: 161 :: 0 :: 37 :: 42 :: 180 :: 0 :: 11 :: 21 :: 4 :: 50 :: 43 :: 29 :: 182 :: 0 :: 63 :: 54 :: 7 :: 21 :: 7 :: 16 :: 252 :: 159 :: 0 :: 15 :: 42 :: 180 :: 0 :: 31 :: 21 :: 7 :: 92 :: 47 :: 22 :: 5 :: 97 :: 80 :: 177 :: fp_scX8_spread_1
theorem fp_bcX8_spread : bA cX8_spread 0 fp_scX8_spread_0 := show cX8_spread.data.toList.map UInt8.toNat = fp_scX8_spread_0 from by decide +kernel
theorem fp_hdX8_spread_0 : (((((decode cX8_spread 0 = .ok (.lload 5, 2) ∧ decode cX8_spread 2 = .ok (.lconst 0, 1)) ∧ (decode cX8_spread 3 = .ok (.lcmp, 1) ∧ decode cX8_spread 4 = .ok (.ifCond .ne 4, 3))) ∧ ((decode cX8_spread 7 = .ok (.return_, 1) ∧ decode cX8_spread 8 = .ok (.iload 4, 2)) ∧ (decode cX8_spread 10 = .ok (.bipush 12, 2) ∧ decode cX8_spread 12 = .ok (.if_icmp .ge 12, 3)))) ∧ (((decode cX8_spread 15 = .ok (.iload 4, 2) ∧ decode cX8_spread 17 = .ok (.aload_n 2, 1)) ∧ (decode cX8_spread 18 = .ok (.getfield 80, 3) ∧ decode cX8_spread 21 = .ok (.if_icmp .lt 37, 3))) ∧ ((decode cX8_spread 24 = .ok (.aload_n 0, 1) ∧ decode cX8_spread 25 = .ok (.getfield 11, 3)) ∧ (decode cX8_spread 28 = .ok (.iload 4, 2) ∧ decode cX8_spread 30 = .ok (.aaload, 1))))) ∧ ((((decode cX8_spread 31 = .ok (.aload_n 1, 1) ∧ decode cX8_spread 32 = .ok (.iload_n 3, 1)) ∧ (decode cX8_spread 33 = .ok (.invokevirtual 63, 3) ∧ decode cX8_spread 36 = .ok (.istore 7, 2))) ∧ ((decode cX8_spread 38 = .ok (.iload 7, 2) ∧ decode cX8_spread 40 = .ok (.bipush (-4), 2)) ∧ (decode cX8_spread 42 = .ok (.if_icmp .eq 15, 3) ∧ decode cX8_spread 45 = .ok (.aload_n 0, 1)))) ∧ (((decode cX8_spread 46 = .ok (.getfield 31, 3) ∧ decode cX8_spread 49 = .ok (.iload 7, 2)) ∧ (decode cX8_spread 51 = .ok (.dup2, 1) ∧ decode cX8_spread 52 = .ok (.laload, 1))) ∧ ((decode cX8_spread 53 = .ok (.lload 5, 2) ∧ decode cX8_spread 55 = .ok (.ladd, 1)) ∧ (decode cX8_spread 56 = .ok (.lastore, 1) ∧ decode cX8_spread 57 = .ok (.return_, 1)))))) ∧ bA cX8_spread 58 fp_scX8_spread_1 :=
  have q0 := fp_o22 fp_bcX8_spread
  have q1 := fp_o9 q0.2
  have q2 := fp_o148 q1.2
  have q3 := fp_o154 (v := 4) q2.2 rfl
  have q4 := fp_o177 q3.2
  have q5 := fp_o21 q4.2
  have q6 := fp_o16 (v := 12) q5.2 rfl
  have q7 := fp_o162 (v := 12) q6.2 rfl
  have q8 := fp_o21 q7.2
  have q9 := fp_o44 q8.2
  have q10 := fp_o180 (v := 80) q9.2 rfl
  have q11 := fp_o161 (v := 37) q10.2 rfl
  have q12 := fp_o42 q11.2
  have q13 := fp_o180 (v := 11) q12.2 rfl
  have q14 := fp_o21 q13.2
  have q15 := fp_o50 q14.2
  have q16 := fp_o43 q15.2
  have q17 := fp_o29 q16.2
  have q18 := fp_o182 (v := 63) q17.2 rfl
  have q19 := fp_o54 q18.2
  have q20 := fp_o21 q19.2
  have q21 := fp_o16 (v := (-4)) q20.2 rfl
  have q22 := fp_o159 (v := 15) q21.2 rfl
  have q23 := fp_o42 q22.2
  have q24 := fp_o180 (v := 31) q23.2 rfl
  have q25 := fp_o21 q24.2
  have q26 := fp_o92 q25.2
  have q27 := fp_o47 q26.2
  have q28 := fp_o22 q27.2
  have q29 := fp_o97 q28.2
  have q30 := fp_o80 q29.2
  have q31 := fp_o177 q30.2
  ⟨⟨⟨⟨⟨⟨q0.1, q1.1⟩, ⟨q2.1, q3.1⟩⟩, ⟨⟨q4.1, q5.1⟩, ⟨q6.1, q7.1⟩⟩⟩, ⟨⟨⟨q8.1, q9.1⟩, ⟨q10.1, q11.1⟩⟩, ⟨⟨q12.1, q13.1⟩, ⟨q14.1, q15.1⟩⟩⟩⟩, ⟨⟨⟨⟨q16.1, q17.1⟩, ⟨q18.1, q19.1⟩⟩, ⟨⟨q20.1, q21.1⟩, ⟨q22.1, q23.1⟩⟩⟩, ⟨⟨⟨q24.1, q25.1⟩, ⟨q26.1, q27.1⟩⟩, ⟨⟨q28.1, q29.1⟩, ⟨q30.1, q31.1⟩⟩⟩⟩⟩, q31.2⟩
theorem dX8_spread_0 : decode cX8_spread 0 = .ok (.lload 5, 2) := fp_hdX8_spread_0.1.1.1.1.1.1
theorem dX8_spread_2 : decode cX8_spread 2 = .ok (.lconst 0, 1) := fp_hdX8_spread_0.1.1.1.1.1.2
theorem dX8_spread_3 : decode cX8_spread 3 = .ok (.lcmp, 1) := fp_hdX8_spread_0.1.1.1.1.2.1
theorem dX8_spread_4 : decode cX8_spread 4 = .ok (.ifCond .ne 4, 3) := fp_hdX8_spread_0.1.1.1.1.2.2
theorem dX8_spread_7 : decode cX8_spread 7 = .ok (.return_, 1) := fp_hdX8_spread_0.1.1.1.2.1.1
theorem dX8_spread_8 : decode cX8_spread 8 = .ok (.iload 4, 2) := fp_hdX8_spread_0.1.1.1.2.1.2
theorem dX8_spread_10 : decode cX8_spread 10 = .ok (.bipush 12, 2) := fp_hdX8_spread_0.1.1.1.2.2.1
theorem dX8_spread_12 : decode cX8_spread 12 = .ok (.if_icmp .ge 12, 3) := fp_hdX8_spread_0.1.1.1.2.2.2
theorem dX8_spread_15 : decode cX8_spread 15 = .ok (.iload 4, 2) := fp_hdX8_spread_0.1.1.2.1.1.1
theorem dX8_spread_17 : decode cX8_spread 17 = .ok (.aload_n 2, 1) := fp_hdX8_spread_0.1.1.2.1.1.2
theorem dX8_spread_18 : decode cX8_spread 18 = .ok (.getfield 80, 3) := fp_hdX8_spread_0.1.1.2.1.2.1
theorem dX8_spread_21 : decode cX8_spread 21 = .ok (.if_icmp .lt 37, 3) := fp_hdX8_spread_0.1.1.2.1.2.2
theorem dX8_spread_24 : decode cX8_spread 24 = .ok (.aload_n 0, 1) := fp_hdX8_spread_0.1.1.2.2.1.1
theorem dX8_spread_25 : decode cX8_spread 25 = .ok (.getfield 11, 3) := fp_hdX8_spread_0.1.1.2.2.1.2
theorem dX8_spread_28 : decode cX8_spread 28 = .ok (.iload 4, 2) := fp_hdX8_spread_0.1.1.2.2.2.1
theorem dX8_spread_30 : decode cX8_spread 30 = .ok (.aaload, 1) := fp_hdX8_spread_0.1.1.2.2.2.2
theorem dX8_spread_31 : decode cX8_spread 31 = .ok (.aload_n 1, 1) := fp_hdX8_spread_0.1.2.1.1.1.1
theorem dX8_spread_32 : decode cX8_spread 32 = .ok (.iload_n 3, 1) := fp_hdX8_spread_0.1.2.1.1.1.2
theorem dX8_spread_33 : decode cX8_spread 33 = .ok (.invokevirtual 63, 3) := fp_hdX8_spread_0.1.2.1.1.2.1
theorem dX8_spread_36 : decode cX8_spread 36 = .ok (.istore 7, 2) := fp_hdX8_spread_0.1.2.1.1.2.2
theorem dX8_spread_38 : decode cX8_spread 38 = .ok (.iload 7, 2) := fp_hdX8_spread_0.1.2.1.2.1.1
theorem dX8_spread_40 : decode cX8_spread 40 = .ok (.bipush (-4), 2) := fp_hdX8_spread_0.1.2.1.2.1.2
theorem dX8_spread_42 : decode cX8_spread 42 = .ok (.if_icmp .eq 15, 3) := fp_hdX8_spread_0.1.2.1.2.2.1
theorem dX8_spread_45 : decode cX8_spread 45 = .ok (.aload_n 0, 1) := fp_hdX8_spread_0.1.2.1.2.2.2
theorem dX8_spread_46 : decode cX8_spread 46 = .ok (.getfield 31, 3) := fp_hdX8_spread_0.1.2.2.1.1.1
theorem dX8_spread_49 : decode cX8_spread 49 = .ok (.iload 7, 2) := fp_hdX8_spread_0.1.2.2.1.1.2
theorem dX8_spread_51 : decode cX8_spread 51 = .ok (.dup2, 1) := fp_hdX8_spread_0.1.2.2.1.2.1
theorem dX8_spread_52 : decode cX8_spread 52 = .ok (.laload, 1) := fp_hdX8_spread_0.1.2.2.1.2.2
theorem dX8_spread_53 : decode cX8_spread 53 = .ok (.lload 5, 2) := fp_hdX8_spread_0.1.2.2.2.1.1
theorem dX8_spread_55 : decode cX8_spread 55 = .ok (.ladd, 1) := fp_hdX8_spread_0.1.2.2.2.1.2
theorem dX8_spread_56 : decode cX8_spread 56 = .ok (.lastore, 1) := fp_hdX8_spread_0.1.2.2.2.2.1
theorem dX8_spread_57 : decode cX8_spread 57 = .ok (.return_, 1) := fp_hdX8_spread_0.1.2.2.2.2.2
theorem fp_hdX8_spread_58 : (((((decode cX8_spread 58 = .ok (.aload_n 0, 1) ∧ decode cX8_spread 59 = .ok (.getfield 11, 3)) ∧ (decode cX8_spread 62 = .ok (.iload 4, 2) ∧ decode cX8_spread 64 = .ok (.iconst 1, 1))) ∧ ((decode cX8_spread 65 = .ok (.iadd, 1) ∧ decode cX8_spread 66 = .ok (.aaload, 1)) ∧ (decode cX8_spread 67 = .ok (.aload_n 0, 1) ∧ decode cX8_spread 68 = .ok (.getfield 11, 3)))) ∧ (((decode cX8_spread 71 = .ok (.iload 4, 2) ∧ decode cX8_spread 73 = .ok (.aaload, 1)) ∧ (decode cX8_spread 74 = .ok (.invokevirtual 36, 3) ∧ decode cX8_spread 77 = .ok (.aload_n 2, 1))) ∧ ((decode cX8_spread 78 = .ok (.aload_n 1, 1) ∧ decode cX8_spread 79 = .ok (.aload_n 0, 1)) ∧ (decode cX8_spread 80 = .ok (.getfield 11, 3) ∧ decode cX8_spread 83 = .ok (.iload 4, 2))))) ∧ ((((decode cX8_spread 85 = .ok (.iconst 1, 1) ∧ decode cX8_spread 86 = .ok (.iadd, 1)) ∧ (decode cX8_spread 87 = .ok (.aaload, 1) ∧ decode cX8_spread 88 = .ok (.iload 4, 2))) ∧ ((decode cX8_spread 90 = .ok (.invokevirtual 40, 3) ∧ decode cX8_spread 93 = .ok (.pop, 1)) ∧ (decode cX8_spread 94 = .ok (.aload_n 0, 1) ∧ decode cX8_spread 95 = .ok (.aload_n 1, 1)))) ∧ (((decode cX8_spread 96 = .ok (.aload_n 2, 1) ∧ decode cX8_spread 97 = .ok (.iload_n 3, 1)) ∧ (decode cX8_spread 98 = .ok (.iload 4, 2) ∧ decode cX8_spread 100 = .ok (.iconst 1, 1))) ∧ ((decode cX8_spread 101 = .ok (.iadd, 1) ∧ decode cX8_spread 102 = .ok (.lload 5, 2)) ∧ (decode cX8_spread 104 = .ok (.aload_n 1, 1) ∧ decode cX8_spread 105 = .ok (.getfield 113, 3)))))) ∧ bA cX8_spread 108 fp_scX8_spread_2 :=
  have q0 := fp_o42 fp_hdX8_spread_0.2
  have q1 := fp_o180 (v := 11) q0.2 rfl
  have q2 := fp_o21 q1.2
  have q3 := fp_o4 q2.2
  have q4 := fp_o96 q3.2
  have q5 := fp_o50 q4.2
  have q6 := fp_o42 q5.2
  have q7 := fp_o180 (v := 11) q6.2 rfl
  have q8 := fp_o21 q7.2
  have q9 := fp_o50 q8.2
  have q10 := fp_o182 (v := 36) q9.2 rfl
  have q11 := fp_o44 q10.2
  have q12 := fp_o43 q11.2
  have q13 := fp_o42 q12.2
  have q14 := fp_o180 (v := 11) q13.2 rfl
  have q15 := fp_o21 q14.2
  have q16 := fp_o4 q15.2
  have q17 := fp_o96 q16.2
  have q18 := fp_o50 q17.2
  have q19 := fp_o21 q18.2
  have q20 := fp_o182 (v := 40) q19.2 rfl
  have q21 := fp_o87 q20.2
  have q22 := fp_o42 q21.2
  have q23 := fp_o43 q22.2
  have q24 := fp_o44 q23.2
  have q25 := fp_o29 q24.2
  have q26 := fp_o21 q25.2
  have q27 := fp_o4 q26.2
  have q28 := fp_o96 q27.2
  have q29 := fp_o22 q28.2
  have q30 := fp_o43 q29.2
  have q31 := fp_o180 (v := 113) q30.2 rfl
  ⟨⟨⟨⟨⟨⟨q0.1, q1.1⟩, ⟨q2.1, q3.1⟩⟩, ⟨⟨q4.1, q5.1⟩, ⟨q6.1, q7.1⟩⟩⟩, ⟨⟨⟨q8.1, q9.1⟩, ⟨q10.1, q11.1⟩⟩, ⟨⟨q12.1, q13.1⟩, ⟨q14.1, q15.1⟩⟩⟩⟩, ⟨⟨⟨⟨q16.1, q17.1⟩, ⟨q18.1, q19.1⟩⟩, ⟨⟨q20.1, q21.1⟩, ⟨q22.1, q23.1⟩⟩⟩, ⟨⟨⟨q24.1, q25.1⟩, ⟨q26.1, q27.1⟩⟩, ⟨⟨q28.1, q29.1⟩, ⟨q30.1, q31.1⟩⟩⟩⟩⟩, q31.2⟩
theorem dX8_spread_58 : decode cX8_spread 58 = .ok (.aload_n 0, 1) := fp_hdX8_spread_58.1.1.1.1.1.1
theorem dX8_spread_59 : decode cX8_spread 59 = .ok (.getfield 11, 3) := fp_hdX8_spread_58.1.1.1.1.1.2
theorem dX8_spread_62 : decode cX8_spread 62 = .ok (.iload 4, 2) := fp_hdX8_spread_58.1.1.1.1.2.1
theorem dX8_spread_64 : decode cX8_spread 64 = .ok (.iconst 1, 1) := fp_hdX8_spread_58.1.1.1.1.2.2
theorem dX8_spread_65 : decode cX8_spread 65 = .ok (.iadd, 1) := fp_hdX8_spread_58.1.1.1.2.1.1
theorem dX8_spread_66 : decode cX8_spread 66 = .ok (.aaload, 1) := fp_hdX8_spread_58.1.1.1.2.1.2
theorem dX8_spread_67 : decode cX8_spread 67 = .ok (.aload_n 0, 1) := fp_hdX8_spread_58.1.1.1.2.2.1
theorem dX8_spread_68 : decode cX8_spread 68 = .ok (.getfield 11, 3) := fp_hdX8_spread_58.1.1.1.2.2.2
theorem dX8_spread_71 : decode cX8_spread 71 = .ok (.iload 4, 2) := fp_hdX8_spread_58.1.1.2.1.1.1
theorem dX8_spread_73 : decode cX8_spread 73 = .ok (.aaload, 1) := fp_hdX8_spread_58.1.1.2.1.1.2
theorem dX8_spread_74 : decode cX8_spread 74 = .ok (.invokevirtual 36, 3) := fp_hdX8_spread_58.1.1.2.1.2.1
theorem dX8_spread_77 : decode cX8_spread 77 = .ok (.aload_n 2, 1) := fp_hdX8_spread_58.1.1.2.1.2.2
theorem dX8_spread_78 : decode cX8_spread 78 = .ok (.aload_n 1, 1) := fp_hdX8_spread_58.1.1.2.2.1.1
theorem dX8_spread_79 : decode cX8_spread 79 = .ok (.aload_n 0, 1) := fp_hdX8_spread_58.1.1.2.2.1.2
theorem dX8_spread_80 : decode cX8_spread 80 = .ok (.getfield 11, 3) := fp_hdX8_spread_58.1.1.2.2.2.1
theorem dX8_spread_83 : decode cX8_spread 83 = .ok (.iload 4, 2) := fp_hdX8_spread_58.1.1.2.2.2.2
theorem dX8_spread_85 : decode cX8_spread 85 = .ok (.iconst 1, 1) := fp_hdX8_spread_58.1.2.1.1.1.1
theorem dX8_spread_86 : decode cX8_spread 86 = .ok (.iadd, 1) := fp_hdX8_spread_58.1.2.1.1.1.2
theorem dX8_spread_87 : decode cX8_spread 87 = .ok (.aaload, 1) := fp_hdX8_spread_58.1.2.1.1.2.1
theorem dX8_spread_88 : decode cX8_spread 88 = .ok (.iload 4, 2) := fp_hdX8_spread_58.1.2.1.1.2.2
theorem dX8_spread_90 : decode cX8_spread 90 = .ok (.invokevirtual 40, 3) := fp_hdX8_spread_58.1.2.1.2.1.1
theorem dX8_spread_93 : decode cX8_spread 93 = .ok (.pop, 1) := fp_hdX8_spread_58.1.2.1.2.1.2
theorem dX8_spread_94 : decode cX8_spread 94 = .ok (.aload_n 0, 1) := fp_hdX8_spread_58.1.2.1.2.2.1
theorem dX8_spread_95 : decode cX8_spread 95 = .ok (.aload_n 1, 1) := fp_hdX8_spread_58.1.2.1.2.2.2
theorem dX8_spread_96 : decode cX8_spread 96 = .ok (.aload_n 2, 1) := fp_hdX8_spread_58.1.2.2.1.1.1
theorem dX8_spread_97 : decode cX8_spread 97 = .ok (.iload_n 3, 1) := fp_hdX8_spread_58.1.2.2.1.1.2
theorem dX8_spread_98 : decode cX8_spread 98 = .ok (.iload 4, 2) := fp_hdX8_spread_58.1.2.2.1.2.1
theorem dX8_spread_100 : decode cX8_spread 100 = .ok (.iconst 1, 1) := fp_hdX8_spread_58.1.2.2.1.2.2
theorem dX8_spread_101 : decode cX8_spread 101 = .ok (.iadd, 1) := fp_hdX8_spread_58.1.2.2.2.1.1
theorem dX8_spread_102 : decode cX8_spread 102 = .ok (.lload 5, 2) := fp_hdX8_spread_58.1.2.2.2.1.2
theorem dX8_spread_104 : decode cX8_spread 104 = .ok (.aload_n 1, 1) := fp_hdX8_spread_58.1.2.2.2.2.1
theorem dX8_spread_105 : decode cX8_spread 105 = .ok (.getfield 113, 3) := fp_hdX8_spread_58.1.2.2.2.2.2
theorem fp_hdX8_spread_108 : (((((decode cX8_spread 108 = .ok (.i2l, 1) ∧ decode cX8_spread 109 = .ok (.lmul, 1)) ∧ (decode cX8_spread 110 = .ok (.invokevirtual 107, 3) ∧ decode cX8_spread 113 = .ok (.aload_n 0, 1))) ∧ ((decode cX8_spread 114 = .ok (.getfield 11, 3) ∧ decode cX8_spread 117 = .ok (.iload 4, 2)) ∧ (decode cX8_spread 119 = .ok (.iconst 1, 1) ∧ decode cX8_spread 120 = .ok (.iadd, 1)))) ∧ (((decode cX8_spread 121 = .ok (.aaload, 1) ∧ decode cX8_spread 122 = .ok (.aload_n 0, 1)) ∧ (decode cX8_spread 123 = .ok (.getfield 11, 3) ∧ decode cX8_spread 126 = .ok (.iload 4, 2))) ∧ ((decode cX8_spread 128 = .ok (.aaload, 1) ∧ decode cX8_spread 129 = .ok (.invokevirtual 36, 3)) ∧ decode cX8_spread 132 = .ok (.aload_n 0, 1)))) ∧ ((((decode cX8_spread 133 = .ok (.aload_n 1, 1) ∧ decode cX8_spread 134 = .ok (.aload_n 2, 1)) ∧ (decode cX8_spread 135 = .ok (.iload_n 3, 1) ∧ decode cX8_spread 136 = .ok (.iload 4, 2))) ∧ ((decode cX8_spread 138 = .ok (.iconst 1, 1) ∧ decode cX8_spread 139 = .ok (.iadd, 1)) ∧ (decode cX8_spread 140 = .ok (.lload 5, 2) ∧ decode cX8_spread 142 = .ok (.bipush 10, 2)))) ∧ (((decode cX8_spread 144 = .ok (.aload_n 1, 1) ∧ decode cX8_spread 145 = .ok (.getfield 113, 3)) ∧ (decode cX8_spread 148 = .ok (.isub, 1) ∧ decode cX8_spread 149 = .ok (.i2l, 1))) ∧ ((decode cX8_spread 150 = .ok (.lmul, 1) ∧ decode cX8_spread 151 = .ok (.invokevirtual 107, 3)) ∧ decode cX8_spread 154 = .ok (.return_, 1))))) ∧ bA cX8_spread 155 [] :=
  have q0 := fp_o133 fp_hdX8_spread_58.2
  have q1 := fp_o105 q0.2
  have q2 := fp_o182 (v := 107) q1.2 rfl
  have q3 := fp_o42 q2.2
  have q4 := fp_o180 (v := 11) q3.2 rfl
  have q5 := fp_o21 q4.2
  have q6 := fp_o4 q5.2
  have q7 := fp_o96 q6.2
  have q8 := fp_o50 q7.2
  have q9 := fp_o42 q8.2
  have q10 := fp_o180 (v := 11) q9.2 rfl
  have q11 := fp_o21 q10.2
  have q12 := fp_o50 q11.2
  have q13 := fp_o182 (v := 36) q12.2 rfl
  have q14 := fp_o42 q13.2
  have q15 := fp_o43 q14.2
  have q16 := fp_o44 q15.2
  have q17 := fp_o29 q16.2
  have q18 := fp_o21 q17.2
  have q19 := fp_o4 q18.2
  have q20 := fp_o96 q19.2
  have q21 := fp_o22 q20.2
  have q22 := fp_o16 (v := 10) q21.2 rfl
  have q23 := fp_o43 q22.2
  have q24 := fp_o180 (v := 113) q23.2 rfl
  have q25 := fp_o100 q24.2
  have q26 := fp_o133 q25.2
  have q27 := fp_o105 q26.2
  have q28 := fp_o182 (v := 107) q27.2 rfl
  have q29 := fp_o177 q28.2
  ⟨⟨⟨⟨⟨⟨q0.1, q1.1⟩, ⟨q2.1, q3.1⟩⟩, ⟨⟨q4.1, q5.1⟩, ⟨q6.1, q7.1⟩⟩⟩, ⟨⟨⟨q8.1, q9.1⟩, ⟨q10.1, q11.1⟩⟩, ⟨⟨q12.1, q13.1⟩, q14.1⟩⟩⟩, ⟨⟨⟨⟨q15.1, q16.1⟩, ⟨q17.1, q18.1⟩⟩, ⟨⟨q19.1, q20.1⟩, ⟨q21.1, q22.1⟩⟩⟩, ⟨⟨⟨q23.1, q24.1⟩, ⟨q25.1, q26.1⟩⟩, ⟨⟨q27.1, q28.1⟩, q29.1⟩⟩⟩⟩, q29.2⟩
theorem dX8_spread_108 : decode cX8_spread 108 = .ok (.i2l, 1) := fp_hdX8_spread_108.1.1.1.1.1.1
theorem dX8_spread_109 : decode cX8_spread 109 = .ok (.lmul, 1) := fp_hdX8_spread_108.1.1.1.1.1.2
theorem dX8_spread_110 : decode cX8_spread 110 = .ok (.invokevirtual 107, 3) := fp_hdX8_spread_108.1.1.1.1.2.1
theorem dX8_spread_113 : decode cX8_spread 113 = .ok (.aload_n 0, 1) := fp_hdX8_spread_108.1.1.1.1.2.2
theorem dX8_spread_114 : decode cX8_spread 114 = .ok (.getfield 11, 3) := fp_hdX8_spread_108.1.1.1.2.1.1
theorem dX8_spread_117 : decode cX8_spread 117 = .ok (.iload 4, 2) := fp_hdX8_spread_108.1.1.1.2.1.2
theorem dX8_spread_119 : decode cX8_spread 119 = .ok (.iconst 1, 1) := fp_hdX8_spread_108.1.1.1.2.2.1
theorem dX8_spread_120 : decode cX8_spread 120 = .ok (.iadd, 1) := fp_hdX8_spread_108.1.1.1.2.2.2
theorem dX8_spread_121 : decode cX8_spread 121 = .ok (.aaload, 1) := fp_hdX8_spread_108.1.1.2.1.1.1
theorem dX8_spread_122 : decode cX8_spread 122 = .ok (.aload_n 0, 1) := fp_hdX8_spread_108.1.1.2.1.1.2
theorem dX8_spread_123 : decode cX8_spread 123 = .ok (.getfield 11, 3) := fp_hdX8_spread_108.1.1.2.1.2.1
theorem dX8_spread_126 : decode cX8_spread 126 = .ok (.iload 4, 2) := fp_hdX8_spread_108.1.1.2.1.2.2
theorem dX8_spread_128 : decode cX8_spread 128 = .ok (.aaload, 1) := fp_hdX8_spread_108.1.1.2.2.1.1
theorem dX8_spread_129 : decode cX8_spread 129 = .ok (.invokevirtual 36, 3) := fp_hdX8_spread_108.1.1.2.2.1.2
theorem dX8_spread_132 : decode cX8_spread 132 = .ok (.aload_n 0, 1) := fp_hdX8_spread_108.1.1.2.2.2
theorem dX8_spread_133 : decode cX8_spread 133 = .ok (.aload_n 1, 1) := fp_hdX8_spread_108.1.2.1.1.1.1
theorem dX8_spread_134 : decode cX8_spread 134 = .ok (.aload_n 2, 1) := fp_hdX8_spread_108.1.2.1.1.1.2
theorem dX8_spread_135 : decode cX8_spread 135 = .ok (.iload_n 3, 1) := fp_hdX8_spread_108.1.2.1.1.2.1
theorem dX8_spread_136 : decode cX8_spread 136 = .ok (.iload 4, 2) := fp_hdX8_spread_108.1.2.1.1.2.2
theorem dX8_spread_138 : decode cX8_spread 138 = .ok (.iconst 1, 1) := fp_hdX8_spread_108.1.2.1.2.1.1
theorem dX8_spread_139 : decode cX8_spread 139 = .ok (.iadd, 1) := fp_hdX8_spread_108.1.2.1.2.1.2
theorem dX8_spread_140 : decode cX8_spread 140 = .ok (.lload 5, 2) := fp_hdX8_spread_108.1.2.1.2.2.1
theorem dX8_spread_142 : decode cX8_spread 142 = .ok (.bipush 10, 2) := fp_hdX8_spread_108.1.2.1.2.2.2
theorem dX8_spread_144 : decode cX8_spread 144 = .ok (.aload_n 1, 1) := fp_hdX8_spread_108.1.2.2.1.1.1
theorem dX8_spread_145 : decode cX8_spread 145 = .ok (.getfield 113, 3) := fp_hdX8_spread_108.1.2.2.1.1.2
theorem dX8_spread_148 : decode cX8_spread 148 = .ok (.isub, 1) := fp_hdX8_spread_108.1.2.2.1.2.1
theorem dX8_spread_149 : decode cX8_spread 149 = .ok (.i2l, 1) := fp_hdX8_spread_108.1.2.2.1.2.2
theorem dX8_spread_150 : decode cX8_spread 150 = .ok (.lmul, 1) := fp_hdX8_spread_108.1.2.2.2.1.1
theorem dX8_spread_151 : decode cX8_spread 151 = .ok (.invokevirtual 107, 3) := fp_hdX8_spread_108.1.2.2.2.1.2
theorem dX8_spread_154 : decode cX8_spread 154 = .ok (.return_, 1) := fp_hdX8_spread_108.1.2.2.2.2
def fp_scX9_init_0 : List Nat := 42 :: 183 :: 0 :: 3 :: 42 :: 16 :: 252 :: 181 :: 0 :: 9 :: 42 :: 16 :: 40 :: 188 :: 10 :: 181 :: 0 :: 15 :: 177 :: []
theorem fp_bcX9_init : bA cX9_init 0 fp_scX9_init_0 := show cX9_init.data.toList.map UInt8.toNat = fp_scX9_init_0 from by decide +kernel
theorem fp_hdX9_init_0 : ((((decode cX9_init 0 = .ok (.aload_n 0, 1) ∧ decode cX9_init 1 = .ok (.invokespecial 3, 3)) ∧ decode cX9_init 4 = .ok (.aload_n 0, 1)) ∧ (decode cX9_init 5 = .ok (.bipush (-4), 2) ∧ decode cX9_init 7 = .ok (.putfield 9, 3))) ∧ (((decode cX9_init 10 = .ok (.aload_n 0, 1) ∧ decode cX9_init 11 = .ok (.bipush 40, 2)) ∧ decode cX9_init 13 = .ok (.newarray .int, 2)) ∧ (decode cX9_init 15 = .ok (.putfield 15, 3) ∧ decode cX9_init 18 = .ok (.return_, 1)))) ∧ bA cX9_init 19 [] :=
  have q0 := fp_o42 fp_bcX9_init
  have q1 := fp_o183 (v := 3) q0.2 rfl
  have q2 := fp_o42 q1.2
  have q3 := fp_o16 (v := (-4)) q2.2 rfl
  have q4 := fp_o181 (v := 9) q3.2 rfl
  have q5 := fp_o42 q4.2
  have q6 := fp_o16 (v := 40) q5.2 rfl
  have q7 := fp_o188_10 q6.2
  have q8 := fp_o181 (v := 15) q7.2 rfl
  have q9 := fp_o177 q8.2
  ⟨⟨⟨⟨⟨q0.1, q1.1⟩, q2.1⟩, ⟨q3.1, q4.1⟩⟩, ⟨⟨⟨q5.1, q6.1⟩, q7.1⟩, ⟨q8.1, q9.1⟩⟩⟩, q9.2⟩
theorem dX9_init_0 : decode cX9_init 0 = .ok (.aload_n 0, 1) := fp_hdX9_init_0.1.1.1.1.1
theorem dX9_init_1 : decode cX9_init 1 = .ok (.invokespecial 3, 3) := fp_hdX9_init_0.1.1.1.1.2
theorem dX9_init_4 : decode cX9_init 4 = .ok (.aload_n 0, 1) := fp_hdX9_init_0.1.1.1.2
theorem dX9_init_5 : decode cX9_init 5 = .ok (.bipush (-4), 2) := fp_hdX9_init_0.1.1.2.1
theorem dX9_init_7 : decode cX9_init 7 = .ok (.putfield 9, 3) := fp_hdX9_init_0.1.1.2.2
theorem dX9_init_10 : decode cX9_init 10 = .ok (.aload_n 0, 1) := fp_hdX9_init_0.1.2.1.1.1
theorem dX9_init_11 : decode cX9_init 11 = .ok (.bipush 40, 2) := fp_hdX9_init_0.1.2.1.1.2
theorem dX9_init_13 : decode cX9_init 13 = .ok (.newarray .int, 2) := fp_hdX9_init_0.1.2.1.2
theorem dX9_init_15 : decode cX9_init 15 = .ok (.putfield 15, 3) := fp_hdX9_init_0.1.2.2.1
theorem dX9_init_18 : decode cX9_init 18 = .ok (.return_, 1) := fp_hdX9_init_0.1.2.2.2
def fp_scX9_isThere_0 : List Nat := 42 :: 180 :: 0 :: 9 :: 16 :: 252 :: 159 :: 0 :: 7 :: 4 :: 167 :: 0 :: 4 :: 3 :: 172 :: []
theorem fp_bcX9_isThere : bA cX9_isThere 0 fp_scX9_isThere_0 := show cX9_isThere.data.toList.map UInt8.toNat = fp_scX9_isThere_0 from by decide +kernel
theorem fp_hdX9_isThere_0 : (((decode cX9_isThere 0 = .ok (.aload_n 0, 1) ∧ decode cX9_isThere 1 = .ok (.getfield 9, 3)) ∧ (decode cX9_isThere 4 = .ok (.bipush (-4), 2) ∧ decode cX9_isThere 6 = .ok (.if_icmp .eq 7, 3))) ∧ ((decode cX9_isThere 9 = .ok (.iconst 1, 1) ∧ decode cX9_isThere 10 = .ok (.goto 4, 3)) ∧ (decode cX9_isThere 13 = .ok (.iconst 0, 1) ∧ decode cX9_isThere 14 = .ok (.ireturn, 1)))) ∧ bA cX9_isThere 15 [] :=
  have q0 := fp_o42 fp_bcX9_isThere
  have q1 := fp_o180 (v := 9) q0.2 rfl
  have q2 := fp_o16 (v := (-4)) q1.2 rfl
  have q3 := fp_o159 (v := 7) q2.2 rfl
  have q4 := fp_o4 q3.2
  have q5 := fp_o167 (v := 4) q4.2 rfl
  have q6 := fp_o3 q5.2
  have q7 := fp_o172 q6.2
  ⟨⟨⟨⟨q0.1, q1.1⟩, ⟨q2.1, q3.1⟩⟩, ⟨⟨q4.1, q5.1⟩, ⟨q6.1, q7.1⟩⟩⟩, q7.2⟩
theorem dX9_isThere_0 : decode cX9_isThere 0 = .ok (.aload_n 0, 1) := fp_hdX9_isThere_0.1.1.1.1
theorem dX9_isThere_1 : decode cX9_isThere 1 = .ok (.getfield 9, 3) := fp_hdX9_isThere_0.1.1.1.2
theorem dX9_isThere_4 : decode cX9_isThere 4 = .ok (.bipush (-4), 2) := fp_hdX9_isThere_0.1.1.2.1
theorem dX9_isThere_6 : decode cX9_isThere 6 = .ok (.if_icmp .eq 7, 3) := fp_hdX9_isThere_0.1.1.2.2
theorem dX9_isThere_9 : decode cX9_isThere 9 = .ok (.iconst 1, 1) := fp_hdX9_isThere_0.1.2.1.1
theorem dX9_isThere_10 : decode cX9_isThere 10 = .ok (.goto 4, 3) := fp_hdX9_isThere_0.1.2.1.2
theorem dX9_isThere_13 : decode cX9_isThere 13 = .ok (.iconst 0, 1) := fp_hdX9_isThere_0.1.2.2.1
theorem dX9_isThere_14 : decode cX9_isThere 14 = .ok (.ireturn, 1) := fp_hdX9_isThere_0.1.2.2.2
def fp_scX9_has_0 : List Nat := 27 :: 155 :: 0 :: 15 :: 27 :: 42 :: 180 :: 0 :: 9 :: 162 :: 0 :: 7 :: 4 :: 167 :: 0 :: 4 :: 3 :: 172 :: []
theorem fp_bcX9_has : bA cX9_has 0 fp_scX9_has_0 := show cX9_has.data.toList.map UInt8.toNat = fp_scX9_has_0 from by decide +kernel
theorem fp_hdX9_has_0 : ((((decode cX9_has 0 = .ok (.iload_n 1, 1) ∧ decode cX9_has 1 = .ok (.ifCond .lt 15, 3)) ∧ decode cX9_has 4 = .ok (.iload_n 1, 1)) ∧ (decode cX9_has 5 = .ok (.aload_n 0, 1) ∧ decode cX9_has 6 = .ok (.getfield 9, 3))) ∧ (((decode cX9_has 9 = .ok (.if_icmp .ge 7, 3) ∧ decode cX9_has 12 = .ok (.iconst 1, 1)) ∧ decode cX9_has 13 = .ok (.goto 4, 3)) ∧ (decode cX9_has 16 = .ok (.iconst 0, 1) ∧ decode cX9_has 17 = .ok (.ireturn, 1)))) ∧ bA cX9_has 18 [] :=
  have q0 := fp_o27 fp_bcX9_has
  have q1 := fp_o155 (v := 15) q0.2 rfl
  have q2 := fp_o27 q1.2
  have q3 := fp_o42 q2.2
  have q4 := fp_o180 (v := 9) q3.2 rfl
  have q5 := fp_o162 (v := 7) q4.2 rfl
  have q6 := fp_o4 q5.2
  have q7 := fp_o167 (v := 4) q6.2 rfl
  have q8 := fp_o3 q7.2
  have q9 := fp_o172 q8.2
  ⟨⟨⟨⟨⟨q0.1, q1.1⟩, q2.1⟩, ⟨q3.1, q4.1⟩⟩, ⟨⟨⟨q5.1, q6.1⟩, q7.1⟩, ⟨q8.1, q9.1⟩⟩⟩, q9.2⟩
theorem dX9_has_0 : decode cX9_has 0 = .ok (.iload_n 1, 1) := fp_hdX9_has_0.1.1.1.1.1
theorem dX9_has_1 : decode cX9_has 1 = .ok (.ifCond .lt 15, 3) := fp_hdX9_has_0.1.1.1.1.2
theorem dX9_has_4 : decode cX9_has 4 = .ok (.iload_n 1, 1) := fp_hdX9_has_0.1.1.1.2
theorem dX9_has_5 : decode cX9_has 5 = .ok (.aload_n 0, 1) := fp_hdX9_has_0.1.1.2.1
theorem dX9_has_6 : decode cX9_has 6 = .ok (.getfield 9, 3) := fp_hdX9_has_0.1.1.2.2
theorem dX9_has_9 : decode cX9_has 9 = .ok (.if_icmp .ge 7, 3) := fp_hdX9_has_0.1.2.1.1.1
theorem dX9_has_12 : decode cX9_has 12 = .ok (.iconst 1, 1) := fp_hdX9_has_0.1.2.1.1.2
theorem dX9_has_13 : decode cX9_has 13 = .ok (.goto 4, 3) := fp_hdX9_has_0.1.2.1.2
theorem dX9_has_16 : decode cX9_has 16 = .ok (.iconst 0, 1) := fp_hdX9_has_0.1.2.2.1
theorem dX9_has_17 : decode cX9_has 17 = .ok (.ireturn, 1) := fp_hdX9_has_0.1.2.2.2
def fp_scX9_hasVisit_0 : List Nat := 42 :: 27 :: 182 :: 0 :: 19 :: 153 :: 0 :: 23 :: 42 :: 27 :: 28 :: 4 :: 96 :: 7 :: 104 :: 96 :: 4 :: 100 :: 182 :: 0 :: 19 :: 153 :: 0 :: 7 :: 4 :: 167 :: 0 :: 4 :: 3 :: 172 :: []
theorem fp_bcX9_hasVisit : bA cX9_hasVisit 0 fp_scX9_hasVisit_0 := show cX9_hasVisit.data.toList.map UInt8.toNat = fp_scX9_hasVisit_0 from by decide +kernel
theorem fp_hdX9_hasVisit_0 : (((((decode cX9_hasVisit 0 = .ok (.aload_n 0, 1) ∧ decode cX9_hasVisit 1 = .ok (.iload_n 1, 1)) ∧ decode cX9_hasVisit 2 = .ok (.invokevirtual 19, 3)) ∧ (decode cX9_hasVisit 5 = .ok (.ifCond .eq 23, 3) ∧ decode cX9_hasVisit 8 = .ok (.aload_n 0, 1))) ∧ (((decode cX9_hasVisit 9 = .ok (.iload_n 1, 1) ∧ decode cX9_hasVisit 10 = .ok (.iload_n 2, 1)) ∧ decode cX9_hasVisit 11 = .ok (.iconst 1, 1)) ∧ (decode cX9_hasVisit 12 = .ok (.iadd, 1) ∧ decode cX9_hasVisit 13 = .ok (.iconst 4, 1)))) ∧ ((((decode cX9_hasVisit 14 = .ok (.imul, 1) ∧ decode cX9_hasVisit 15 = .ok (.iadd, 1)) ∧ decode cX9_hasVisit 16 = .ok (.iconst 1, 1)) ∧ (decode cX9_hasVisit 17 = .ok (.isub, 1) ∧ decode cX9_hasVisit 18 = .ok (.invokevirtual 19, 3))) ∧ (((decode cX9_hasVisit 21 = .ok (.ifCond .eq 7, 3) ∧ decode cX9_hasVisit 24 = .ok (.iconst 1, 1)) ∧ decode cX9_hasVisit 25 = .ok (.goto 4, 3)) ∧ (decode cX9_hasVisit 28 = .ok (.iconst 0, 1) ∧ decode cX9_hasVisit 29 = .ok (.ireturn, 1))))) ∧ bA cX9_hasVisit 30 [] :=
  have q0 := fp_o42 fp_bcX9_hasVisit
  have q1 := fp_o27 q0.2
  have q2 := fp_o182 (v := 19) q1.2 rfl
  have q3 := fp_o153 (v := 23) q2.2 rfl
  have q4 := fp_o42 q3.2
  have q5 := fp_o27 q4.2
  have q6 := fp_o28 q5.2
  have q7 := fp_o4 q6.2
  have q8 := fp_o96 q7.2
  have q9 := fp_o7 q8.2
  have q10 := fp_o104 q9.2
  have q11 := fp_o96 q10.2
  have q12 := fp_o4 q11.2
  have q13 := fp_o100 q12.2
  have q14 := fp_o182 (v := 19) q13.2 rfl
  have q15 := fp_o153 (v := 7) q14.2 rfl
  have q16 := fp_o4 q15.2
  have q17 := fp_o167 (v := 4) q16.2 rfl
  have q18 := fp_o3 q17.2
  have q19 := fp_o172 q18.2
  ⟨⟨⟨⟨⟨⟨q0.1, q1.1⟩, q2.1⟩, ⟨q3.1, q4.1⟩⟩, ⟨⟨⟨q5.1, q6.1⟩, q7.1⟩, ⟨q8.1, q9.1⟩⟩⟩, ⟨⟨⟨⟨q10.1, q11.1⟩, q12.1⟩, ⟨q13.1, q14.1⟩⟩, ⟨⟨⟨q15.1, q16.1⟩, q17.1⟩, ⟨q18.1, q19.1⟩⟩⟩⟩, q19.2⟩
theorem dX9_hasVisit_0 : decode cX9_hasVisit 0 = .ok (.aload_n 0, 1) := fp_hdX9_hasVisit_0.1.1.1.1.1.1
theorem dX9_hasVisit_1 : decode cX9_hasVisit 1 = .ok (.iload_n 1, 1) := fp_hdX9_hasVisit_0.1.1.1.1.1.2
theorem dX9_hasVisit_2 : decode cX9_hasVisit 2 = .ok (.invokevirtual 19, 3) := fp_hdX9_hasVisit_0.1.1.1.1.2
theorem dX9_hasVisit_5 : decode cX9_hasVisit 5 = .ok (.ifCond .eq 23, 3) := fp_hdX9_hasVisit_0.1.1.1.2.1
theorem dX9_hasVisit_8 : decode cX9_hasVisit 8 = .ok (.aload_n 0, 1) := fp_hdX9_hasVisit_0.1.1.1.2.2
theorem dX9_hasVisit_9 : decode cX9_hasVisit 9 = .ok (.iload_n 1, 1) := fp_hdX9_hasVisit_0.1.1.2.1.1.1
theorem dX9_hasVisit_10 : decode cX9_hasVisit 10 = .ok (.iload_n 2, 1) := fp_hdX9_hasVisit_0.1.1.2.1.1.2
theorem dX9_hasVisit_11 : decode cX9_hasVisit 11 = .ok (.iconst 1, 1) := fp_hdX9_hasVisit_0.1.1.2.1.2
theorem dX9_hasVisit_12 : decode cX9_hasVisit 12 = .ok (.iadd, 1) := fp_hdX9_hasVisit_0.1.1.2.2.1
theorem dX9_hasVisit_13 : decode cX9_hasVisit 13 = .ok (.iconst 4, 1) := fp_hdX9_hasVisit_0.1.1.2.2.2
theorem dX9_hasVisit_14 : decode cX9_hasVisit 14 = .ok (.imul, 1) := fp_hdX9_hasVisit_0.1.2.1.1.1.1
theorem dX9_hasVisit_15 : decode cX9_hasVisit 15 = .ok (.iadd, 1) := fp_hdX9_hasVisit_0.1.2.1.1.1.2
theorem dX9_hasVisit_16 : decode cX9_hasVisit 16 = .ok (.iconst 1, 1) := fp_hdX9_hasVisit_0.1.2.1.1.2
theorem dX9_hasVisit_17 : decode cX9_hasVisit 17 = .ok (.isub, 1) := fp_hdX9_hasVisit_0.1.2.1.2.1
theorem dX9_hasVisit_18 : decode cX9_hasVisit 18 = .ok (.invokevirtual 19, 3) := fp_hdX9_hasVisit_0.1.2.1.2.2
theorem dX9_hasVisit_21 : decode cX9_hasVisit 21 = .ok (.ifCond .eq 7, 3) := fp_hdX9_hasVisit_0.1.2.2.1.1.1
theorem dX9_hasVisit_24 : decode cX9_hasVisit 24 = .ok (.iconst 1, 1) := fp_hdX9_hasVisit_0.1.2.2.1.1.2
theorem dX9_hasVisit_25 : decode cX9_hasVisit 25 = .ok (.goto 4, 3) := fp_hdX9_hasVisit_0.1.2.2.1.2
theorem dX9_hasVisit_28 : decode cX9_hasVisit 28 = .ok (.iconst 0, 1) := fp_hdX9_hasVisit_0.1.2.2.2.1
theorem dX9_hasVisit_29 : decode cX9_hasVisit 29 = .ok (.ireturn, 1) := fp_hdX9_hasVisit_0.1.2.2.2.2
def fp_scX9_faultTakenAs_0 : List Nat := 42 :: 182 :: 0 :: 23 :: 154 :: 0 :: 5 :: 4 :: 172 :: 42 :: 180 :: 0 :: 27 :: 27 :: 160 :: 0 :: 7 :: 3 :: 167 :: 0 :: 4 :: 6 :: 172 :: []
theorem fp_bcX9_faultTakenAs : bA cX9_faultTakenAs 0 fp_scX9_faultTakenAs_0 := show cX9_faultTakenAs.data.toList.map UInt8.toNat = fp_scX9_faultTakenAs_0 from by decide +kernel
theorem fp_hdX9_faultTakenAs_0 : ((((decode cX9_faultTakenAs 0 = .ok (.aload_n 0, 1) ∧ decode cX9_faultTakenAs 1 = .ok (.invokevirtual 23, 3)) ∧ (decode cX9_faultTakenAs 4 = .ok (.ifCond .ne 5, 3) ∧ decode cX9_faultTakenAs 7 = .ok (.iconst 1, 1))) ∧ ((decode cX9_faultTakenAs 8 = .ok (.ireturn, 1) ∧ decode cX9_faultTakenAs 9 = .ok (.aload_n 0, 1)) ∧ decode cX9_faultTakenAs 10 = .ok (.getfield 27, 3))) ∧ (((decode cX9_faultTakenAs 13 = .ok (.iload_n 1, 1) ∧ decode cX9_faultTakenAs 14 = .ok (.if_icmp .ne 7, 3)) ∧ decode cX9_faultTakenAs 17 = .ok (.iconst 0, 1)) ∧ ((decode cX9_faultTakenAs 18 = .ok (.goto 4, 3) ∧ decode cX9_faultTakenAs 21 = .ok (.iconst 3, 1)) ∧ decode cX9_faultTakenAs 22 = .ok (.ireturn, 1)))) ∧ bA cX9_faultTakenAs 23 [] :=
  have q0 := fp_o42 fp_bcX9_faultTakenAs
  have q1 := fp_o182 (v := 23) q0.2 rfl
  have q2 := fp_o154 (v := 5) q1.2 rfl
  have q3 := fp_o4 q2.2
  have q4 := fp_o172 q3.2
  have q5 := fp_o42 q4.2
  have q6 := fp_o180 (v := 27) q5.2 rfl
  have q7 := fp_o27 q6.2
  have q8 := fp_o160 (v := 7) q7.2 rfl
  have q9 := fp_o3 q8.2
  have q10 := fp_o167 (v := 4) q9.2 rfl
  have q11 := fp_o6 q10.2
  have q12 := fp_o172 q11.2
  ⟨⟨⟨⟨⟨q0.1, q1.1⟩, ⟨q2.1, q3.1⟩⟩, ⟨⟨q4.1, q5.1⟩, q6.1⟩⟩, ⟨⟨⟨q7.1, q8.1⟩, q9.1⟩, ⟨⟨q10.1, q11.1⟩, q12.1⟩⟩⟩, q12.2⟩
theorem dX9_faultTakenAs_0 : decode cX9_faultTakenAs 0 = .ok (.aload_n 0, 1) := fp_hdX9_faultTakenAs_0.1.1.1.1.1
theorem dX9_faultTakenAs_1 : decode cX9_faultTakenAs 1 = .ok (.invokevirtual 23, 3) := fp_hdX9_faultTakenAs_0.1.1.1.1.2
theorem dX9_faultTakenAs_4 : decode cX9_faultTakenAs 4 = .ok (.ifCond .ne 5, 3) := fp_hdX9_faultTakenAs_0.1.1.1.2.1
theorem dX9_faultTakenAs_7 : decode cX9_faultTakenAs 7 = .ok (.iconst 1, 1) := fp_hdX9_faultTakenAs_0.1.1.1.2.2
theorem dX9_faultTakenAs_8 : decode cX9_faultTakenAs 8 = .ok (.ireturn, 1) := fp_hdX9_faultTakenAs_0.1.1.2.1.1
theorem dX9_faultTakenAs_9 : decode cX9_faultTakenAs 9 = .ok (.aload_n 0, 1) := fp_hdX9_faultTakenAs_0.1.1.2.1.2
theorem dX9_faultTakenAs_10 : decode cX9_faultTakenAs 10 = .ok (.getfield 27, 3) := fp_hdX9_faultTakenAs_0.1.1.2.2
theorem dX9_faultTakenAs_13 : decode cX9_faultTakenAs 13 = .ok (.iload_n 1, 1) := fp_hdX9_faultTakenAs_0.1.2.1.1.1
theorem dX9_faultTakenAs_14 : decode cX9_faultTakenAs 14 = .ok (.if_icmp .ne 7, 3) := fp_hdX9_faultTakenAs_0.1.2.1.1.2
theorem dX9_faultTakenAs_17 : decode cX9_faultTakenAs 17 = .ok (.iconst 0, 1) := fp_hdX9_faultTakenAs_0.1.2.1.2
theorem dX9_faultTakenAs_18 : decode cX9_faultTakenAs 18 = .ok (.goto 4, 3) := fp_hdX9_faultTakenAs_0.1.2.2.1.1
theorem dX9_faultTakenAs_21 : decode cX9_faultTakenAs 21 = .ok (.iconst 3, 1) := fp_hdX9_faultTakenAs_0.1.2.2.1.2
theorem dX9_faultTakenAs_22 : decode cX9_faultTakenAs 22 = .ok (.ireturn, 1) := fp_hdX9_faultTakenAs_0.1.2.2.2
def fp_scX9_renew_0 : List Nat := 42 :: 27 :: 181 :: 0 :: 27 :: 42 :: 28 :: 181 :: 0 :: 9 :: 42 :: 180 :: 0 :: 15 :: 3 :: 184 :: 0 :: 30 :: 177 :: []
theorem fp_bcX9_renew : bA cX9_renew 0 fp_scX9_renew_0 := show cX9_renew.data.toList.map UInt8.toNat = fp_scX9_renew_0 from by decide +kernel
theorem fp_hdX9_renew_0 : ((((decode cX9_renew 0 = .ok (.aload_n 0, 1) ∧ decode cX9_renew 1 = .ok (.iload_n 1, 1)) ∧ decode cX9_renew 2 = .ok (.putfield 27, 3)) ∧ ((decode cX9_renew 5 = .ok (.aload_n 0, 1) ∧ decode cX9_renew 6 = .ok (.iload_n 2, 1)) ∧ decode cX9_renew 7 = .ok (.putfield 9, 3))) ∧ (((decode cX9_renew 10 = .ok (.aload_n 0, 1) ∧ decode cX9_renew 11 = .ok (.getfield 15, 3)) ∧ decode cX9_renew 14 = .ok (.iconst 0, 1)) ∧ (decode cX9_renew 15 = .ok (.invokestatic 30, 3) ∧ decode cX9_renew 18 = .ok (.return_, 1)))) ∧ bA cX9_renew 19 [] :=
  have q0 := fp_o42 fp_bcX9_renew
  have q1 := fp_o27 q0.2
  have q2 := fp_o181 (v := 27) q1.2 rfl
  have q3 := fp_o42 q2.2
  have q4 := fp_o28 q3.2
  have q5 := fp_o181 (v := 9) q4.2 rfl
  have q6 := fp_o42 q5.2
  have q7 := fp_o180 (v := 15) q6.2 rfl
  have q8 := fp_o3 q7.2
  have q9 := fp_o184 (v := 30) q8.2 rfl
  have q10 := fp_o177 q9.2
  ⟨⟨⟨⟨⟨q0.1, q1.1⟩, q2.1⟩, ⟨⟨q3.1, q4.1⟩, q5.1⟩⟩, ⟨⟨⟨q6.1, q7.1⟩, q8.1⟩, ⟨q9.1, q10.1⟩⟩⟩, q10.2⟩
theorem dX9_renew_0 : decode cX9_renew 0 = .ok (.aload_n 0, 1) := fp_hdX9_renew_0.1.1.1.1.1
theorem dX9_renew_1 : decode cX9_renew 1 = .ok (.iload_n 1, 1) := fp_hdX9_renew_0.1.1.1.1.2
theorem dX9_renew_2 : decode cX9_renew 2 = .ok (.putfield 27, 3) := fp_hdX9_renew_0.1.1.1.2
theorem dX9_renew_5 : decode cX9_renew 5 = .ok (.aload_n 0, 1) := fp_hdX9_renew_0.1.1.2.1.1
theorem dX9_renew_6 : decode cX9_renew 6 = .ok (.iload_n 2, 1) := fp_hdX9_renew_0.1.1.2.1.2
theorem dX9_renew_7 : decode cX9_renew 7 = .ok (.putfield 9, 3) := fp_hdX9_renew_0.1.1.2.2
theorem dX9_renew_10 : decode cX9_renew 10 = .ok (.aload_n 0, 1) := fp_hdX9_renew_0.1.2.1.1.1
theorem dX9_renew_11 : decode cX9_renew 11 = .ok (.getfield 15, 3) := fp_hdX9_renew_0.1.2.1.1.2
theorem dX9_renew_14 : decode cX9_renew 14 = .ok (.iconst 0, 1) := fp_hdX9_renew_0.1.2.1.2
theorem dX9_renew_15 : decode cX9_renew 15 = .ok (.invokestatic 30, 3) := fp_hdX9_renew_0.1.2.2.1
theorem dX9_renew_18 : decode cX9_renew 18 = .ok (.return_, 1) := fp_hdX9_renew_0.1.2.2.2
def fp_scX9_write_0 : List Nat := 42 :: 180 :: 0 :: 27 :: 154 :: 0 :: 14 :: 42 :: 180 :: 0 :: 15 :: 27 :: 28 :: 145 :: 79 :: 167 :: 0 :: 29 :: 42 :: 180 :: 0 :: 27 :: 4 :: 160 :: 0 :: 14 :: 42 :: 180 :: 0 :: 15 :: 27 :: 28 :: 147 :: 79 :: 167 :: 0 :: 10 :: 42 :: 180 :: 0 :: 15 :: 27 :: 28 :: 79 :: 177 :: []
theorem fp_bcX9_write : bA cX9_write 0 fp_scX9_write_0 := show cX9_write.data.toList.map UInt8.toNat = fp_scX9_write_0 from by decide +kernel
theorem fp_hdX9_write_0 : (((((decode cX9_write 0 = .ok (.aload_n 0, 1) ∧ decode cX9_write 1 = .ok (.getfield 27, 3)) ∧ (decode cX9_write 4 = .ok (.ifCond .ne 14, 3) ∧ decode cX9_write 7 = .ok (.aload_n 0, 1))) ∧ ((decode cX9_write 8 = .ok (.getfield 15, 3) ∧ decode cX9_write 11 = .ok (.iload_n 1, 1)) ∧ decode cX9_write 12 = .ok (.iload_n 2, 1))) ∧ (((decode cX9_write 13 = .ok (.i2b, 1) ∧ decode cX9_write 14 = .ok (.iastore, 1)) ∧ (decode cX9_write 15 = .ok (.goto 29, 3) ∧ decode cX9_write 18 = .ok (.aload_n 0, 1))) ∧ ((decode cX9_write 19 = .ok (.getfield 27, 3) ∧ decode cX9_write 22 = .ok (.iconst 1, 1)) ∧ decode cX9_write 23 = .ok (.if_icmp .ne 14, 3)))) ∧ ((((decode cX9_write 26 = .ok (.aload_n 0, 1) ∧ decode cX9_write 27 = .ok (.getfield 15, 3)) ∧ (decode cX9_write 30 = .ok (.iload_n 1, 1) ∧ decode cX9_write 31 = .ok (.iload_n 2, 1))) ∧ ((decode cX9_write 32 = .ok (.i2s, 1) ∧ decode cX9_write 33 = .ok (.iastore, 1)) ∧ decode cX9_write 34 = .ok (.goto 10, 3))) ∧ (((decode cX9_write 37 = .ok (.aload_n 0, 1) ∧ decode cX9_write 38 = .ok (.getfield 15, 3)) ∧ decode cX9_write 41 = .ok (.iload_n 1, 1)) ∧ ((decode cX9_write 42 = .ok (.iload_n 2, 1) ∧ decode cX9_write 43 = .ok (.iastore, 1)) ∧ decode cX9_write 44 = .ok (.return_, 1))))) ∧ bA cX9_write 45 [] :=
  have q0 := fp_o42 fp_bcX9_write
  have q1 := fp_o180 (v := 27) q0.2 rfl
  have q2 := fp_o154 (v := 14) q1.2 rfl
  have q3 := fp_o42 q2.2
  have q4 := fp_o180 (v := 15) q3.2 rfl
  have q5 := fp_o27 q4.2
  have q6 := fp_o28 q5.2
  have q7 := fp_o145 q6.2
  have q8 := fp_o79 q7.2
  have q9 := fp_o167 (v := 29) q8.2 rfl
  have q10 := fp_o42 q9.2
  have q11 := fp_o180 (v := 27) q10.2 rfl
  have q12 := fp_o4 q11.2
  have q13 := fp_o160 (v := 14) q12.2 rfl
  have q14 := fp_o42 q13.2
  have q15 := fp_o180 (v := 15) q14.2 rfl
  have q16 := fp_o27 q15.2
  have q17 := fp_o28 q16.2
  have q18 := fp_o147 q17.2
  have q19 := fp_o79 q18.2
  have q20 := fp_o167 (v := 10) q19.2 rfl
  have q21 := fp_o42 q20.2
  have q22 := fp_o180 (v := 15) q21.2 rfl
  have q23 := fp_o27 q22.2
  have q24 := fp_o28 q23.2
  have q25 := fp_o79 q24.2
  have q26 := fp_o177 q25.2
  ⟨⟨⟨⟨⟨⟨q0.1, q1.1⟩, ⟨q2.1, q3.1⟩⟩, ⟨⟨q4.1, q5.1⟩, q6.1⟩⟩, ⟨⟨⟨q7.1, q8.1⟩, ⟨q9.1, q10.1⟩⟩, ⟨⟨q11.1, q12.1⟩, q13.1⟩⟩⟩, ⟨⟨⟨⟨q14.1, q15.1⟩, ⟨q16.1, q17.1⟩⟩, ⟨⟨q18.1, q19.1⟩, q20.1⟩⟩, ⟨⟨⟨q21.1, q22.1⟩, q23.1⟩, ⟨⟨q24.1, q25.1⟩, q26.1⟩⟩⟩⟩, q26.2⟩
theorem dX9_write_0 : decode cX9_write 0 = .ok (.aload_n 0, 1) := fp_hdX9_write_0.1.1.1.1.1.1
theorem dX9_write_1 : decode cX9_write 1 = .ok (.getfield 27, 3) := fp_hdX9_write_0.1.1.1.1.1.2
theorem dX9_write_4 : decode cX9_write 4 = .ok (.ifCond .ne 14, 3) := fp_hdX9_write_0.1.1.1.1.2.1
theorem dX9_write_7 : decode cX9_write 7 = .ok (.aload_n 0, 1) := fp_hdX9_write_0.1.1.1.1.2.2
theorem dX9_write_8 : decode cX9_write 8 = .ok (.getfield 15, 3) := fp_hdX9_write_0.1.1.1.2.1.1
theorem dX9_write_11 : decode cX9_write 11 = .ok (.iload_n 1, 1) := fp_hdX9_write_0.1.1.1.2.1.2
theorem dX9_write_12 : decode cX9_write 12 = .ok (.iload_n 2, 1) := fp_hdX9_write_0.1.1.1.2.2
theorem dX9_write_13 : decode cX9_write 13 = .ok (.i2b, 1) := fp_hdX9_write_0.1.1.2.1.1.1
theorem dX9_write_14 : decode cX9_write 14 = .ok (.iastore, 1) := fp_hdX9_write_0.1.1.2.1.1.2
theorem dX9_write_15 : decode cX9_write 15 = .ok (.goto 29, 3) := fp_hdX9_write_0.1.1.2.1.2.1
theorem dX9_write_18 : decode cX9_write 18 = .ok (.aload_n 0, 1) := fp_hdX9_write_0.1.1.2.1.2.2
theorem dX9_write_19 : decode cX9_write 19 = .ok (.getfield 27, 3) := fp_hdX9_write_0.1.1.2.2.1.1
theorem dX9_write_22 : decode cX9_write 22 = .ok (.iconst 1, 1) := fp_hdX9_write_0.1.1.2.2.1.2
theorem dX9_write_23 : decode cX9_write 23 = .ok (.if_icmp .ne 14, 3) := fp_hdX9_write_0.1.1.2.2.2
theorem dX9_write_26 : decode cX9_write 26 = .ok (.aload_n 0, 1) := fp_hdX9_write_0.1.2.1.1.1.1
theorem dX9_write_27 : decode cX9_write 27 = .ok (.getfield 15, 3) := fp_hdX9_write_0.1.2.1.1.1.2
theorem dX9_write_30 : decode cX9_write 30 = .ok (.iload_n 1, 1) := fp_hdX9_write_0.1.2.1.1.2.1
theorem dX9_write_31 : decode cX9_write 31 = .ok (.iload_n 2, 1) := fp_hdX9_write_0.1.2.1.1.2.2
theorem dX9_write_32 : decode cX9_write 32 = .ok (.i2s, 1) := fp_hdX9_write_0.1.2.1.2.1.1
theorem dX9_write_33 : decode cX9_write 33 = .ok (.iastore, 1) := fp_hdX9_write_0.1.2.1.2.1.2
theorem dX9_write_34 : decode cX9_write 34 = .ok (.goto 10, 3) := fp_hdX9_write_0.1.2.1.2.2
theorem dX9_write_37 : decode cX9_write 37 = .ok (.aload_n 0, 1) := fp_hdX9_write_0.1.2.2.1.1.1
theorem dX9_write_38 : decode cX9_write 38 = .ok (.getfield 15, 3) := fp_hdX9_write_0.1.2.2.1.1.2
theorem dX9_write_41 : decode cX9_write 41 = .ok (.iload_n 1, 1) := fp_hdX9_write_0.1.2.2.1.2
theorem dX9_write_42 : decode cX9_write 42 = .ok (.iload_n 2, 1) := fp_hdX9_write_0.1.2.2.2.1.1
theorem dX9_write_43 : decode cX9_write 43 = .ok (.iastore, 1) := fp_hdX9_write_0.1.2.2.2.1.2
theorem dX9_write_44 : decode cX9_write 44 = .ok (.return_, 1) := fp_hdX9_write_0.1.2.2.2.2
def fp_scX10_init_0 : List Nat := 42 :: 183 :: 0 :: 3 :: 42 :: 16 :: 12 :: 188 :: 10 :: 181 :: 0 :: 9 :: 42 :: 16 :: 12 :: 188 :: 10 :: 181 :: 0 :: 15 :: 42 :: 16 :: 12 :: 188 :: 10 :: 181 :: 0 :: 18 :: 42 :: 16 :: 12 :: 188 :: 10 :: 181 :: 0 :: 21 :: 177 :: []
theorem fp_bcX10_init : bA cX10_init 0 fp_scX10_init_0 := show cX10_init.data.toList.map UInt8.toNat = fp_scX10_init_0 from by decide +kernel
theorem fp_hdX10_init_0 : (((((decode cX10_init 0 = .ok (.aload_n 0, 1) ∧ decode cX10_init 1 = .ok (.invokespecial 3, 3)) ∧ decode cX10_init 4 = .ok (.aload_n 0, 1)) ∧ (decode cX10_init 5 = .ok (.bipush 12, 2) ∧ decode cX10_init 7 = .ok (.newarray .int, 2))) ∧ (((decode cX10_init 9 = .ok (.putfield 9, 3) ∧ decode cX10_init 12 = .ok (.aload_n 0, 1)) ∧ decode cX10_init 13 = .ok (.bipush 12, 2)) ∧ (decode cX10_init 15 = .ok (.newarray .int, 2) ∧ decode cX10_init 17 = .ok (.putfield 15, 3)))) ∧ ((((decode cX10_init 20 = .ok (.aload_n 0, 1) ∧ decode cX10_init 21 = .ok (.bipush 12, 2)) ∧ decode cX10_init 23 = .ok (.newarray .int, 2)) ∧ (decode cX10_init 25 = .ok (.putfield 18, 3) ∧ decode cX10_init 28 = .ok (.aload_n 0, 1))) ∧ ((decode cX10_init 29 = .ok (.bipush 12, 2) ∧ decode cX10_init 31 = .ok (.newarray .int, 2)) ∧ (decode cX10_init 33 = .ok (.putfield 21, 3) ∧ decode cX10_init 36 = .ok (.return_, 1))))) ∧ bA cX10_init 37 [] :=
  have q0 := fp_o42 fp_bcX10_init
  have q1 := fp_o183 (v := 3) q0.2 rfl
  have q2 := fp_o42 q1.2
  have q3 := fp_o16 (v := 12) q2.2 rfl
  have q4 := fp_o188_10 q3.2
  have q5 := fp_o181 (v := 9) q4.2 rfl
  have q6 := fp_o42 q5.2
  have q7 := fp_o16 (v := 12) q6.2 rfl
  have q8 := fp_o188_10 q7.2
  have q9 := fp_o181 (v := 15) q8.2 rfl
  have q10 := fp_o42 q9.2
  have q11 := fp_o16 (v := 12) q10.2 rfl
  have q12 := fp_o188_10 q11.2
  have q13 := fp_o181 (v := 18) q12.2 rfl
  have q14 := fp_o42 q13.2
  have q15 := fp_o16 (v := 12) q14.2 rfl
  have q16 := fp_o188_10 q15.2
  have q17 := fp_o181 (v := 21) q16.2 rfl
  have q18 := fp_o177 q17.2
  ⟨⟨⟨⟨⟨⟨q0.1, q1.1⟩, q2.1⟩, ⟨q3.1, q4.1⟩⟩, ⟨⟨⟨q5.1, q6.1⟩, q7.1⟩, ⟨q8.1, q9.1⟩⟩⟩, ⟨⟨⟨⟨q10.1, q11.1⟩, q12.1⟩, ⟨q13.1, q14.1⟩⟩, ⟨⟨q15.1, q16.1⟩, ⟨q17.1, q18.1⟩⟩⟩⟩, q18.2⟩
theorem dX10_init_0 : decode cX10_init 0 = .ok (.aload_n 0, 1) := fp_hdX10_init_0.1.1.1.1.1.1
theorem dX10_init_1 : decode cX10_init 1 = .ok (.invokespecial 3, 3) := fp_hdX10_init_0.1.1.1.1.1.2
theorem dX10_init_4 : decode cX10_init 4 = .ok (.aload_n 0, 1) := fp_hdX10_init_0.1.1.1.1.2
theorem dX10_init_5 : decode cX10_init 5 = .ok (.bipush 12, 2) := fp_hdX10_init_0.1.1.1.2.1
theorem dX10_init_7 : decode cX10_init 7 = .ok (.newarray .int, 2) := fp_hdX10_init_0.1.1.1.2.2
theorem dX10_init_9 : decode cX10_init 9 = .ok (.putfield 9, 3) := fp_hdX10_init_0.1.1.2.1.1.1
theorem dX10_init_12 : decode cX10_init 12 = .ok (.aload_n 0, 1) := fp_hdX10_init_0.1.1.2.1.1.2
theorem dX10_init_13 : decode cX10_init 13 = .ok (.bipush 12, 2) := fp_hdX10_init_0.1.1.2.1.2
theorem dX10_init_15 : decode cX10_init 15 = .ok (.newarray .int, 2) := fp_hdX10_init_0.1.1.2.2.1
theorem dX10_init_17 : decode cX10_init 17 = .ok (.putfield 15, 3) := fp_hdX10_init_0.1.1.2.2.2
theorem dX10_init_20 : decode cX10_init 20 = .ok (.aload_n 0, 1) := fp_hdX10_init_0.1.2.1.1.1.1
theorem dX10_init_21 : decode cX10_init 21 = .ok (.bipush 12, 2) := fp_hdX10_init_0.1.2.1.1.1.2
theorem dX10_init_23 : decode cX10_init 23 = .ok (.newarray .int, 2) := fp_hdX10_init_0.1.2.1.1.2
theorem dX10_init_25 : decode cX10_init 25 = .ok (.putfield 18, 3) := fp_hdX10_init_0.1.2.1.2.1
theorem dX10_init_28 : decode cX10_init 28 = .ok (.aload_n 0, 1) := fp_hdX10_init_0.1.2.1.2.2
theorem dX10_init_29 : decode cX10_init 29 = .ok (.bipush 12, 2) := fp_hdX10_init_0.1.2.2.1.1
theorem dX10_init_31 : decode cX10_init 31 = .ok (.newarray .int, 2) := fp_hdX10_init_0.1.2.2.1.2
theorem dX10_init_33 : decode cX10_init 33 = .ok (.putfield 21, 3) := fp_hdX10_init_0.1.2.2.2.1
theorem dX10_init_36 : decode cX10_init 36 = .ok (.return_, 1) := fp_hdX10_init_0.1.2.2.2.2
def fp_scX10_copyFrom_1 : List Nat := 190 :: 184 :: 0 :: 28 :: 43 :: 180 :: 0 :: 21 :: 3 :: 42 :: 180 :: 0 :: 21 :: 3 :: 42 :: 180 :: 0 :: 21 :: 190 :: 184 :: 0 :: 28 :: 177 :: []
def fp_scX10_copyFrom_0 : List Nat := 42 :: 43 :: 180 :: 0 :: 24 :: 181 :: 0 :: 24 :: 43 :: 180 :: 0 :: 9 :: 3 :: 42 :: 180 :: 0 :: 9 :: 3 :: 42 :: 180 :: 0 :: 9 :: 190 :: 184 :: 0 :: 28 :: 43 :: 180 :: 0 :: 15 :: 3 :: 42 :: 180 :: 0 :: 15 :: 3 :: 42 :: 180 :: 0 :: 15 :: 190 :: 184 :: 0 :: 28 :: 43 :: 180 :: 0 :: 18 :: 3 :: 42 :: 180 :: 0 :: 18 :: 3 :: 42 :: 180 :: 0 :: 18 :: fp_scX10_copyFrom_1
theorem fp_bcX10_copyFrom : bA cX10_copyFrom 0 fp_scX10_copyFrom_0 := show cX10_copyFrom.data.toList.map UInt8.toNat = fp_scX10_copyFrom_0 from by decide +kernel
theorem fp_hdX10_copyFrom_0 : (((((decode cX10_copyFrom 0 = .ok (.aload_n 0, 1) ∧ decode cX10_copyFrom 1 = .ok (.aload_n 1, 1)) ∧ (decode cX10_copyFrom 2 = .ok (.getfield 24, 3) ∧ decode cX10_copyFrom 5 = .ok (.putfield 24, 3))) ∧ ((decode cX10_copyFrom 8 = .ok (.aload_n 1, 1) ∧ decode cX10_copyFrom 9 = .ok (.getfield 9, 3)) ∧ (decode cX10_copyFrom 12 = .ok (.iconst 0, 1) ∧ decode cX10_copyFrom 13 = .ok (.aload_n 0, 1)))) ∧ (((decode cX10_copyFrom 14 = .ok (.getfield 9, 3) ∧ decode cX10_copyFrom 17 = .ok (.iconst 0, 1)) ∧ (decode cX10_copyFrom 18 = .ok (.aload_n 0, 1) ∧ decode cX10_copyFrom 19 = .ok (.getfield 9, 3))) ∧ ((decode cX10_copyFrom 22 = .ok (.arraylength, 1) ∧ decode cX10_copyFrom 23 = .ok (.invokestatic 28, 3)) ∧ (decode cX10_copyFrom 26 = .ok (.aload_n 1, 1) ∧ decode cX10_copyFrom 27 = .ok (.getfield 15, 3))))) ∧ ((((decode cX10_copyFrom 30 = .ok (.iconst 0, 1) ∧ decode cX10_copyFrom 31 = .ok (.aload_n 0, 1)) ∧ (decode cX10_copyFrom 32 = .ok (.getfield 15, 3) ∧ decode cX10_copyFrom 35 = .ok (.iconst 0, 1))) ∧ ((decode cX10_copyFrom 36 = .ok (.aload_n 0, 1) ∧ decode cX10_copyFrom 37 = .ok (.getfield 15, 3)) ∧ (decode cX10_copyFrom 40 = .ok (.arraylength, 1) ∧ decode cX10_copyFrom 41 = .ok (.invokestatic 28, 3)))) ∧ (((decode cX10_copyFrom 44 = .ok (.aload_n 1, 1) ∧ decode cX10_copyFrom 45 = .ok (.getfield 18, 3)) ∧ (decode cX10_copyFrom 48 = .ok (.iconst 0, 1) ∧ decode cX10_copyFrom 49 = .ok (.aload_n 0, 1))) ∧ ((decode cX10_copyFrom 50 = .ok (.getfield 18, 3) ∧ decode cX10_copyFrom 53 = .ok (.iconst 0, 1)) ∧ (decode cX10_copyFrom 54 = .ok (.aload_n 0, 1) ∧ decode cX10_copyFrom 55 = .ok (.getfield 18, 3)))))) ∧ bA cX10_copyFrom 58 fp_scX10_copyFrom_1 :=
  have q0 := fp_o42 fp_bcX10_copyFrom
  have q1 := fp_o43 q0.2
  have q2 := fp_o180 (v := 24) q1.2 rfl
  have q3 := fp_o181 (v := 24) q2.2 rfl
  have q4 := fp_o43 q3.2
  have q5 := fp_o180 (v := 9) q4.2 rfl
  have q6 := fp_o3 q5.2
  have q7 := fp_o42 q6.2
  have q8 := fp_o180 (v := 9) q7.2 rfl
  have q9 := fp_o3 q8.2
  have q10 := fp_o42 q9.2
  have q11 := fp_o180 (v := 9) q10.2 rfl
  have q12 := fp_o190 q11.2
  have q13 := fp_o184 (v := 28) q12.2 rfl
  have q14 := fp_o43 q13.2
  have q15 := fp_o180 (v := 15) q14.2 rfl
  have q16 := fp_o3 q15.2
  have q17 := fp_o42 q16.2
  have q18 := fp_o180 (v := 15) q17.2 rfl
  have q19 := fp_o3 q18.2
  have q20 := fp_o42 q19.2
  have q21 := fp_o180 (v := 15) q20.2 rfl
  have q22 := fp_o190 q21.2
  have q23 := fp_o184 (v := 28) q22.2 rfl
  have q24 := fp_o43 q23.2
  have q25 := fp_o180 (v := 18) q24.2 rfl
  have q26 := fp_o3 q25.2
  have q27 := fp_o42 q26.2
  have q28 := fp_o180 (v := 18) q27.2 rfl
  have q29 := fp_o3 q28.2
  have q30 := fp_o42 q29.2
  have q31 := fp_o180 (v := 18) q30.2 rfl
  ⟨⟨⟨⟨⟨⟨q0.1, q1.1⟩, ⟨q2.1, q3.1⟩⟩, ⟨⟨q4.1, q5.1⟩, ⟨q6.1, q7.1⟩⟩⟩, ⟨⟨⟨q8.1, q9.1⟩, ⟨q10.1, q11.1⟩⟩, ⟨⟨q12.1, q13.1⟩, ⟨q14.1, q15.1⟩⟩⟩⟩, ⟨⟨⟨⟨q16.1, q17.1⟩, ⟨q18.1, q19.1⟩⟩, ⟨⟨q20.1, q21.1⟩, ⟨q22.1, q23.1⟩⟩⟩, ⟨⟨⟨q24.1, q25.1⟩, ⟨q26.1, q27.1⟩⟩, ⟨⟨q28.1, q29.1⟩, ⟨q30.1, q31.1⟩⟩⟩⟩⟩, q31.2⟩
theorem dX10_copyFrom_0 : decode cX10_copyFrom 0 = .ok (.aload_n 0, 1) := fp_hdX10_copyFrom_0.1.1.1.1.1.1
theorem dX10_copyFrom_1 : decode cX10_copyFrom 1 = .ok (.aload_n 1, 1) := fp_hdX10_copyFrom_0.1.1.1.1.1.2
theorem dX10_copyFrom_2 : decode cX10_copyFrom 2 = .ok (.getfield 24, 3) := fp_hdX10_copyFrom_0.1.1.1.1.2.1
theorem dX10_copyFrom_5 : decode cX10_copyFrom 5 = .ok (.putfield 24, 3) := fp_hdX10_copyFrom_0.1.1.1.1.2.2
theorem dX10_copyFrom_8 : decode cX10_copyFrom 8 = .ok (.aload_n 1, 1) := fp_hdX10_copyFrom_0.1.1.1.2.1.1
theorem dX10_copyFrom_9 : decode cX10_copyFrom 9 = .ok (.getfield 9, 3) := fp_hdX10_copyFrom_0.1.1.1.2.1.2
theorem dX10_copyFrom_12 : decode cX10_copyFrom 12 = .ok (.iconst 0, 1) := fp_hdX10_copyFrom_0.1.1.1.2.2.1
theorem dX10_copyFrom_13 : decode cX10_copyFrom 13 = .ok (.aload_n 0, 1) := fp_hdX10_copyFrom_0.1.1.1.2.2.2
theorem dX10_copyFrom_14 : decode cX10_copyFrom 14 = .ok (.getfield 9, 3) := fp_hdX10_copyFrom_0.1.1.2.1.1.1
theorem dX10_copyFrom_17 : decode cX10_copyFrom 17 = .ok (.iconst 0, 1) := fp_hdX10_copyFrom_0.1.1.2.1.1.2
theorem dX10_copyFrom_18 : decode cX10_copyFrom 18 = .ok (.aload_n 0, 1) := fp_hdX10_copyFrom_0.1.1.2.1.2.1
theorem dX10_copyFrom_19 : decode cX10_copyFrom 19 = .ok (.getfield 9, 3) := fp_hdX10_copyFrom_0.1.1.2.1.2.2
theorem dX10_copyFrom_22 : decode cX10_copyFrom 22 = .ok (.arraylength, 1) := fp_hdX10_copyFrom_0.1.1.2.2.1.1
theorem dX10_copyFrom_23 : decode cX10_copyFrom 23 = .ok (.invokestatic 28, 3) := fp_hdX10_copyFrom_0.1.1.2.2.1.2
theorem dX10_copyFrom_26 : decode cX10_copyFrom 26 = .ok (.aload_n 1, 1) := fp_hdX10_copyFrom_0.1.1.2.2.2.1
theorem dX10_copyFrom_27 : decode cX10_copyFrom 27 = .ok (.getfield 15, 3) := fp_hdX10_copyFrom_0.1.1.2.2.2.2
theorem dX10_copyFrom_30 : decode cX10_copyFrom 30 = .ok (.iconst 0, 1) := fp_hdX10_copyFrom_0.1.2.1.1.1.1
theorem dX10_copyFrom_31 : decode cX10_copyFrom 31 = .ok (.aload_n 0, 1) := fp_hdX10_copyFrom_0.1.2.1.1.1.2
theorem dX10_copyFrom_32 : decode cX10_copyFrom 32 = .ok (.getfield 15, 3) := fp_hdX10_copyFrom_0.1.2.1.1.2.1
theorem dX10_copyFrom_35 : decode cX10_copyFrom 35 = .ok (.iconst 0, 1) := fp_hdX10_copyFrom_0.1.2.1.1.2.2
theorem dX10_copyFrom_36 : decode cX10_copyFrom 36 = .ok (.aload_n 0, 1) := fp_hdX10_copyFrom_0.1.2.1.2.1.1
theorem dX10_copyFrom_37 : decode cX10_copyFrom 37 = .ok (.getfield 15, 3) := fp_hdX10_copyFrom_0.1.2.1.2.1.2
theorem dX10_copyFrom_40 : decode cX10_copyFrom 40 = .ok (.arraylength, 1) := fp_hdX10_copyFrom_0.1.2.1.2.2.1
theorem dX10_copyFrom_41 : decode cX10_copyFrom 41 = .ok (.invokestatic 28, 3) := fp_hdX10_copyFrom_0.1.2.1.2.2.2
theorem dX10_copyFrom_44 : decode cX10_copyFrom 44 = .ok (.aload_n 1, 1) := fp_hdX10_copyFrom_0.1.2.2.1.1.1
theorem dX10_copyFrom_45 : decode cX10_copyFrom 45 = .ok (.getfield 18, 3) := fp_hdX10_copyFrom_0.1.2.2.1.1.2
theorem dX10_copyFrom_48 : decode cX10_copyFrom 48 = .ok (.iconst 0, 1) := fp_hdX10_copyFrom_0.1.2.2.1.2.1
theorem dX10_copyFrom_49 : decode cX10_copyFrom 49 = .ok (.aload_n 0, 1) := fp_hdX10_copyFrom_0.1.2.2.1.2.2
theorem dX10_copyFrom_50 : decode cX10_copyFrom 50 = .ok (.getfield 18, 3) := fp_hdX10_copyFrom_0.1.2.2.2.1.1
theorem dX10_copyFrom_53 : decode cX10_copyFrom 53 = .ok (.iconst 0, 1) := fp_hdX10_copyFrom_0.1.2.2.2.1.2
theorem dX10_copyFrom_54 : decode cX10_copyFrom 54 = .ok (.aload_n 0, 1) := fp_hdX10_copyFrom_0.1.2.2.2.2.1
theorem dX10_copyFrom_55 : decode cX10_copyFrom 55 = .ok (.getfield 18, 3) := fp_hdX10_copyFrom_0.1.2.2.2.2.2
theorem fp_hdX10_copyFrom_58 : ((((decode cX10_copyFrom 58 = .ok (.arraylength, 1) ∧ decode cX10_copyFrom 59 = .ok (.invokestatic 28, 3)) ∧ (decode cX10_copyFrom 62 = .ok (.aload_n 1, 1) ∧ decode cX10_copyFrom 63 = .ok (.getfield 21, 3))) ∧ ((decode cX10_copyFrom 66 = .ok (.iconst 0, 1) ∧ decode cX10_copyFrom 67 = .ok (.aload_n 0, 1)) ∧ decode cX10_copyFrom 68 = .ok (.getfield 21, 3))) ∧ (((decode cX10_copyFrom 71 = .ok (.iconst 0, 1) ∧ decode cX10_copyFrom 72 = .ok (.aload_n 0, 1)) ∧ decode cX10_copyFrom 73 = .ok (.getfield 21, 3)) ∧ ((decode cX10_copyFrom 76 = .ok (.arraylength, 1) ∧ decode cX10_copyFrom 77 = .ok (.invokestatic 28, 3)) ∧ decode cX10_copyFrom 80 = .ok (.return_, 1)))) ∧ bA cX10_copyFrom 81 [] :=
  have q0 := fp_o190 fp_hdX10_copyFrom_0.2
  have q1 := fp_o184 (v := 28) q0.2 rfl
  have q2 := fp_o43 q1.2
  have q3 := fp_o180 (v := 21) q2.2 rfl
  have q4 := fp_o3 q3.2
  have q5 := fp_o42 q4.2
  have q6 := fp_o180 (v := 21) q5.2 rfl
  have q7 := fp_o3 q6.2
  have q8 := fp_o42 q7.2
  have q9 := fp_o180 (v := 21) q8.2 rfl
  have q10 := fp_o190 q9.2
  have q11 := fp_o184 (v := 28) q10.2 rfl
  have q12 := fp_o177 q11.2
  ⟨⟨⟨⟨⟨q0.1, q1.1⟩, ⟨q2.1, q3.1⟩⟩, ⟨⟨q4.1, q5.1⟩, q6.1⟩⟩, ⟨⟨⟨q7.1, q8.1⟩, q9.1⟩, ⟨⟨q10.1, q11.1⟩, q12.1⟩⟩⟩, q12.2⟩
theorem dX10_copyFrom_58 : decode cX10_copyFrom 58 = .ok (.arraylength, 1) := fp_hdX10_copyFrom_58.1.1.1.1.1
theorem dX10_copyFrom_59 : decode cX10_copyFrom 59 = .ok (.invokestatic 28, 3) := fp_hdX10_copyFrom_58.1.1.1.1.2
theorem dX10_copyFrom_62 : decode cX10_copyFrom 62 = .ok (.aload_n 1, 1) := fp_hdX10_copyFrom_58.1.1.1.2.1
theorem dX10_copyFrom_63 : decode cX10_copyFrom 63 = .ok (.getfield 21, 3) := fp_hdX10_copyFrom_58.1.1.1.2.2
theorem dX10_copyFrom_66 : decode cX10_copyFrom 66 = .ok (.iconst 0, 1) := fp_hdX10_copyFrom_58.1.1.2.1.1
theorem dX10_copyFrom_67 : decode cX10_copyFrom 67 = .ok (.aload_n 0, 1) := fp_hdX10_copyFrom_58.1.1.2.1.2
theorem dX10_copyFrom_68 : decode cX10_copyFrom 68 = .ok (.getfield 21, 3) := fp_hdX10_copyFrom_58.1.1.2.2
theorem dX10_copyFrom_71 : decode cX10_copyFrom 71 = .ok (.iconst 0, 1) := fp_hdX10_copyFrom_58.1.2.1.1.1
theorem dX10_copyFrom_72 : decode cX10_copyFrom 72 = .ok (.aload_n 0, 1) := fp_hdX10_copyFrom_58.1.2.1.1.2
theorem dX10_copyFrom_73 : decode cX10_copyFrom 73 = .ok (.getfield 21, 3) := fp_hdX10_copyFrom_58.1.2.1.2
theorem dX10_copyFrom_76 : decode cX10_copyFrom 76 = .ok (.arraylength, 1) := fp_hdX10_copyFrom_58.1.2.2.1.1
theorem dX10_copyFrom_77 : decode cX10_copyFrom 77 = .ok (.invokestatic 28, 3) := fp_hdX10_copyFrom_58.1.2.2.1.2
theorem dX10_copyFrom_80 : decode cX10_copyFrom 80 = .ok (.return_, 1) := fp_hdX10_copyFrom_58.1.2.2.2
def fp_scX10_has_0 : List Nat := 27 :: 155 :: 0 :: 15 :: 27 :: 42 :: 180 :: 0 :: 24 :: 162 :: 0 :: 7 :: 4 :: 167 :: 0 :: 4 :: 3 :: 172 :: []
theorem fp_bcX10_has : bA cX10_has 0 fp_scX10_has_0 := show cX10_has.data.toList.map UInt8.toNat = fp_scX10_has_0 from by decide +kernel
theorem fp_hdX10_has_0 : ((((decode cX10_has 0 = .ok (.iload_n 1, 1) ∧ decode cX10_has 1 = .ok (.ifCond .lt 15, 3)) ∧ decode cX10_has 4 = .ok (.iload_n 1, 1)) ∧ (decode cX10_has 5 = .ok (.aload_n 0, 1) ∧ decode cX10_has 6 = .ok (.getfield 24, 3))) ∧ (((decode cX10_has 9 = .ok (.if_icmp .ge 7, 3) ∧ decode cX10_has 12 = .ok (.iconst 1, 1)) ∧ decode cX10_has 13 = .ok (.goto 4, 3)) ∧ (decode cX10_has 16 = .ok (.iconst 0, 1) ∧ decode cX10_has 17 = .ok (.ireturn, 1)))) ∧ bA cX10_has 18 [] :=
  have q0 := fp_o27 fp_bcX10_has
  have q1 := fp_o155 (v := 15) q0.2 rfl
  have q2 := fp_o27 q1.2
  have q3 := fp_o42 q2.2
  have q4 := fp_o180 (v := 24) q3.2 rfl
  have q5 := fp_o162 (v := 7) q4.2 rfl
  have q6 := fp_o4 q5.2
  have q7 := fp_o167 (v := 4) q6.2 rfl
  have q8 := fp_o3 q7.2
  have q9 := fp_o172 q8.2
  ⟨⟨⟨⟨⟨q0.1, q1.1⟩, q2.1⟩, ⟨q3.1, q4.1⟩⟩, ⟨⟨⟨q5.1, q6.1⟩, q7.1⟩, ⟨q8.1, q9.1⟩⟩⟩, q9.2⟩
theorem dX10_has_0 : decode cX10_has 0 = .ok (.iload_n 1, 1) := fp_hdX10_has_0.1.1.1.1.1
theorem dX10_has_1 : decode cX10_has 1 = .ok (.ifCond .lt 15, 3) := fp_hdX10_has_0.1.1.1.1.2
theorem dX10_has_4 : decode cX10_has 4 = .ok (.iload_n 1, 1) := fp_hdX10_has_0.1.1.1.2
theorem dX10_has_5 : decode cX10_has 5 = .ok (.aload_n 0, 1) := fp_hdX10_has_0.1.1.2.1
theorem dX10_has_6 : decode cX10_has 6 = .ok (.getfield 24, 3) := fp_hdX10_has_0.1.1.2.2
theorem dX10_has_9 : decode cX10_has 9 = .ok (.if_icmp .ge 7, 3) := fp_hdX10_has_0.1.2.1.1.1
theorem dX10_has_12 : decode cX10_has 12 = .ok (.iconst 1, 1) := fp_hdX10_has_0.1.2.1.1.2
theorem dX10_has_13 : decode cX10_has 13 = .ok (.goto 4, 3) := fp_hdX10_has_0.1.2.1.2
theorem dX10_has_16 : decode cX10_has 16 = .ok (.iconst 0, 1) := fp_hdX10_has_0.1.2.2.1
theorem dX10_has_17 : decode cX10_has 17 = .ok (.ireturn, 1) := fp_hdX10_has_0.1.2.2.2
def fp_scX10_isDraw_0 : List Nat := 42 :: 180 :: 0 :: 21 :: 27 :: 46 :: 16 :: 252 :: 160 :: 0 :: 7 :: 4 :: 167 :: 0 :: 4 :: 3 :: 172 :: []
theorem fp_bcX10_isDraw : bA cX10_isDraw 0 fp_scX10_isDraw_0 := show cX10_isDraw.data.toList.map UInt8.toNat = fp_scX10_isDraw_0 from by decide +kernel
theorem fp_hdX10_isDraw_0 : ((((decode cX10_isDraw 0 = .ok (.aload_n 0, 1) ∧ decode cX10_isDraw 1 = .ok (.getfield 21, 3)) ∧ decode cX10_isDraw 4 = .ok (.iload_n 1, 1)) ∧ (decode cX10_isDraw 5 = .ok (.iaload, 1) ∧ decode cX10_isDraw 6 = .ok (.bipush (-4), 2))) ∧ (((decode cX10_isDraw 8 = .ok (.if_icmp .ne 7, 3) ∧ decode cX10_isDraw 11 = .ok (.iconst 1, 1)) ∧ decode cX10_isDraw 12 = .ok (.goto 4, 3)) ∧ (decode cX10_isDraw 15 = .ok (.iconst 0, 1) ∧ decode cX10_isDraw 16 = .ok (.ireturn, 1)))) ∧ bA cX10_isDraw 17 [] :=
  have q0 := fp_o42 fp_bcX10_isDraw
  have q1 := fp_o180 (v := 21) q0.2 rfl
  have q2 := fp_o27 q1.2
  have q3 := fp_o46 q2.2
  have q4 := fp_o16 (v := (-4)) q3.2 rfl
  have q5 := fp_o160 (v := 7) q4.2 rfl
  have q6 := fp_o4 q5.2
  have q7 := fp_o167 (v := 4) q6.2 rfl
  have q8 := fp_o3 q7.2
  have q9 := fp_o172 q8.2
  ⟨⟨⟨⟨⟨q0.1, q1.1⟩, q2.1⟩, ⟨q3.1, q4.1⟩⟩, ⟨⟨⟨q5.1, q6.1⟩, q7.1⟩, ⟨q8.1, q9.1⟩⟩⟩, q9.2⟩
theorem dX10_isDraw_0 : decode cX10_isDraw 0 = .ok (.aload_n 0, 1) := fp_hdX10_isDraw_0.1.1.1.1.1
theorem dX10_isDraw_1 : decode cX10_isDraw 1 = .ok (.getfield 21, 3) := fp_hdX10_isDraw_0.1.1.1.1.2
theorem dX10_isDraw_4 : decode cX10_isDraw 4 = .ok (.iload_n 1, 1) := fp_hdX10_isDraw_0.1.1.1.2
theorem dX10_isDraw_5 : decode cX10_isDraw 5 = .ok (.iaload, 1) := fp_hdX10_isDraw_0.1.1.2.1
theorem dX10_isDraw_6 : decode cX10_isDraw 6 = .ok (.bipush (-4), 2) := fp_hdX10_isDraw_0.1.1.2.2
theorem dX10_isDraw_8 : decode cX10_isDraw 8 = .ok (.if_icmp .ne 7, 3) := fp_hdX10_isDraw_0.1.2.1.1.1
theorem dX10_isDraw_11 : decode cX10_isDraw 11 = .ok (.iconst 1, 1) := fp_hdX10_isDraw_0.1.2.1.1.2
theorem dX10_isDraw_12 : decode cX10_isDraw 12 = .ok (.goto 4, 3) := fp_hdX10_isDraw_0.1.2.1.2
theorem dX10_isDraw_15 : decode cX10_isDraw 15 = .ok (.iconst 0, 1) := fp_hdX10_isDraw_0.1.2.2.1
theorem dX10_isDraw_16 : decode cX10_isDraw 16 = .ok (.ireturn, 1) := fp_hdX10_isDraw_0.1.2.2.2
def fp_scX10_isDrawOf_0 : List Nat := 42 :: 180 :: 0 :: 15 :: 28 :: 46 :: 27 :: 160 :: 0 :: 15 :: 42 :: 28 :: 182 :: 0 :: 34 :: 153 :: 0 :: 7 :: 4 :: 167 :: 0 :: 4 :: 3 :: 172 :: []
theorem fp_bcX10_isDrawOf : bA cX10_isDrawOf 0 fp_scX10_isDrawOf_0 := show cX10_isDrawOf.data.toList.map UInt8.toNat = fp_scX10_isDrawOf_0 from by decide +kernel
theorem fp_hdX10_isDrawOf_0 : ((((decode cX10_isDrawOf 0 = .ok (.aload_n 0, 1) ∧ decode cX10_isDrawOf 1 = .ok (.getfield 15, 3)) ∧ (decode cX10_isDrawOf 4 = .ok (.iload_n 2, 1) ∧ decode cX10_isDrawOf 5 = .ok (.iaload, 1))) ∧ ((decode cX10_isDrawOf 6 = .ok (.iload_n 1, 1) ∧ decode cX10_isDrawOf 7 = .ok (.if_icmp .ne 15, 3)) ∧ decode cX10_isDrawOf 10 = .ok (.aload_n 0, 1))) ∧ (((decode cX10_isDrawOf 11 = .ok (.iload_n 2, 1) ∧ decode cX10_isDrawOf 12 = .ok (.invokevirtual 34, 3)) ∧ (decode cX10_isDrawOf 15 = .ok (.ifCond .eq 7, 3) ∧ decode cX10_isDrawOf 18 = .ok (.iconst 1, 1))) ∧ ((decode cX10_isDrawOf 19 = .ok (.goto 4, 3) ∧ decode cX10_isDrawOf 22 = .ok (.iconst 0, 1)) ∧ decode cX10_isDrawOf 23 = .ok (.ireturn, 1)))) ∧ bA cX10_isDrawOf 24 [] :=
  have q0 := fp_o42 fp_bcX10_isDrawOf
  have q1 := fp_o180 (v := 15) q0.2 rfl
  have q2 := fp_o28 q1.2
  have q3 := fp_o46 q2.2
  have q4 := fp_o27 q3.2
  have q5 := fp_o160 (v := 15) q4.2 rfl
  have q6 := fp_o42 q5.2
  have q7 := fp_o28 q6.2
  have q8 := fp_o182 (v := 34) q7.2 rfl
  have q9 := fp_o153 (v := 7) q8.2 rfl
  have q10 := fp_o4 q9.2
  have q11 := fp_o167 (v := 4) q10.2 rfl
  have q12 := fp_o3 q11.2
  have q13 := fp_o172 q12.2
  ⟨⟨⟨⟨⟨q0.1, q1.1⟩, ⟨q2.1, q3.1⟩⟩, ⟨⟨q4.1, q5.1⟩, q6.1⟩⟩, ⟨⟨⟨q7.1, q8.1⟩, ⟨q9.1, q10.1⟩⟩, ⟨⟨q11.1, q12.1⟩, q13.1⟩⟩⟩, q13.2⟩
theorem dX10_isDrawOf_0 : decode cX10_isDrawOf 0 = .ok (.aload_n 0, 1) := fp_hdX10_isDrawOf_0.1.1.1.1.1
theorem dX10_isDrawOf_1 : decode cX10_isDrawOf 1 = .ok (.getfield 15, 3) := fp_hdX10_isDrawOf_0.1.1.1.1.2
theorem dX10_isDrawOf_4 : decode cX10_isDrawOf 4 = .ok (.iload_n 2, 1) := fp_hdX10_isDrawOf_0.1.1.1.2.1
theorem dX10_isDrawOf_5 : decode cX10_isDrawOf 5 = .ok (.iaload, 1) := fp_hdX10_isDrawOf_0.1.1.1.2.2
theorem dX10_isDrawOf_6 : decode cX10_isDrawOf 6 = .ok (.iload_n 1, 1) := fp_hdX10_isDrawOf_0.1.1.2.1.1
theorem dX10_isDrawOf_7 : decode cX10_isDrawOf 7 = .ok (.if_icmp .ne 15, 3) := fp_hdX10_isDrawOf_0.1.1.2.1.2
theorem dX10_isDrawOf_10 : decode cX10_isDrawOf 10 = .ok (.aload_n 0, 1) := fp_hdX10_isDrawOf_0.1.1.2.2
theorem dX10_isDrawOf_11 : decode cX10_isDrawOf 11 = .ok (.iload_n 2, 1) := fp_hdX10_isDrawOf_0.1.2.1.1.1
theorem dX10_isDrawOf_12 : decode cX10_isDrawOf 12 = .ok (.invokevirtual 34, 3) := fp_hdX10_isDrawOf_0.1.2.1.1.2
theorem dX10_isDrawOf_15 : decode cX10_isDrawOf 15 = .ok (.ifCond .eq 7, 3) := fp_hdX10_isDrawOf_0.1.2.1.2.1
theorem dX10_isDrawOf_18 : decode cX10_isDrawOf 18 = .ok (.iconst 1, 1) := fp_hdX10_isDrawOf_0.1.2.1.2.2
theorem dX10_isDrawOf_19 : decode cX10_isDrawOf 19 = .ok (.goto 4, 3) := fp_hdX10_isDrawOf_0.1.2.2.1.1
theorem dX10_isDrawOf_22 : decode cX10_isDrawOf 22 = .ok (.iconst 0, 1) := fp_hdX10_isDrawOf_0.1.2.2.1.2
theorem dX10_isDrawOf_23 : decode cX10_isDrawOf 23 = .ok (.ireturn, 1) := fp_hdX10_isDrawOf_0.1.2.2.2
def fp_scX10_drawsOf_0 : List Nat := 3 :: 61 :: 3 :: 62 :: 29 :: 42 :: 180 :: 0 :: 24 :: 162 :: 0 :: 21 :: 42 :: 27 :: 29 :: 182 :: 0 :: 38 :: 153 :: 0 :: 6 :: 132 :: 2 :: 1 :: 132 :: 3 :: 1 :: 167 :: 255 :: 233 :: 28 :: 172 :: []
theorem fp_bcX10_drawsOf : bA cX10_drawsOf 0 fp_scX10_drawsOf_0 := show cX10_drawsOf.data.toList.map UInt8.toNat = fp_scX10_drawsOf_0 from by decide +kernel
theorem fp_hdX10_drawsOf_0 : (((((decode cX10_drawsOf 0 = .ok (.iconst 0, 1) ∧ decode cX10_drawsOf 1 = .ok (.istore_n 2, 1)) ∧ decode cX10_drawsOf 2 = .ok (.iconst 0, 1)) ∧ (decode cX10_drawsOf 3 = .ok (.istore_n 3, 1) ∧ decode cX10_drawsOf 4 = .ok (.iload_n 3, 1))) ∧ ((decode cX10_drawsOf 5 = .ok (.aload_n 0, 1) ∧ decode cX10_drawsOf 6 = .ok (.getfield 24, 3)) ∧ (decode cX10_drawsOf 9 = .ok (.if_icmp .ge 21, 3) ∧ decode cX10_drawsOf 12 = .ok (.aload_n 0, 1)))) ∧ ((((decode cX10_drawsOf 13 = .ok (.iload_n 1, 1) ∧ decode cX10_drawsOf 14 = .ok (.iload_n 3, 1)) ∧ decode cX10_drawsOf 15 = .ok (.invokevirtual 38, 3)) ∧ (decode cX10_drawsOf 18 = .ok (.ifCond .eq 6, 3) ∧ decode cX10_drawsOf 21 = .ok (.iinc 2 1, 3))) ∧ ((decode cX10_drawsOf 24 = .ok (.iinc 3 1, 3) ∧ decode cX10_drawsOf 27 = .ok (.goto (-23), 3)) ∧ (decode cX10_drawsOf 30 = .ok (.iload_n 2, 1) ∧ decode cX10_drawsOf 31 = .ok (.ireturn, 1))))) ∧ bA cX10_drawsOf 32 [] :=
  have q0 := fp_o3 fp_bcX10_drawsOf
  have q1 := fp_o61 q0.2
  have q2 := fp_o3 q1.2
  have q3 := fp_o62 q2.2
  have q4 := fp_o29 q3.2
  have q5 := fp_o42 q4.2
  have q6 := fp_o180 (v := 24) q5.2 rfl
  have q7 := fp_o162 (v := 21) q6.2 rfl
  have q8 := fp_o42 q7.2
  have q9 := fp_o27 q8.2
  have q10 := fp_o29 q9.2
  have q11 := fp_o182 (v := 38) q10.2 rfl
  have q12 := fp_o153 (v := 6) q11.2 rfl
  have q13 := fp_o132 (v := 1) q12.2 rfl
  have q14 := fp_o132 (v := 1) q13.2 rfl
  have q15 := fp_o167 (v := (-23)) q14.2 rfl
  have q16 := fp_o28 q15.2
  have q17 := fp_o172 q16.2
  ⟨⟨⟨⟨⟨⟨q0.1, q1.1⟩, q2.1⟩, ⟨q3.1, q4.1⟩⟩, ⟨⟨q5.1, q6.1⟩, ⟨q7.1, q8.1⟩⟩⟩, ⟨⟨⟨⟨q9.1, q10.1⟩, q11.1⟩, ⟨q12.1, q13.1⟩⟩, ⟨⟨q14.1, q15.1⟩, ⟨q16.1, q17.1⟩⟩⟩⟩, q17.2⟩
theorem dX10_drawsOf_0 : decode cX10_drawsOf 0 = .ok (.iconst 0, 1) := fp_hdX10_drawsOf_0.1.1.1.1.1.1
theorem dX10_drawsOf_1 : decode cX10_drawsOf 1 = .ok (.istore_n 2, 1) := fp_hdX10_drawsOf_0.1.1.1.1.1.2
theorem dX10_drawsOf_2 : decode cX10_drawsOf 2 = .ok (.iconst 0, 1) := fp_hdX10_drawsOf_0.1.1.1.1.2
theorem dX10_drawsOf_3 : decode cX10_drawsOf 3 = .ok (.istore_n 3, 1) := fp_hdX10_drawsOf_0.1.1.1.2.1
theorem dX10_drawsOf_4 : decode cX10_drawsOf 4 = .ok (.iload_n 3, 1) := fp_hdX10_drawsOf_0.1.1.1.2.2
theorem dX10_drawsOf_5 : decode cX10_drawsOf 5 = .ok (.aload_n 0, 1) := fp_hdX10_drawsOf_0.1.1.2.1.1
theorem dX10_drawsOf_6 : decode cX10_drawsOf 6 = .ok (.getfield 24, 3) := fp_hdX10_drawsOf_0.1.1.2.1.2
theorem dX10_drawsOf_9 : decode cX10_drawsOf 9 = .ok (.if_icmp .ge 21, 3) := fp_hdX10_drawsOf_0.1.1.2.2.1
theorem dX10_drawsOf_12 : decode cX10_drawsOf 12 = .ok (.aload_n 0, 1) := fp_hdX10_drawsOf_0.1.1.2.2.2
theorem dX10_drawsOf_13 : decode cX10_drawsOf 13 = .ok (.iload_n 1, 1) := fp_hdX10_drawsOf_0.1.2.1.1.1.1
theorem dX10_drawsOf_14 : decode cX10_drawsOf 14 = .ok (.iload_n 3, 1) := fp_hdX10_drawsOf_0.1.2.1.1.1.2
theorem dX10_drawsOf_15 : decode cX10_drawsOf 15 = .ok (.invokevirtual 38, 3) := fp_hdX10_drawsOf_0.1.2.1.1.2
theorem dX10_drawsOf_18 : decode cX10_drawsOf 18 = .ok (.ifCond .eq 6, 3) := fp_hdX10_drawsOf_0.1.2.1.2.1
theorem dX10_drawsOf_21 : decode cX10_drawsOf 21 = .ok (.iinc 2 1, 3) := fp_hdX10_drawsOf_0.1.2.1.2.2
theorem dX10_drawsOf_24 : decode cX10_drawsOf 24 = .ok (.iinc 3 1, 3) := fp_hdX10_drawsOf_0.1.2.2.1.1
theorem dX10_drawsOf_27 : decode cX10_drawsOf 27 = .ok (.goto (-23), 3) := fp_hdX10_drawsOf_0.1.2.2.1.2
theorem dX10_drawsOf_30 : decode cX10_drawsOf 30 = .ok (.iload_n 2, 1) := fp_hdX10_drawsOf_0.1.2.2.2.1
theorem dX10_drawsOf_31 : decode cX10_drawsOf 31 = .ok (.ireturn, 1) := fp_hdX10_drawsOf_0.1.2.2.2.2
def fp_scX10_lastDay_0 : List Nat := 42 :: 180 :: 0 :: 24 :: 154 :: 0 :: 7 :: 3 :: 167 :: 0 :: 14 :: 42 :: 180 :: 0 :: 9 :: 42 :: 180 :: 0 :: 24 :: 4 :: 100 :: 46 :: 172 :: []
theorem fp_bcX10_lastDay : bA cX10_lastDay 0 fp_scX10_lastDay_0 := show cX10_lastDay.data.toList.map UInt8.toNat = fp_scX10_lastDay_0 from by decide +kernel
theorem fp_hdX10_lastDay_0 : ((((decode cX10_lastDay 0 = .ok (.aload_n 0, 1) ∧ decode cX10_lastDay 1 = .ok (.getfield 24, 3)) ∧ (decode cX10_lastDay 4 = .ok (.ifCond .ne 7, 3) ∧ decode cX10_lastDay 7 = .ok (.iconst 0, 1))) ∧ ((decode cX10_lastDay 8 = .ok (.goto 14, 3) ∧ decode cX10_lastDay 11 = .ok (.aload_n 0, 1)) ∧ decode cX10_lastDay 12 = .ok (.getfield 9, 3))) ∧ (((decode cX10_lastDay 15 = .ok (.aload_n 0, 1) ∧ decode cX10_lastDay 16 = .ok (.getfield 24, 3)) ∧ decode cX10_lastDay 19 = .ok (.iconst 1, 1)) ∧ ((decode cX10_lastDay 20 = .ok (.isub, 1) ∧ decode cX10_lastDay 21 = .ok (.iaload, 1)) ∧ decode cX10_lastDay 22 = .ok (.ireturn, 1)))) ∧ bA cX10_lastDay 23 [] :=
  have q0 := fp_o42 fp_bcX10_lastDay
  have q1 := fp_o180 (v := 24) q0.2 rfl
  have q2 := fp_o154 (v := 7) q1.2 rfl
  have q3 := fp_o3 q2.2
  have q4 := fp_o167 (v := 14) q3.2 rfl
  have q5 := fp_o42 q4.2
  have q6 := fp_o180 (v := 9) q5.2 rfl
  have q7 := fp_o42 q6.2
  have q8 := fp_o180 (v := 24) q7.2 rfl
  have q9 := fp_o4 q8.2
  have q10 := fp_o100 q9.2
  have q11 := fp_o46 q10.2
  have q12 := fp_o172 q11.2
  ⟨⟨⟨⟨⟨q0.1, q1.1⟩, ⟨q2.1, q3.1⟩⟩, ⟨⟨q4.1, q5.1⟩, q6.1⟩⟩, ⟨⟨⟨q7.1, q8.1⟩, q9.1⟩, ⟨⟨q10.1, q11.1⟩, q12.1⟩⟩⟩, q12.2⟩
theorem dX10_lastDay_0 : decode cX10_lastDay 0 = .ok (.aload_n 0, 1) := fp_hdX10_lastDay_0.1.1.1.1.1
theorem dX10_lastDay_1 : decode cX10_lastDay 1 = .ok (.getfield 24, 3) := fp_hdX10_lastDay_0.1.1.1.1.2
theorem dX10_lastDay_4 : decode cX10_lastDay 4 = .ok (.ifCond .ne 7, 3) := fp_hdX10_lastDay_0.1.1.1.2.1
theorem dX10_lastDay_7 : decode cX10_lastDay 7 = .ok (.iconst 0, 1) := fp_hdX10_lastDay_0.1.1.1.2.2
theorem dX10_lastDay_8 : decode cX10_lastDay 8 = .ok (.goto 14, 3) := fp_hdX10_lastDay_0.1.1.2.1.1
theorem dX10_lastDay_11 : decode cX10_lastDay 11 = .ok (.aload_n 0, 1) := fp_hdX10_lastDay_0.1.1.2.1.2
theorem dX10_lastDay_12 : decode cX10_lastDay 12 = .ok (.getfield 9, 3) := fp_hdX10_lastDay_0.1.1.2.2
theorem dX10_lastDay_15 : decode cX10_lastDay 15 = .ok (.aload_n 0, 1) := fp_hdX10_lastDay_0.1.2.1.1.1
theorem dX10_lastDay_16 : decode cX10_lastDay 16 = .ok (.getfield 24, 3) := fp_hdX10_lastDay_0.1.2.1.1.2
theorem dX10_lastDay_19 : decode cX10_lastDay 19 = .ok (.iconst 1, 1) := fp_hdX10_lastDay_0.1.2.1.2
theorem dX10_lastDay_20 : decode cX10_lastDay 20 = .ok (.isub, 1) := fp_hdX10_lastDay_0.1.2.2.1.1
theorem dX10_lastDay_21 : decode cX10_lastDay 21 = .ok (.iaload, 1) := fp_hdX10_lastDay_0.1.2.2.1.2
theorem dX10_lastDay_22 : decode cX10_lastDay 22 = .ok (.ireturn, 1) := fp_hdX10_lastDay_0.1.2.2.2
def fp_scX10_add_1 : List Nat := 180 :: 0 :: 24 :: 4 :: 96 :: 181 :: 0 :: 24 :: 4 :: 172 :: []
def fp_scX10_add_0 : List Nat := 42 :: 180 :: 0 :: 24 :: 16 :: 12 :: 161 :: 0 :: 5 :: 3 :: 172 :: 42 :: 180 :: 0 :: 9 :: 42 :: 180 :: 0 :: 24 :: 27 :: 79 :: 42 :: 180 :: 0 :: 15 :: 42 :: 180 :: 0 :: 24 :: 28 :: 79 :: 42 :: 180 :: 0 :: 18 :: 42 :: 180 :: 0 :: 24 :: 29 :: 79 :: 42 :: 180 :: 0 :: 21 :: 42 :: 180 :: 0 :: 24 :: 21 :: 4 :: 79 :: 42 :: 89 :: fp_scX10_add_1
theorem fp_bcX10_add : bA cX10_add 0 fp_scX10_add_0 := show cX10_add.data.toList.map UInt8.toNat = fp_scX10_add_0 from by decide +kernel
theorem fp_hdX10_add_0 : (((((decode cX10_add 0 = .ok (.aload_n 0, 1) ∧ decode cX10_add 1 = .ok (.getfield 24, 3)) ∧ (decode cX10_add 4 = .ok (.bipush 12, 2) ∧ decode cX10_add 6 = .ok (.if_icmp .lt 5, 3))) ∧ ((decode cX10_add 9 = .ok (.iconst 0, 1) ∧ decode cX10_add 10 = .ok (.ireturn, 1)) ∧ (decode cX10_add 11 = .ok (.aload_n 0, 1) ∧ decode cX10_add 12 = .ok (.getfield 9, 3)))) ∧ (((decode cX10_add 15 = .ok (.aload_n 0, 1) ∧ decode cX10_add 16 = .ok (.getfield 24, 3)) ∧ (decode cX10_add 19 = .ok (.iload_n 1, 1) ∧ decode cX10_add 20 = .ok (.iastore, 1))) ∧ ((decode cX10_add 21 = .ok (.aload_n 0, 1) ∧ decode cX10_add 22 = .ok (.getfield 15, 3)) ∧ (decode cX10_add 25 = .ok (.aload_n 0, 1) ∧ decode cX10_add 26 = .ok (.getfield 24, 3))))) ∧ ((((decode cX10_add 29 = .ok (.iload_n 2, 1) ∧ decode cX10_add 30 = .ok (.iastore, 1)) ∧ (decode cX10_add 31 = .ok (.aload_n 0, 1) ∧ decode cX10_add 32 = .ok (.getfield 18, 3))) ∧ ((decode cX10_add 35 = .ok (.aload_n 0, 1) ∧ decode cX10_add 36 = .ok (.getfield 24, 3)) ∧ (decode cX10_add 39 = .ok (.iload_n 3, 1) ∧ decode cX10_add 40 = .ok (.iastore, 1)))) ∧ (((decode cX10_add 41 = .ok (.aload_n 0, 1) ∧ decode cX10_add 42 = .ok (.getfield 21, 3)) ∧ (decode cX10_add 45 = .ok (.aload_n 0, 1) ∧ decode cX10_add 46 = .ok (.getfield 24, 3))) ∧ ((decode cX10_add 49 = .ok (.iload 4, 2) ∧ decode cX10_add 51 = .ok (.iastore, 1)) ∧ (decode cX10_add 52 = .ok (.aload_n 0, 1) ∧ decode cX10_add 53 = .ok (.dup, 1)))))) ∧ bA cX10_add 54 fp_scX10_add_1 :=
  have q0 := fp_o42 fp_bcX10_add
  have q1 := fp_o180 (v := 24) q0.2 rfl
  have q2 := fp_o16 (v := 12) q1.2 rfl
  have q3 := fp_o161 (v := 5) q2.2 rfl
  have q4 := fp_o3 q3.2
  have q5 := fp_o172 q4.2
  have q6 := fp_o42 q5.2
  have q7 := fp_o180 (v := 9) q6.2 rfl
  have q8 := fp_o42 q7.2
  have q9 := fp_o180 (v := 24) q8.2 rfl
  have q10 := fp_o27 q9.2
  have q11 := fp_o79 q10.2
  have q12 := fp_o42 q11.2
  have q13 := fp_o180 (v := 15) q12.2 rfl
  have q14 := fp_o42 q13.2
  have q15 := fp_o180 (v := 24) q14.2 rfl
  have q16 := fp_o28 q15.2
  have q17 := fp_o79 q16.2
  have q18 := fp_o42 q17.2
  have q19 := fp_o180 (v := 18) q18.2 rfl
  have q20 := fp_o42 q19.2
  have q21 := fp_o180 (v := 24) q20.2 rfl
  have q22 := fp_o29 q21.2
  have q23 := fp_o79 q22.2
  have q24 := fp_o42 q23.2
  have q25 := fp_o180 (v := 21) q24.2 rfl
  have q26 := fp_o42 q25.2
  have q27 := fp_o180 (v := 24) q26.2 rfl
  have q28 := fp_o21 q27.2
  have q29 := fp_o79 q28.2
  have q30 := fp_o42 q29.2
  have q31 := fp_o89 q30.2
  ⟨⟨⟨⟨⟨⟨q0.1, q1.1⟩, ⟨q2.1, q3.1⟩⟩, ⟨⟨q4.1, q5.1⟩, ⟨q6.1, q7.1⟩⟩⟩, ⟨⟨⟨q8.1, q9.1⟩, ⟨q10.1, q11.1⟩⟩, ⟨⟨q12.1, q13.1⟩, ⟨q14.1, q15.1⟩⟩⟩⟩, ⟨⟨⟨⟨q16.1, q17.1⟩, ⟨q18.1, q19.1⟩⟩, ⟨⟨q20.1, q21.1⟩, ⟨q22.1, q23.1⟩⟩⟩, ⟨⟨⟨q24.1, q25.1⟩, ⟨q26.1, q27.1⟩⟩, ⟨⟨q28.1, q29.1⟩, ⟨q30.1, q31.1⟩⟩⟩⟩⟩, q31.2⟩
theorem dX10_add_0 : decode cX10_add 0 = .ok (.aload_n 0, 1) := fp_hdX10_add_0.1.1.1.1.1.1
theorem dX10_add_1 : decode cX10_add 1 = .ok (.getfield 24, 3) := fp_hdX10_add_0.1.1.1.1.1.2
theorem dX10_add_4 : decode cX10_add 4 = .ok (.bipush 12, 2) := fp_hdX10_add_0.1.1.1.1.2.1
theorem dX10_add_6 : decode cX10_add 6 = .ok (.if_icmp .lt 5, 3) := fp_hdX10_add_0.1.1.1.1.2.2
theorem dX10_add_9 : decode cX10_add 9 = .ok (.iconst 0, 1) := fp_hdX10_add_0.1.1.1.2.1.1
theorem dX10_add_10 : decode cX10_add 10 = .ok (.ireturn, 1) := fp_hdX10_add_0.1.1.1.2.1.2
theorem dX10_add_11 : decode cX10_add 11 = .ok (.aload_n 0, 1) := fp_hdX10_add_0.1.1.1.2.2.1
theorem dX10_add_12 : decode cX10_add 12 = .ok (.getfield 9, 3) := fp_hdX10_add_0.1.1.1.2.2.2
theorem dX10_add_15 : decode cX10_add 15 = .ok (.aload_n 0, 1) := fp_hdX10_add_0.1.1.2.1.1.1
theorem dX10_add_16 : decode cX10_add 16 = .ok (.getfield 24, 3) := fp_hdX10_add_0.1.1.2.1.1.2
theorem dX10_add_19 : decode cX10_add 19 = .ok (.iload_n 1, 1) := fp_hdX10_add_0.1.1.2.1.2.1
theorem dX10_add_20 : decode cX10_add 20 = .ok (.iastore, 1) := fp_hdX10_add_0.1.1.2.1.2.2
theorem dX10_add_21 : decode cX10_add 21 = .ok (.aload_n 0, 1) := fp_hdX10_add_0.1.1.2.2.1.1
theorem dX10_add_22 : decode cX10_add 22 = .ok (.getfield 15, 3) := fp_hdX10_add_0.1.1.2.2.1.2
theorem dX10_add_25 : decode cX10_add 25 = .ok (.aload_n 0, 1) := fp_hdX10_add_0.1.1.2.2.2.1
theorem dX10_add_26 : decode cX10_add 26 = .ok (.getfield 24, 3) := fp_hdX10_add_0.1.1.2.2.2.2
theorem dX10_add_29 : decode cX10_add 29 = .ok (.iload_n 2, 1) := fp_hdX10_add_0.1.2.1.1.1.1
theorem dX10_add_30 : decode cX10_add 30 = .ok (.iastore, 1) := fp_hdX10_add_0.1.2.1.1.1.2
theorem dX10_add_31 : decode cX10_add 31 = .ok (.aload_n 0, 1) := fp_hdX10_add_0.1.2.1.1.2.1
theorem dX10_add_32 : decode cX10_add 32 = .ok (.getfield 18, 3) := fp_hdX10_add_0.1.2.1.1.2.2
theorem dX10_add_35 : decode cX10_add 35 = .ok (.aload_n 0, 1) := fp_hdX10_add_0.1.2.1.2.1.1
theorem dX10_add_36 : decode cX10_add 36 = .ok (.getfield 24, 3) := fp_hdX10_add_0.1.2.1.2.1.2
theorem dX10_add_39 : decode cX10_add 39 = .ok (.iload_n 3, 1) := fp_hdX10_add_0.1.2.1.2.2.1
theorem dX10_add_40 : decode cX10_add 40 = .ok (.iastore, 1) := fp_hdX10_add_0.1.2.1.2.2.2
theorem dX10_add_41 : decode cX10_add 41 = .ok (.aload_n 0, 1) := fp_hdX10_add_0.1.2.2.1.1.1
theorem dX10_add_42 : decode cX10_add 42 = .ok (.getfield 21, 3) := fp_hdX10_add_0.1.2.2.1.1.2
theorem dX10_add_45 : decode cX10_add 45 = .ok (.aload_n 0, 1) := fp_hdX10_add_0.1.2.2.1.2.1
theorem dX10_add_46 : decode cX10_add 46 = .ok (.getfield 24, 3) := fp_hdX10_add_0.1.2.2.1.2.2
theorem dX10_add_49 : decode cX10_add 49 = .ok (.iload 4, 2) := fp_hdX10_add_0.1.2.2.2.1.1
theorem dX10_add_51 : decode cX10_add 51 = .ok (.iastore, 1) := fp_hdX10_add_0.1.2.2.2.1.2
theorem dX10_add_52 : decode cX10_add 52 = .ok (.aload_n 0, 1) := fp_hdX10_add_0.1.2.2.2.2.1
theorem dX10_add_53 : decode cX10_add 53 = .ok (.dup, 1) := fp_hdX10_add_0.1.2.2.2.2.2
theorem fp_hdX10_add_54 : (((decode cX10_add 54 = .ok (.getfield 24, 3) ∧ decode cX10_add 57 = .ok (.iconst 1, 1)) ∧ decode cX10_add 58 = .ok (.iadd, 1)) ∧ ((decode cX10_add 59 = .ok (.putfield 24, 3) ∧ decode cX10_add 62 = .ok (.iconst 1, 1)) ∧ decode cX10_add 63 = .ok (.ireturn, 1))) ∧ bA cX10_add 64 [] :=
  have q0 := fp_o180 (v := 24) fp_hdX10_add_0.2 rfl
  have q1 := fp_o4 q0.2
  have q2 := fp_o96 q1.2
  have q3 := fp_o181 (v := 24) q2.2 rfl
  have q4 := fp_o4 q3.2
  have q5 := fp_o172 q4.2
  ⟨⟨⟨⟨q0.1, q1.1⟩, q2.1⟩, ⟨⟨q3.1, q4.1⟩, q5.1⟩⟩, q5.2⟩
theorem dX10_add_54 : decode cX10_add 54 = .ok (.getfield 24, 3) := fp_hdX10_add_54.1.1.1.1
theorem dX10_add_57 : decode cX10_add 57 = .ok (.iconst 1, 1) := fp_hdX10_add_54.1.1.1.2
theorem dX10_add_58 : decode cX10_add 58 = .ok (.iadd, 1) := fp_hdX10_add_54.1.1.2
theorem dX10_add_59 : decode cX10_add 59 = .ok (.putfield 24, 3) := fp_hdX10_add_54.1.2.1.1
theorem dX10_add_62 : decode cX10_add 62 = .ok (.iconst 1, 1) := fp_hdX10_add_54.1.2.1.2
theorem dX10_add_63 : decode cX10_add 63 = .ok (.ireturn, 1) := fp_hdX10_add_54.1.2.2
def fp_scX10_dropFirst_1 : List Nat := 180 :: 0 :: 18 :: 28 :: 46 :: 79 :: 42 :: 180 :: 0 :: 21 :: 28 :: 27 :: 100 :: 42 :: 180 :: 0 :: 21 :: 28 :: 46 :: 79 :: 132 :: 2 :: 1 :: 167 :: 255 :: 189 :: 42 :: 89 :: 180 :: 0 :: 24 :: 27 :: 100 :: 181 :: 0 :: 24 :: 177 :: []
def fp_scX10_dropFirst_0 : List Nat := 27 :: 61 :: 28 :: 42 :: 180 :: 0 :: 24 :: 162 :: 0 :: 65 :: 42 :: 180 :: 0 :: 9 :: 28 :: 27 :: 100 :: 42 :: 180 :: 0 :: 9 :: 28 :: 46 :: 79 :: 42 :: 180 :: 0 :: 15 :: 28 :: 27 :: 100 :: 42 :: 180 :: 0 :: 15 :: 28 :: 46 :: 79 :: 42 :: 180 :: 0 :: 18 :: 28 :: 27 :: 100 :: 42 :: fp_scX10_dropFirst_1
theorem fp_bcX10_dropFirst : bA cX10_dropFirst 0 fp_scX10_dropFirst_0 := show cX10_dropFirst.data.toList.map UInt8.toNat = fp_scX10_dropFirst_0 from by decide +kernel
theorem fp_hdX10_dropFirst_0 : (((((decode cX10_dropFirst 0 = .ok (.iload_n 1, 1) ∧ decode cX10_dropFirst 1 = .ok (.istore_n 2, 1)) ∧ (decode cX10_dropFirst 2 = .ok (.iload_n 2, 1) ∧ decode cX10_dropFirst 3 = .ok (.aload_n 0, 1))) ∧ ((decode cX10_dropFirst 4 = .ok (.getfield 24, 3) ∧ decode cX10_dropFirst 7 = .ok (.if_icmp .ge 65, 3)) ∧ (decode cX10_dropFirst 10 = .ok (.aload_n 0, 1) ∧ decode cX10_dropFirst 11 = .ok (.getfield 9, 3)))) ∧ (((decode cX10_dropFirst 14 = .ok (.iload_n 2, 1) ∧ decode cX10_dropFirst 15 = .ok (.iload_n 1, 1)) ∧ (decode cX10_dropFirst 16 = .ok (.isub, 1) ∧ decode cX10_dropFirst 17 = .ok (.aload_n 0, 1))) ∧ ((decode cX10_dropFirst 18 = .ok (.getfield 9, 3) ∧ decode cX10_dropFirst 21 = .ok (.iload_n 2, 1)) ∧ (decode cX10_dropFirst 22 = .ok (.iaload, 1) ∧ decode cX10_dropFirst 23 = .ok (.iastore, 1))))) ∧ ((((decode cX10_dropFirst 24 = .ok (.aload_n 0, 1) ∧ decode cX10_dropFirst 25 = .ok (.getfield 15, 3)) ∧ (decode cX10_dropFirst 28 = .ok (.iload_n 2, 1) ∧ decode cX10_dropFirst 29 = .ok (.iload_n 1, 1))) ∧ ((decode cX10_dropFirst 30 = .ok (.isub, 1) ∧ decode cX10_dropFirst 31 = .ok (.aload_n 0, 1)) ∧ (decode cX10_dropFirst 32 = .ok (.getfield 15, 3) ∧ decode cX10_dropFirst 35 = .ok (.iload_n 2, 1)))) ∧ (((decode cX10_dropFirst 36 = .ok (.iaload, 1) ∧ decode cX10_dropFirst 37 = .ok (.iastore, 1)) ∧ (decode cX10_dropFirst 38 = .ok (.aload_n 0, 1) ∧ decode cX10_dropFirst 39 = .ok (.getfield 18, 3))) ∧ ((decode cX10_dropFirst 42 = .ok (.iload_n 2, 1) ∧ decode cX10_dropFirst 43 = .ok (.iload_n 1, 1)) ∧ (decode cX10_dropFirst 44 = .ok (.isub, 1) ∧ decode cX10_dropFirst 45 = .ok (.aload_n 0, 1)))))) ∧ bA cX10_dropFirst 46 fp_scX10_dropFirst_1 :=
  have q0 := fp_o27 fp_bcX10_dropFirst
  have q1 := fp_o61 q0.2
  have q2 := fp_o28 q1.2
  have q3 := fp_o42 q2.2
  have q4 := fp_o180 (v := 24) q3.2 rfl
  have q5 := fp_o162 (v := 65) q4.2 rfl
  have q6 := fp_o42 q5.2
  have q7 := fp_o180 (v := 9) q6.2 rfl
  have q8 := fp_o28 q7.2
  have q9 := fp_o27 q8.2
  have q10 := fp_o100 q9.2
  have q11 := fp_o42 q10.2
  have q12 := fp_o180 (v := 9) q11.2 rfl
  have q13 := fp_o28 q12.2
  have q14 := fp_o46 q13.2
  have q15 := fp_o79 q14.2
  have q16 := fp_o42 q15.2
  have q17 := fp_o180 (v := 15) q16.2 rfl
  have q18 := fp_o28 q17.2
  have q19 := fp_o27 q18.2
  have q20 := fp_o100 q19.2
  have q21 := fp_o42 q20.2
  have q22 := fp_o180 (v := 15) q21.2 rfl
  have q23 := fp_o28 q22.2
  have q24 := fp_o46 q23.2
  have q25 := fp_o79 q24.2
  have q26 := fp_o42 q25.2
  have q27 := fp_o180 (v := 18) q26.2 rfl
  have q28 := fp_o28 q27.2
  have q29 := fp_o27 q28.2
  have q30 := fp_o100 q29.2
  have q31 := fp_o42 q30.2
  ⟨⟨⟨⟨⟨⟨q0.1, q1.1⟩, ⟨q2.1, q3.1⟩⟩, ⟨⟨q4.1, q5.1⟩, ⟨q6.1, q7.1⟩⟩⟩, ⟨⟨⟨q8.1, q9.1⟩, ⟨q10.1, q11.1⟩⟩, ⟨⟨q12.1, q13.1⟩, ⟨q14.1, q15.1⟩⟩⟩⟩, ⟨⟨⟨⟨q16.1, q17.1⟩, ⟨q18.1, q19.1⟩⟩, ⟨⟨q20.1, q21.1⟩, ⟨q22.1, q23.1⟩⟩⟩, ⟨⟨⟨q24.1, q25.1⟩, ⟨q26.1, q27.1⟩⟩, ⟨⟨q28.1, q29.1⟩, ⟨q30.1, q31.1⟩⟩⟩⟩⟩, q31.2⟩
theorem dX10_dropFirst_0 : decode cX10_dropFirst 0 = .ok (.iload_n 1, 1) := fp_hdX10_dropFirst_0.1.1.1.1.1.1
theorem dX10_dropFirst_1 : decode cX10_dropFirst 1 = .ok (.istore_n 2, 1) := fp_hdX10_dropFirst_0.1.1.1.1.1.2
theorem dX10_dropFirst_2 : decode cX10_dropFirst 2 = .ok (.iload_n 2, 1) := fp_hdX10_dropFirst_0.1.1.1.1.2.1
theorem dX10_dropFirst_3 : decode cX10_dropFirst 3 = .ok (.aload_n 0, 1) := fp_hdX10_dropFirst_0.1.1.1.1.2.2
theorem dX10_dropFirst_4 : decode cX10_dropFirst 4 = .ok (.getfield 24, 3) := fp_hdX10_dropFirst_0.1.1.1.2.1.1
theorem dX10_dropFirst_7 : decode cX10_dropFirst 7 = .ok (.if_icmp .ge 65, 3) := fp_hdX10_dropFirst_0.1.1.1.2.1.2
theorem dX10_dropFirst_10 : decode cX10_dropFirst 10 = .ok (.aload_n 0, 1) := fp_hdX10_dropFirst_0.1.1.1.2.2.1
theorem dX10_dropFirst_11 : decode cX10_dropFirst 11 = .ok (.getfield 9, 3) := fp_hdX10_dropFirst_0.1.1.1.2.2.2
theorem dX10_dropFirst_14 : decode cX10_dropFirst 14 = .ok (.iload_n 2, 1) := fp_hdX10_dropFirst_0.1.1.2.1.1.1
theorem dX10_dropFirst_15 : decode cX10_dropFirst 15 = .ok (.iload_n 1, 1) := fp_hdX10_dropFirst_0.1.1.2.1.1.2
theorem dX10_dropFirst_16 : decode cX10_dropFirst 16 = .ok (.isub, 1) := fp_hdX10_dropFirst_0.1.1.2.1.2.1
theorem dX10_dropFirst_17 : decode cX10_dropFirst 17 = .ok (.aload_n 0, 1) := fp_hdX10_dropFirst_0.1.1.2.1.2.2
theorem dX10_dropFirst_18 : decode cX10_dropFirst 18 = .ok (.getfield 9, 3) := fp_hdX10_dropFirst_0.1.1.2.2.1.1
theorem dX10_dropFirst_21 : decode cX10_dropFirst 21 = .ok (.iload_n 2, 1) := fp_hdX10_dropFirst_0.1.1.2.2.1.2
theorem dX10_dropFirst_22 : decode cX10_dropFirst 22 = .ok (.iaload, 1) := fp_hdX10_dropFirst_0.1.1.2.2.2.1
theorem dX10_dropFirst_23 : decode cX10_dropFirst 23 = .ok (.iastore, 1) := fp_hdX10_dropFirst_0.1.1.2.2.2.2
theorem dX10_dropFirst_24 : decode cX10_dropFirst 24 = .ok (.aload_n 0, 1) := fp_hdX10_dropFirst_0.1.2.1.1.1.1
theorem dX10_dropFirst_25 : decode cX10_dropFirst 25 = .ok (.getfield 15, 3) := fp_hdX10_dropFirst_0.1.2.1.1.1.2
theorem dX10_dropFirst_28 : decode cX10_dropFirst 28 = .ok (.iload_n 2, 1) := fp_hdX10_dropFirst_0.1.2.1.1.2.1
theorem dX10_dropFirst_29 : decode cX10_dropFirst 29 = .ok (.iload_n 1, 1) := fp_hdX10_dropFirst_0.1.2.1.1.2.2
theorem dX10_dropFirst_30 : decode cX10_dropFirst 30 = .ok (.isub, 1) := fp_hdX10_dropFirst_0.1.2.1.2.1.1
theorem dX10_dropFirst_31 : decode cX10_dropFirst 31 = .ok (.aload_n 0, 1) := fp_hdX10_dropFirst_0.1.2.1.2.1.2
theorem dX10_dropFirst_32 : decode cX10_dropFirst 32 = .ok (.getfield 15, 3) := fp_hdX10_dropFirst_0.1.2.1.2.2.1
theorem dX10_dropFirst_35 : decode cX10_dropFirst 35 = .ok (.iload_n 2, 1) := fp_hdX10_dropFirst_0.1.2.1.2.2.2
theorem dX10_dropFirst_36 : decode cX10_dropFirst 36 = .ok (.iaload, 1) := fp_hdX10_dropFirst_0.1.2.2.1.1.1
theorem dX10_dropFirst_37 : decode cX10_dropFirst 37 = .ok (.iastore, 1) := fp_hdX10_dropFirst_0.1.2.2.1.1.2
theorem dX10_dropFirst_38 : decode cX10_dropFirst 38 = .ok (.aload_n 0, 1) := fp_hdX10_dropFirst_0.1.2.2.1.2.1
theorem dX10_dropFirst_39 : decode cX10_dropFirst 39 = .ok (.getfield 18, 3) := fp_hdX10_dropFirst_0.1.2.2.1.2.2
theorem dX10_dropFirst_42 : decode cX10_dropFirst 42 = .ok (.iload_n 2, 1) := fp_hdX10_dropFirst_0.1.2.2.2.1.1
theorem dX10_dropFirst_43 : decode cX10_dropFirst 43 = .ok (.iload_n 1, 1) := fp_hdX10_dropFirst_0.1.2.2.2.1.2
theorem dX10_dropFirst_44 : decode cX10_dropFirst 44 = .ok (.isub, 1) := fp_hdX10_dropFirst_0.1.2.2.2.2.1
theorem dX10_dropFirst_45 : decode cX10_dropFirst 45 = .ok (.aload_n 0, 1) := fp_hdX10_dropFirst_0.1.2.2.2.2.2
theorem fp_hdX10_dropFirst_46 : (((((decode cX10_dropFirst 46 = .ok (.getfield 18, 3) ∧ decode cX10_dropFirst 49 = .ok (.iload_n 2, 1)) ∧ decode cX10_dropFirst 50 = .ok (.iaload, 1)) ∧ ((decode cX10_dropFirst 51 = .ok (.iastore, 1) ∧ decode cX10_dropFirst 52 = .ok (.aload_n 0, 1)) ∧ decode cX10_dropFirst 53 = .ok (.getfield 21, 3))) ∧ (((decode cX10_dropFirst 56 = .ok (.iload_n 2, 1) ∧ decode cX10_dropFirst 57 = .ok (.iload_n 1, 1)) ∧ decode cX10_dropFirst 58 = .ok (.isub, 1)) ∧ ((decode cX10_dropFirst 59 = .ok (.aload_n 0, 1) ∧ decode cX10_dropFirst 60 = .ok (.getfield 21, 3)) ∧ decode cX10_dropFirst 63 = .ok (.iload_n 2, 1)))) ∧ ((((decode cX10_dropFirst 64 = .ok (.iaload, 1) ∧ decode cX10_dropFirst 65 = .ok (.iastore, 1)) ∧ decode cX10_dropFirst 66 = .ok (.iinc 2 1, 3)) ∧ ((decode cX10_dropFirst 69 = .ok (.goto (-67), 3) ∧ decode cX10_dropFirst 72 = .ok (.aload_n 0, 1)) ∧ decode cX10_dropFirst 73 = .ok (.dup, 1))) ∧ (((decode cX10_dropFirst 74 = .ok (.getfield 24, 3) ∧ decode cX10_dropFirst 77 = .ok (.iload_n 1, 1)) ∧ decode cX10_dropFirst 78 = .ok (.isub, 1)) ∧ (decode cX10_dropFirst 79 = .ok (.putfield 24, 3) ∧ decode cX10_dropFirst 82 = .ok (.return_, 1))))) ∧ bA cX10_dropFirst 83 [] :=
  have q0 := fp_o180 (v := 18) fp_hdX10_dropFirst_0.2 rfl
  have q1 := fp_o28 q0.2
  have q2 := fp_o46 q1.2
  have q3 := fp_o79 q2.2
  have q4 := fp_o42 q3.2
  have q5 := fp_o180 (v := 21) q4.2 rfl
  have q6 := fp_o28 q5.2
  have q7 := fp_o27 q6.2
  have q8 := fp_o100 q7.2
  have q9 := fp_o42 q8.2
  have q10 := fp_o180 (v := 21) q9.2 rfl
  have q11 := fp_o28 q10.2
  have q12 := fp_o46 q11.2
  have q13 := fp_o79 q12.2
  have q14 := fp_o132 (v := 1) q13.2 rfl
  have q15 := fp_o167 (v := (-67)) q14.2 rfl
  have q16 := fp_o42 q15.2
  have q17 := fp_o89 q16.2
  have q18 := fp_o180 (v := 24) q17.2 rfl
  have q19 := fp_o27 q18.2
  have q20 := fp_o100 q19.2
  have q21 := fp_o181 (v := 24) q20.2 rfl
  have q22 := fp_o177 q21.2
  ⟨⟨⟨⟨⟨⟨q0.1, q1.1⟩, q2.1⟩, ⟨⟨q3.1, q4.1⟩, q5.1⟩⟩, ⟨⟨⟨q6.1, q7.1⟩, q8.1⟩, ⟨⟨q9.1, q10.1⟩, q11.1⟩⟩⟩, ⟨⟨⟨⟨q12.1, q13.1⟩, q14.1⟩, ⟨⟨q15.1, q16.1⟩, q17.1⟩⟩, ⟨⟨⟨q18.1, q19.1⟩, q20.1⟩, ⟨q21.1, q22.1⟩⟩⟩⟩, q22.2⟩
theorem dX10_dropFirst_46 : decode cX10_dropFirst 46 = .ok (.getfield 18, 3) := fp_hdX10_dropFirst_46.1.1.1.1.1.1
theorem dX10_dropFirst_49 : decode cX10_dropFirst 49 = .ok (.iload_n 2, 1) := fp_hdX10_dropFirst_46.1.1.1.1.1.2
theorem dX10_dropFirst_50 : decode cX10_dropFirst 50 = .ok (.iaload, 1) := fp_hdX10_dropFirst_46.1.1.1.1.2
theorem dX10_dropFirst_51 : decode cX10_dropFirst 51 = .ok (.iastore, 1) := fp_hdX10_dropFirst_46.1.1.1.2.1.1
theorem dX10_dropFirst_52 : decode cX10_dropFirst 52 = .ok (.aload_n 0, 1) := fp_hdX10_dropFirst_46.1.1.1.2.1.2
theorem dX10_dropFirst_53 : decode cX10_dropFirst 53 = .ok (.getfield 21, 3) := fp_hdX10_dropFirst_46.1.1.1.2.2
theorem dX10_dropFirst_56 : decode cX10_dropFirst 56 = .ok (.iload_n 2, 1) := fp_hdX10_dropFirst_46.1.1.2.1.1.1
theorem dX10_dropFirst_57 : decode cX10_dropFirst 57 = .ok (.iload_n 1, 1) := fp_hdX10_dropFirst_46.1.1.2.1.1.2
theorem dX10_dropFirst_58 : decode cX10_dropFirst 58 = .ok (.isub, 1) := fp_hdX10_dropFirst_46.1.1.2.1.2
theorem dX10_dropFirst_59 : decode cX10_dropFirst 59 = .ok (.aload_n 0, 1) := fp_hdX10_dropFirst_46.1.1.2.2.1.1
theorem dX10_dropFirst_60 : decode cX10_dropFirst 60 = .ok (.getfield 21, 3) := fp_hdX10_dropFirst_46.1.1.2.2.1.2
theorem dX10_dropFirst_63 : decode cX10_dropFirst 63 = .ok (.iload_n 2, 1) := fp_hdX10_dropFirst_46.1.1.2.2.2
theorem dX10_dropFirst_64 : decode cX10_dropFirst 64 = .ok (.iaload, 1) := fp_hdX10_dropFirst_46.1.2.1.1.1.1
theorem dX10_dropFirst_65 : decode cX10_dropFirst 65 = .ok (.iastore, 1) := fp_hdX10_dropFirst_46.1.2.1.1.1.2
theorem dX10_dropFirst_66 : decode cX10_dropFirst 66 = .ok (.iinc 2 1, 3) := fp_hdX10_dropFirst_46.1.2.1.1.2
theorem dX10_dropFirst_69 : decode cX10_dropFirst 69 = .ok (.goto (-67), 3) := fp_hdX10_dropFirst_46.1.2.1.2.1.1
theorem dX10_dropFirst_72 : decode cX10_dropFirst 72 = .ok (.aload_n 0, 1) := fp_hdX10_dropFirst_46.1.2.1.2.1.2
theorem dX10_dropFirst_73 : decode cX10_dropFirst 73 = .ok (.dup, 1) := fp_hdX10_dropFirst_46.1.2.1.2.2
theorem dX10_dropFirst_74 : decode cX10_dropFirst 74 = .ok (.getfield 24, 3) := fp_hdX10_dropFirst_46.1.2.2.1.1.1
theorem dX10_dropFirst_77 : decode cX10_dropFirst 77 = .ok (.iload_n 1, 1) := fp_hdX10_dropFirst_46.1.2.2.1.1.2
theorem dX10_dropFirst_78 : decode cX10_dropFirst 78 = .ok (.isub, 1) := fp_hdX10_dropFirst_46.1.2.2.1.2
theorem dX10_dropFirst_79 : decode cX10_dropFirst 79 = .ok (.putfield 24, 3) := fp_hdX10_dropFirst_46.1.2.2.2.1
theorem dX10_dropFirst_82 : decode cX10_dropFirst 82 = .ok (.return_, 1) := fp_hdX10_dropFirst_46.1.2.2.2.2
def fp_scX10_happens_1 : List Nat := 42 :: 180 :: 0 :: 21 :: 29 :: 46 :: 42 :: 180 :: 0 :: 18 :: 29 :: 46 :: 182 :: 0 :: 51 :: 172 :: []
def fp_scX10_happens_0 : List Nat := 42 :: 29 :: 182 :: 0 :: 42 :: 154 :: 0 :: 5 :: 3 :: 172 :: 42 :: 29 :: 182 :: 0 :: 34 :: 153 :: 0 :: 31 :: 44 :: 43 :: 42 :: 180 :: 0 :: 15 :: 29 :: 46 :: 42 :: 180 :: 0 :: 18 :: 29 :: 46 :: 182 :: 0 :: 45 :: 16 :: 252 :: 159 :: 0 :: 7 :: 4 :: 167 :: 0 :: 4 :: 3 :: 172 :: 44 :: 42 :: 180 :: 0 :: 15 :: 29 :: 46 :: fp_scX10_happens_1
theorem fp_bcX10_happens : bA cX10_happens 0 fp_scX10_happens_0 := show cX10_happens.data.toList.map UInt8.toNat = fp_scX10_happens_0 from by decide +kernel
theorem fp_hdX10_happens_0 : (((((decode cX10_happens 0 = .ok (.aload_n 0, 1) ∧ decode cX10_happens 1 = .ok (.iload_n 3, 1)) ∧ (decode cX10_happens 2 = .ok (.invokevirtual 42, 3) ∧ decode cX10_happens 5 = .ok (.ifCond .ne 5, 3))) ∧ ((decode cX10_happens 8 = .ok (.iconst 0, 1) ∧ decode cX10_happens 9 = .ok (.ireturn, 1)) ∧ (decode cX10_happens 10 = .ok (.aload_n 0, 1) ∧ decode cX10_happens 11 = .ok (.iload_n 3, 1)))) ∧ (((decode cX10_happens 12 = .ok (.invokevirtual 34, 3) ∧ decode cX10_happens 15 = .ok (.ifCond .eq 31, 3)) ∧ (decode cX10_happens 18 = .ok (.aload_n 2, 1) ∧ decode cX10_happens 19 = .ok (.aload_n 1, 1))) ∧ ((decode cX10_happens 20 = .ok (.aload_n 0, 1) ∧ decode cX10_happens 21 = .ok (.getfield 15, 3)) ∧ (decode cX10_happens 24 = .ok (.iload_n 3, 1) ∧ decode cX10_happens 25 = .ok (.iaload, 1))))) ∧ ((((decode cX10_happens 26 = .ok (.aload_n 0, 1) ∧ decode cX10_happens 27 = .ok (.getfield 18, 3)) ∧ (decode cX10_happens 30 = .ok (.iload_n 3, 1) ∧ decode cX10_happens 31 = .ok (.iaload, 1))) ∧ ((decode cX10_happens 32 = .ok (.invokevirtual 45, 3) ∧ decode cX10_happens 35 = .ok (.bipush (-4), 2)) ∧ (decode cX10_happens 37 = .ok (.if_icmp .eq 7, 3) ∧ decode cX10_happens 40 = .ok (.iconst 1, 1)))) ∧ (((decode cX10_happens 41 = .ok (.goto 4, 3) ∧ decode cX10_happens 44 = .ok (.iconst 0, 1)) ∧ (decode cX10_happens 45 = .ok (.ireturn, 1) ∧ decode cX10_happens 46 = .ok (.aload_n 2, 1))) ∧ ((decode cX10_happens 47 = .ok (.aload_n 0, 1) ∧ decode cX10_happens 48 = .ok (.getfield 15, 3)) ∧ (decode cX10_happens 51 = .ok (.iload_n 3, 1) ∧ decode cX10_happens 52 = .ok (.iaload, 1)))))) ∧ bA cX10_happens 53 fp_scX10_happens_1 :=
  have q0 := fp_o42 fp_bcX10_happens
  have q1 := fp_o29 q0.2
  have q2 := fp_o182 (v := 42) q1.2 rfl
  have q3 := fp_o154 (v := 5) q2.2 rfl
  have q4 := fp_o3 q3.2
  have q5 := fp_o172 q4.2
  have q6 := fp_o42 q5.2
  have q7 := fp_o29 q6.2
  have q8 := fp_o182 (v := 34) q7.2 rfl
  have q9 := fp_o153 (v := 31) q8.2 rfl
  have q10 := fp_o44 q9.2
  have q11 := fp_o43 q10.2
  have q12 := fp_o42 q11.2
  have q13 := fp_o180 (v := 15) q12.2 rfl
  have q14 := fp_o29 q13.2
  have q15 := fp_o46 q14.2
  have q16 := fp_o42 q15.2
  have q17 := fp_o180 (v := 18) q16.2 rfl
  have q18 := fp_o29 q17.2
  have q19 := fp_o46 q18.2
  have q20 := fp_o182 (v := 45) q19.2 rfl
  have q21 := fp_o16 (v := (-4)) q20.2 rfl
  have q22 := fp_o159 (v := 7) q21.2 rfl
  have q23 := fp_o4 q22.2
  have q24 := fp_o167 (v := 4) q23.2 rfl
  have q25 := fp_o3 q24.2
  have q26 := fp_o172 q25.2
  have q27 := fp_o44 q26.2
  have q28 := fp_o42 q27.2
  have q29 := fp_o180 (v := 15) q28.2 rfl
  have q30 := fp_o29 q29.2
  have q31 := fp_o46 q30.2
  ⟨⟨⟨⟨⟨⟨q0.1, q1.1⟩, ⟨q2.1, q3.1⟩⟩, ⟨⟨q4.1, q5.1⟩, ⟨q6.1, q7.1⟩⟩⟩, ⟨⟨⟨q8.1, q9.1⟩, ⟨q10.1, q11.1⟩⟩, ⟨⟨q12.1, q13.1⟩, ⟨q14.1, q15.1⟩⟩⟩⟩, ⟨⟨⟨⟨q16.1, q17.1⟩, ⟨q18.1, q19.1⟩⟩, ⟨⟨q20.1, q21.1⟩, ⟨q22.1, q23.1⟩⟩⟩, ⟨⟨⟨q24.1, q25.1⟩, ⟨q26.1, q27.1⟩⟩, ⟨⟨q28.1, q29.1⟩, ⟨q30.1, q31.1⟩⟩⟩⟩⟩, q31.2⟩
theorem dX10_happens_0 : decode cX10_happens 0 = .ok (.aload_n 0, 1) := fp_hdX10_happens_0.1.1.1.1.1.1
theorem dX10_happens_1 : decode cX10_happens 1 = .ok (.iload_n 3, 1) := fp_hdX10_happens_0.1.1.1.1.1.2
theorem dX10_happens_2 : decode cX10_happens 2 = .ok (.invokevirtual 42, 3) := fp_hdX10_happens_0.1.1.1.1.2.1
theorem dX10_happens_5 : decode cX10_happens 5 = .ok (.ifCond .ne 5, 3) := fp_hdX10_happens_0.1.1.1.1.2.2
theorem dX10_happens_8 : decode cX10_happens 8 = .ok (.iconst 0, 1) := fp_hdX10_happens_0.1.1.1.2.1.1
theorem dX10_happens_9 : decode cX10_happens 9 = .ok (.ireturn, 1) := fp_hdX10_happens_0.1.1.1.2.1.2
theorem dX10_happens_10 : decode cX10_happens 10 = .ok (.aload_n 0, 1) := fp_hdX10_happens_0.1.1.1.2.2.1
theorem dX10_happens_11 : decode cX10_happens 11 = .ok (.iload_n 3, 1) := fp_hdX10_happens_0.1.1.1.2.2.2
theorem dX10_happens_12 : decode cX10_happens 12 = .ok (.invokevirtual 34, 3) := fp_hdX10_happens_0.1.1.2.1.1.1
theorem dX10_happens_15 : decode cX10_happens 15 = .ok (.ifCond .eq 31, 3) := fp_hdX10_happens_0.1.1.2.1.1.2
theorem dX10_happens_18 : decode cX10_happens 18 = .ok (.aload_n 2, 1) := fp_hdX10_happens_0.1.1.2.1.2.1
theorem dX10_happens_19 : decode cX10_happens 19 = .ok (.aload_n 1, 1) := fp_hdX10_happens_0.1.1.2.1.2.2
theorem dX10_happens_20 : decode cX10_happens 20 = .ok (.aload_n 0, 1) := fp_hdX10_happens_0.1.1.2.2.1.1
theorem dX10_happens_21 : decode cX10_happens 21 = .ok (.getfield 15, 3) := fp_hdX10_happens_0.1.1.2.2.1.2
theorem dX10_happens_24 : decode cX10_happens 24 = .ok (.iload_n 3, 1) := fp_hdX10_happens_0.1.1.2.2.2.1
theorem dX10_happens_25 : decode cX10_happens 25 = .ok (.iaload, 1) := fp_hdX10_happens_0.1.1.2.2.2.2
theorem dX10_happens_26 : decode cX10_happens 26 = .ok (.aload_n 0, 1) := fp_hdX10_happens_0.1.2.1.1.1.1
theorem dX10_happens_27 : decode cX10_happens 27 = .ok (.getfield 18, 3) := fp_hdX10_happens_0.1.2.1.1.1.2
theorem dX10_happens_30 : decode cX10_happens 30 = .ok (.iload_n 3, 1) := fp_hdX10_happens_0.1.2.1.1.2.1
theorem dX10_happens_31 : decode cX10_happens 31 = .ok (.iaload, 1) := fp_hdX10_happens_0.1.2.1.1.2.2
theorem dX10_happens_32 : decode cX10_happens 32 = .ok (.invokevirtual 45, 3) := fp_hdX10_happens_0.1.2.1.2.1.1
theorem dX10_happens_35 : decode cX10_happens 35 = .ok (.bipush (-4), 2) := fp_hdX10_happens_0.1.2.1.2.1.2
theorem dX10_happens_37 : decode cX10_happens 37 = .ok (.if_icmp .eq 7, 3) := fp_hdX10_happens_0.1.2.1.2.2.1
theorem dX10_happens_40 : decode cX10_happens 40 = .ok (.iconst 1, 1) := fp_hdX10_happens_0.1.2.1.2.2.2
theorem dX10_happens_41 : decode cX10_happens 41 = .ok (.goto 4, 3) := fp_hdX10_happens_0.1.2.2.1.1.1
theorem dX10_happens_44 : decode cX10_happens 44 = .ok (.iconst 0, 1) := fp_hdX10_happens_0.1.2.2.1.1.2
theorem dX10_happens_45 : decode cX10_happens 45 = .ok (.ireturn, 1) := fp_hdX10_happens_0.1.2.2.1.2.1
theorem dX10_happens_46 : decode cX10_happens 46 = .ok (.aload_n 2, 1) := fp_hdX10_happens_0.1.2.2.1.2.2
theorem dX10_happens_47 : decode cX10_happens 47 = .ok (.aload_n 0, 1) := fp_hdX10_happens_0.1.2.2.2.1.1
theorem dX10_happens_48 : decode cX10_happens 48 = .ok (.getfield 15, 3) := fp_hdX10_happens_0.1.2.2.2.1.2
theorem dX10_happens_51 : decode cX10_happens 51 = .ok (.iload_n 3, 1) := fp_hdX10_happens_0.1.2.2.2.2.1
theorem dX10_happens_52 : decode cX10_happens 52 = .ok (.iaload, 1) := fp_hdX10_happens_0.1.2.2.2.2.2
theorem fp_hdX10_happens_53 : ((((decode cX10_happens 53 = .ok (.aload_n 0, 1) ∧ decode cX10_happens 54 = .ok (.getfield 21, 3)) ∧ decode cX10_happens 57 = .ok (.iload_n 3, 1)) ∧ (decode cX10_happens 58 = .ok (.iaload, 1) ∧ decode cX10_happens 59 = .ok (.aload_n 0, 1))) ∧ (((decode cX10_happens 60 = .ok (.getfield 18, 3) ∧ decode cX10_happens 63 = .ok (.iload_n 3, 1)) ∧ decode cX10_happens 64 = .ok (.iaload, 1)) ∧ (decode cX10_happens 65 = .ok (.invokevirtual 51, 3) ∧ decode cX10_happens 68 = .ok (.ireturn, 1)))) ∧ bA cX10_happens 69 [] :=
  have q0 := fp_o42 fp_hdX10_happens_0.2
  have q1 := fp_o180 (v := 21) q0.2 rfl
  have q2 := fp_o29 q1.2
  have q3 := fp_o46 q2.2
  have q4 := fp_o42 q3.2
  have q5 := fp_o180 (v := 18) q4.2 rfl
  have q6 := fp_o29 q5.2
  have q7 := fp_o46 q6.2
  have q8 := fp_o182 (v := 51) q7.2 rfl
  have q9 := fp_o172 q8.2
  ⟨⟨⟨⟨⟨q0.1, q1.1⟩, q2.1⟩, ⟨q3.1, q4.1⟩⟩, ⟨⟨⟨q5.1, q6.1⟩, q7.1⟩, ⟨q8.1, q9.1⟩⟩⟩, q9.2⟩
theorem dX10_happens_53 : decode cX10_happens 53 = .ok (.aload_n 0, 1) := fp_hdX10_happens_53.1.1.1.1.1
theorem dX10_happens_54 : decode cX10_happens 54 = .ok (.getfield 21, 3) := fp_hdX10_happens_53.1.1.1.1.2
theorem dX10_happens_57 : decode cX10_happens 57 = .ok (.iload_n 3, 1) := fp_hdX10_happens_53.1.1.1.2
theorem dX10_happens_58 : decode cX10_happens 58 = .ok (.iaload, 1) := fp_hdX10_happens_53.1.1.2.1
theorem dX10_happens_59 : decode cX10_happens 59 = .ok (.aload_n 0, 1) := fp_hdX10_happens_53.1.1.2.2
theorem dX10_happens_60 : decode cX10_happens 60 = .ok (.getfield 18, 3) := fp_hdX10_happens_53.1.2.1.1.1
theorem dX10_happens_63 : decode cX10_happens 63 = .ok (.iload_n 3, 1) := fp_hdX10_happens_53.1.2.1.1.2
theorem dX10_happens_64 : decode cX10_happens 64 = .ok (.iaload, 1) := fp_hdX10_happens_53.1.2.1.2
theorem dX10_happens_65 : decode cX10_happens 65 = .ok (.invokevirtual 51, 3) := fp_hdX10_happens_53.1.2.2.1
theorem dX10_happens_68 : decode cX10_happens 68 = .ok (.ireturn, 1) := fp_hdX10_happens_53.1.2.2.2
def fp_scJ0_length_8abf5_0 : List Nat := 42 :: 180 :: 0 :: 9 :: 190 :: 42 :: 182 :: 1 :: 79 :: 122 :: 172 :: []
theorem fp_bcJ0_length_8abf5 : bA cJ0_length_8abf5 0 fp_scJ0_length_8abf5_0 := show cJ0_length_8abf5.data.toList.map UInt8.toNat = fp_scJ0_length_8abf5_0 from by decide +kernel
theorem fp_hdJ0_length_8abf5_0 : (((decode cJ0_length_8abf5 0 = .ok (.aload_n 0, 1) ∧ decode cJ0_length_8abf5 1 = .ok (.getfield 9, 3)) ∧ (decode cJ0_length_8abf5 4 = .ok (.arraylength, 1) ∧ decode cJ0_length_8abf5 5 = .ok (.aload_n 0, 1))) ∧ ((decode cJ0_length_8abf5 6 = .ok (.invokevirtual 335, 3) ∧ decode cJ0_length_8abf5 9 = .ok (.ishr, 1)) ∧ decode cJ0_length_8abf5 10 = .ok (.ireturn, 1))) ∧ bA cJ0_length_8abf5 11 [] :=
  have q0 := fp_o42 fp_bcJ0_length_8abf5
  have q1 := fp_o180 (v := 9) q0.2 rfl
  have q2 := fp_o190 q1.2
  have q3 := fp_o42 q2.2
  have q4 := fp_o182 (v := 335) q3.2 rfl
  have q5 := fp_o122 q4.2
  have q6 := fp_o172 q5.2
  ⟨⟨⟨⟨q0.1, q1.1⟩, ⟨q2.1, q3.1⟩⟩, ⟨⟨q4.1, q5.1⟩, q6.1⟩⟩, q6.2⟩
theorem dJ0_length_8abf5_0 : decode cJ0_length_8abf5 0 = .ok (.aload_n 0, 1) := fp_hdJ0_length_8abf5_0.1.1.1.1
theorem dJ0_length_8abf5_1 : decode cJ0_length_8abf5 1 = .ok (.getfield 9, 3) := fp_hdJ0_length_8abf5_0.1.1.1.2
theorem dJ0_length_8abf5_4 : decode cJ0_length_8abf5 4 = .ok (.arraylength, 1) := fp_hdJ0_length_8abf5_0.1.1.2.1
theorem dJ0_length_8abf5_5 : decode cJ0_length_8abf5 5 = .ok (.aload_n 0, 1) := fp_hdJ0_length_8abf5_0.1.1.2.2
theorem dJ0_length_8abf5_6 : decode cJ0_length_8abf5 6 = .ok (.invokevirtual 335, 3) := fp_hdJ0_length_8abf5_0.1.2.1.1
theorem dJ0_length_8abf5_9 : decode cJ0_length_8abf5 9 = .ok (.ishr, 1) := fp_hdJ0_length_8abf5_0.1.2.1.2
theorem dJ0_length_8abf5_10 : decode cJ0_length_8abf5 10 = .ok (.ireturn, 1) := fp_hdJ0_length_8abf5_0.1.2.2
def fp_scJ0_charAt_5068e_0 : List Nat := 42 :: 182 :: 1 :: 236 :: 153 :: 0 :: 12 :: 42 :: 180 :: 0 :: 9 :: 27 :: 184 :: 1 :: 239 :: 172 :: 42 :: 180 :: 0 :: 9 :: 27 :: 184 :: 1 :: 242 :: 172 :: []
theorem fp_bcJ0_charAt_5068e : bA cJ0_charAt_5068e 0 fp_scJ0_charAt_5068e_0 := show cJ0_charAt_5068e.data.toList.map UInt8.toNat = fp_scJ0_charAt_5068e_0 from by decide +kernel
theorem fp_hdJ0_charAt_5068e_0 : ((((decode cJ0_charAt_5068e 0 = .ok (.aload_n 0, 1) ∧ decode cJ0_charAt_5068e 1 = .ok (.invokevirtual 492, 3)) ∧ (decode cJ0_charAt_5068e 4 = .ok (.ifCond .eq 12, 3) ∧ decode cJ0_charAt_5068e 7 = .ok (.aload_n 0, 1))) ∧ ((decode cJ0_charAt_5068e 8 = .ok (.getfield 9, 3) ∧ decode cJ0_charAt_5068e 11 = .ok (.iload_n 1, 1)) ∧ decode cJ0_charAt_5068e 12 = .ok (.invokestatic 495, 3))) ∧ (((decode cJ0_charAt_5068e 15 = .ok (.ireturn, 1) ∧ decode cJ0_charAt_5068e 16 = .ok (.aload_n 0, 1)) ∧ decode cJ0_charAt_5068e 17 = .ok (.getfield 9, 3)) ∧ ((decode cJ0_charAt_5068e 20 = .ok (.iload_n 1, 1) ∧ decode cJ0_charAt_5068e 21 = .ok (.invokestatic 498, 3)) ∧ decode cJ0_charAt_5068e 24 = .ok (.ireturn, 1)))) ∧ bA cJ0_charAt_5068e 25 [] :=
  have q0 := fp_o42 fp_bcJ0_charAt_5068e
  have q1 := fp_o182 (v := 492) q0.2 rfl
  have q2 := fp_o153 (v := 12) q1.2 rfl
  have q3 := fp_o42 q2.2
  have q4 := fp_o180 (v := 9) q3.2 rfl
  have q5 := fp_o27 q4.2
  have q6 := fp_o184 (v := 495) q5.2 rfl
  have q7 := fp_o172 q6.2
  have q8 := fp_o42 q7.2
  have q9 := fp_o180 (v := 9) q8.2 rfl
  have q10 := fp_o27 q9.2
  have q11 := fp_o184 (v := 498) q10.2 rfl
  have q12 := fp_o172 q11.2
  ⟨⟨⟨⟨⟨q0.1, q1.1⟩, ⟨q2.1, q3.1⟩⟩, ⟨⟨q4.1, q5.1⟩, q6.1⟩⟩, ⟨⟨⟨q7.1, q8.1⟩, q9.1⟩, ⟨⟨q10.1, q11.1⟩, q12.1⟩⟩⟩, q12.2⟩
theorem dJ0_charAt_5068e_0 : decode cJ0_charAt_5068e 0 = .ok (.aload_n 0, 1) := fp_hdJ0_charAt_5068e_0.1.1.1.1.1
theorem dJ0_charAt_5068e_1 : decode cJ0_charAt_5068e 1 = .ok (.invokevirtual 492, 3) := fp_hdJ0_charAt_5068e_0.1.1.1.1.2
theorem dJ0_charAt_5068e_4 : decode cJ0_charAt_5068e 4 = .ok (.ifCond .eq 12, 3) := fp_hdJ0_charAt_5068e_0.1.1.1.2.1
theorem dJ0_charAt_5068e_7 : decode cJ0_charAt_5068e 7 = .ok (.aload_n 0, 1) := fp_hdJ0_charAt_5068e_0.1.1.1.2.2
theorem dJ0_charAt_5068e_8 : decode cJ0_charAt_5068e 8 = .ok (.getfield 9, 3) := fp_hdJ0_charAt_5068e_0.1.1.2.1.1
theorem dJ0_charAt_5068e_11 : decode cJ0_charAt_5068e 11 = .ok (.iload_n 1, 1) := fp_hdJ0_charAt_5068e_0.1.1.2.1.2
theorem dJ0_charAt_5068e_12 : decode cJ0_charAt_5068e 12 = .ok (.invokestatic 495, 3) := fp_hdJ0_charAt_5068e_0.1.1.2.2
theorem dJ0_charAt_5068e_15 : decode cJ0_charAt_5068e 15 = .ok (.ireturn, 1) := fp_hdJ0_charAt_5068e_0.1.2.1.1.1
theorem dJ0_charAt_5068e_16 : decode cJ0_charAt_5068e 16 = .ok (.aload_n 0, 1) := fp_hdJ0_charAt_5068e_0.1.2.1.1.2
theorem dJ0_charAt_5068e_17 : decode cJ0_charAt_5068e 17 = .ok (.getfield 9, 3) := fp_hdJ0_charAt_5068e_0.1.2.1.2
theorem dJ0_charAt_5068e_20 : decode cJ0_charAt_5068e 20 = .ok (.iload_n 1, 1) := fp_hdJ0_charAt_5068e_0.1.2.2.1.1
theorem dJ0_charAt_5068e_21 : decode cJ0_charAt_5068e 21 = .ok (.invokestatic 498, 3) := fp_hdJ0_charAt_5068e_0.1.2.2.1.2
theorem dJ0_charAt_5068e_24 : decode cJ0_charAt_5068e 24 = .ok (.ireturn, 1) := fp_hdJ0_charAt_5068e_0.1.2.2.2
def fp_scJ0_coder_7d493_0 : List Nat := 178 :: 0 :: 38 :: 153 :: 0 :: 10 :: 42 :: 180 :: 0 :: 15 :: 167 :: 0 :: 4 :: 4 :: 172 :: []
theorem fp_bcJ0_coder_7d493 : bA cJ0_coder_7d493 0 fp_scJ0_coder_7d493_0 := show cJ0_coder_7d493.data.toList.map UInt8.toNat = fp_scJ0_coder_7d493_0 from by decide +kernel
theorem fp_hdJ0_coder_7d493_0 : (((decode cJ0_coder_7d493 0 = .ok (.getstatic 38, 3) ∧ decode cJ0_coder_7d493 3 = .ok (.ifCond .eq 10, 3)) ∧ (decode cJ0_coder_7d493 6 = .ok (.aload_n 0, 1) ∧ decode cJ0_coder_7d493 7 = .ok (.getfield 15, 3))) ∧ ((decode cJ0_coder_7d493 10 = .ok (.goto 4, 3) ∧ decode cJ0_coder_7d493 13 = .ok (.iconst 1, 1)) ∧ decode cJ0_coder_7d493 14 = .ok (.ireturn, 1))) ∧ bA cJ0_coder_7d493 15 [] :=
  have q0 := fp_o178 (v := 38) fp_bcJ0_coder_7d493 rfl
  have q1 := fp_o153 (v := 10) q0.2 rfl
  have q2 := fp_o42 q1.2
  have q3 := fp_o180 (v := 15) q2.2 rfl
  have q4 := fp_o167 (v := 4) q3.2 rfl
  have q5 := fp_o4 q4.2
  have q6 := fp_o172 q5.2
  ⟨⟨⟨⟨q0.1, q1.1⟩, ⟨q2.1, q3.1⟩⟩, ⟨⟨q4.1, q5.1⟩, q6.1⟩⟩, q6.2⟩
theorem dJ0_coder_7d493_0 : decode cJ0_coder_7d493 0 = .ok (.getstatic 38, 3) := fp_hdJ0_coder_7d493_0.1.1.1.1
theorem dJ0_coder_7d493_3 : decode cJ0_coder_7d493 3 = .ok (.ifCond .eq 10, 3) := fp_hdJ0_coder_7d493_0.1.1.1.2
theorem dJ0_coder_7d493_6 : decode cJ0_coder_7d493 6 = .ok (.aload_n 0, 1) := fp_hdJ0_coder_7d493_0.1.1.2.1
theorem dJ0_coder_7d493_7 : decode cJ0_coder_7d493 7 = .ok (.getfield 15, 3) := fp_hdJ0_coder_7d493_0.1.1.2.2
theorem dJ0_coder_7d493_10 : decode cJ0_coder_7d493 10 = .ok (.goto 4, 3) := fp_hdJ0_coder_7d493_0.1.2.1.1
theorem dJ0_coder_7d493_13 : decode cJ0_coder_7d493 13 = .ok (.iconst 1, 1) := fp_hdJ0_coder_7d493_0.1.2.1.2
theorem dJ0_coder_7d493_14 : decode cJ0_coder_7d493 14 = .ok (.ireturn, 1) := fp_hdJ0_coder_7d493_0.1.2.2
def fp_scJ0_isLatin1_aae02_0 : List Nat := 178 :: 0 :: 38 :: 153 :: 0 :: 14 :: 42 :: 180 :: 0 :: 15 :: 154 :: 0 :: 7 :: 4 :: 167 :: 0 :: 4 :: 3 :: 172 :: []
theorem fp_bcJ0_isLatin1_aae02 : bA cJ0_isLatin1_aae02 0 fp_scJ0_isLatin1_aae02_0 := show cJ0_isLatin1_aae02.data.toList.map UInt8.toNat = fp_scJ0_isLatin1_aae02_0 from by decide +kernel
theorem fp_hdJ0_isLatin1_aae02_0 : ((((decode cJ0_isLatin1_aae02 0 = .ok (.getstatic 38, 3) ∧ decode cJ0_isLatin1_aae02 3 = .ok (.ifCond .eq 14, 3)) ∧ decode cJ0_isLatin1_aae02 6 = .ok (.aload_n 0, 1)) ∧ (decode cJ0_isLatin1_aae02 7 = .ok (.getfield 15, 3) ∧ decode cJ0_isLatin1_aae02 10 = .ok (.ifCond .ne 7, 3))) ∧ ((decode cJ0_isLatin1_aae02 13 = .ok (.iconst 1, 1) ∧ decode cJ0_isLatin1_aae02 14 = .ok (.goto 4, 3)) ∧ (decode cJ0_isLatin1_aae02 17 = .ok (.iconst 0, 1) ∧ decode cJ0_isLatin1_aae02 18 = .ok (.ireturn, 1)))) ∧ bA cJ0_isLatin1_aae02 19 [] :=
  have q0 := fp_o178 (v := 38) fp_bcJ0_isLatin1_aae02 rfl
  have q1 := fp_o153 (v := 14) q0.2 rfl
  have q2 := fp_o42 q1.2
  have q3 := fp_o180 (v := 15) q2.2 rfl
  have q4 := fp_o154 (v := 7) q3.2 rfl
  have q5 := fp_o4 q4.2
  have q6 := fp_o167 (v := 4) q5.2 rfl
  have q7 := fp_o3 q6.2
  have q8 := fp_o172 q7.2
  ⟨⟨⟨⟨⟨q0.1, q1.1⟩, q2.1⟩, ⟨q3.1, q4.1⟩⟩, ⟨⟨q5.1, q6.1⟩, ⟨q7.1, q8.1⟩⟩⟩, q8.2⟩
theorem dJ0_isLatin1_aae02_0 : decode cJ0_isLatin1_aae02 0 = .ok (.getstatic 38, 3) := fp_hdJ0_isLatin1_aae02_0.1.1.1.1.1
theorem dJ0_isLatin1_aae02_3 : decode cJ0_isLatin1_aae02 3 = .ok (.ifCond .eq 14, 3) := fp_hdJ0_isLatin1_aae02_0.1.1.1.1.2
theorem dJ0_isLatin1_aae02_6 : decode cJ0_isLatin1_aae02 6 = .ok (.aload_n 0, 1) := fp_hdJ0_isLatin1_aae02_0.1.1.1.2
theorem dJ0_isLatin1_aae02_7 : decode cJ0_isLatin1_aae02 7 = .ok (.getfield 15, 3) := fp_hdJ0_isLatin1_aae02_0.1.1.2.1
theorem dJ0_isLatin1_aae02_10 : decode cJ0_isLatin1_aae02 10 = .ok (.ifCond .ne 7, 3) := fp_hdJ0_isLatin1_aae02_0.1.1.2.2
theorem dJ0_isLatin1_aae02_13 : decode cJ0_isLatin1_aae02 13 = .ok (.iconst 1, 1) := fp_hdJ0_isLatin1_aae02_0.1.2.1.1
theorem dJ0_isLatin1_aae02_14 : decode cJ0_isLatin1_aae02 14 = .ok (.goto 4, 3) := fp_hdJ0_isLatin1_aae02_0.1.2.1.2
theorem dJ0_isLatin1_aae02_17 : decode cJ0_isLatin1_aae02 17 = .ok (.iconst 0, 1) := fp_hdJ0_isLatin1_aae02_0.1.2.2.1
theorem dJ0_isLatin1_aae02_18 : decode cJ0_isLatin1_aae02 18 = .ok (.ireturn, 1) := fp_hdJ0_isLatin1_aae02_0.1.2.2.2
def fp_scJ0_checkIndex_df160_0 : List Nat := 26 :: 27 :: 178 :: 4 :: 29 :: 184 :: 4 :: 35 :: 87 :: 177 :: []
theorem fp_bcJ0_checkIndex_df160 : bA cJ0_checkIndex_df160 0 fp_scJ0_checkIndex_df160_0 := show cJ0_checkIndex_df160.data.toList.map UInt8.toNat = fp_scJ0_checkIndex_df160_0 from by decide +kernel
theorem fp_hdJ0_checkIndex_df160_0 : (((decode cJ0_checkIndex_df160 0 = .ok (.iload_n 0, 1) ∧ decode cJ0_checkIndex_df160 1 = .ok (.iload_n 1, 1)) ∧ decode cJ0_checkIndex_df160 2 = .ok (.getstatic 1053, 3)) ∧ ((decode cJ0_checkIndex_df160 5 = .ok (.invokestatic 1059, 3) ∧ decode cJ0_checkIndex_df160 8 = .ok (.pop, 1)) ∧ decode cJ0_checkIndex_df160 9 = .ok (.return_, 1))) ∧ bA cJ0_checkIndex_df160 10 [] :=
  have q0 := fp_o26 fp_bcJ0_checkIndex_df160
  have q1 := fp_o27 q0.2
  have q2 := fp_o178 (v := 1053) q1.2 rfl
  have q3 := fp_o184 (v := 1059) q2.2 rfl
  have q4 := fp_o87 q3.2
  have q5 := fp_o177 q4.2
  ⟨⟨⟨⟨q0.1, q1.1⟩, q2.1⟩, ⟨⟨q3.1, q4.1⟩, q5.1⟩⟩, q5.2⟩
theorem dJ0_checkIndex_df160_0 : decode cJ0_checkIndex_df160 0 = .ok (.iload_n 0, 1) := fp_hdJ0_checkIndex_df160_0.1.1.1.1
theorem dJ0_checkIndex_df160_1 : decode cJ0_checkIndex_df160 1 = .ok (.iload_n 1, 1) := fp_hdJ0_checkIndex_df160_0.1.1.1.2
theorem dJ0_checkIndex_df160_2 : decode cJ0_checkIndex_df160 2 = .ok (.getstatic 1053, 3) := fp_hdJ0_checkIndex_df160_0.1.1.2
theorem dJ0_checkIndex_df160_5 : decode cJ0_checkIndex_df160 5 = .ok (.invokestatic 1059, 3) := fp_hdJ0_checkIndex_df160_0.1.2.1.1
theorem dJ0_checkIndex_df160_8 : decode cJ0_checkIndex_df160 8 = .ok (.pop, 1) := fp_hdJ0_checkIndex_df160_0.1.2.1.2
theorem dJ0_checkIndex_df160_9 : decode cJ0_checkIndex_df160 9 = .ok (.return_, 1) := fp_hdJ0_checkIndex_df160_0.1.2.2
def fp_scJ1_charAt_3b067_0 : List Nat := 27 :: 42 :: 190 :: 184 :: 0 :: 9 :: 42 :: 27 :: 51 :: 17 :: 0 :: 255 :: 126 :: 146 :: 172 :: []
theorem fp_bcJ1_charAt_3b067 : bA cJ1_charAt_3b067 0 fp_scJ1_charAt_3b067_0 := show cJ1_charAt_3b067.data.toList.map UInt8.toNat = fp_scJ1_charAt_3b067_0 from by decide +kernel
theorem fp_hdJ1_charAt_3b067_0 : ((((decode cJ1_charAt_3b067 0 = .ok (.iload_n 1, 1) ∧ decode cJ1_charAt_3b067 1 = .ok (.aload_n 0, 1)) ∧ decode cJ1_charAt_3b067 2 = .ok (.arraylength, 1)) ∧ ((decode cJ1_charAt_3b067 3 = .ok (.invokestatic 9, 3) ∧ decode cJ1_charAt_3b067 6 = .ok (.aload_n 0, 1)) ∧ decode cJ1_charAt_3b067 7 = .ok (.iload_n 1, 1))) ∧ (((decode cJ1_charAt_3b067 8 = .ok (.baload, 1) ∧ decode cJ1_charAt_3b067 9 = .ok (.sipush 255, 3)) ∧ decode cJ1_charAt_3b067 12 = .ok (.iand, 1)) ∧ (decode cJ1_charAt_3b067 13 = .ok (.i2c, 1) ∧ decode cJ1_charAt_3b067 14 = .ok (.ireturn, 1)))) ∧ bA cJ1_charAt_3b067 15 [] :=
  have q0 := fp_o27 fp_bcJ1_charAt_3b067
  have q1 := fp_o42 q0.2
  have q2 := fp_o190 q1.2
  have q3 := fp_o184 (v := 9) q2.2 rfl
  have q4 := fp_o42 q3.2
  have q5 := fp_o27 q4.2
  have q6 := fp_o51 q5.2
  have q7 := fp_o17 (v := 255) q6.2 rfl
  have q8 := fp_o126 q7.2
  have q9 := fp_o146 q8.2
  have q10 := fp_o172 q9.2
  ⟨⟨⟨⟨⟨q0.1, q1.1⟩, q2.1⟩, ⟨⟨q3.1, q4.1⟩, q5.1⟩⟩, ⟨⟨⟨q6.1, q7.1⟩, q8.1⟩, ⟨q9.1, q10.1⟩⟩⟩, q10.2⟩
theorem dJ1_charAt_3b067_0 : decode cJ1_charAt_3b067 0 = .ok (.iload_n 1, 1) := fp_hdJ1_charAt_3b067_0.1.1.1.1.1
theorem dJ1_charAt_3b067_1 : decode cJ1_charAt_3b067 1 = .ok (.aload_n 0, 1) := fp_hdJ1_charAt_3b067_0.1.1.1.1.2
theorem dJ1_charAt_3b067_2 : decode cJ1_charAt_3b067 2 = .ok (.arraylength, 1) := fp_hdJ1_charAt_3b067_0.1.1.1.2
theorem dJ1_charAt_3b067_3 : decode cJ1_charAt_3b067 3 = .ok (.invokestatic 9, 3) := fp_hdJ1_charAt_3b067_0.1.1.2.1.1
theorem dJ1_charAt_3b067_6 : decode cJ1_charAt_3b067 6 = .ok (.aload_n 0, 1) := fp_hdJ1_charAt_3b067_0.1.1.2.1.2
theorem dJ1_charAt_3b067_7 : decode cJ1_charAt_3b067 7 = .ok (.iload_n 1, 1) := fp_hdJ1_charAt_3b067_0.1.1.2.2
theorem dJ1_charAt_3b067_8 : decode cJ1_charAt_3b067 8 = .ok (.baload, 1) := fp_hdJ1_charAt_3b067_0.1.2.1.1.1
theorem dJ1_charAt_3b067_9 : decode cJ1_charAt_3b067 9 = .ok (.sipush 255, 3) := fp_hdJ1_charAt_3b067_0.1.2.1.1.2
theorem dJ1_charAt_3b067_12 : decode cJ1_charAt_3b067 12 = .ok (.iand, 1) := fp_hdJ1_charAt_3b067_0.1.2.1.2
theorem dJ1_charAt_3b067_13 : decode cJ1_charAt_3b067 13 = .ok (.i2c, 1) := fp_hdJ1_charAt_3b067_0.1.2.2.1
theorem dJ1_charAt_3b067_14 : decode cJ1_charAt_3b067 14 = .ok (.ireturn, 1) := fp_hdJ1_charAt_3b067_0.1.2.2.2
def fp_scJ2_getChar_3b067_1 : List Nat := 128 :: 146 :: 172 :: []
def fp_scJ2_getChar_3b067_0 : List Nat := 178 :: 0 :: 44 :: 154 :: 0 :: 25 :: 27 :: 155 :: 0 :: 11 :: 27 :: 42 :: 184 :: 0 :: 48 :: 161 :: 0 :: 13 :: 187 :: 0 :: 52 :: 89 :: 18 :: 54 :: 183 :: 0 :: 56 :: 191 :: 27 :: 4 :: 120 :: 60 :: 42 :: 27 :: 132 :: 1 :: 1 :: 51 :: 17 :: 0 :: 255 :: 126 :: 178 :: 0 :: 59 :: 120 :: 42 :: 27 :: 51 :: 17 :: 0 :: 255 :: 126 :: 178 :: 0 :: 63 :: 120 :: fp_scJ2_getChar_3b067_1
theorem fp_bcJ2_getChar_3b067 : bA cJ2_getChar_3b067 0 fp_scJ2_getChar_3b067_0 := show cJ2_getChar_3b067.data.toList.map UInt8.toNat = fp_scJ2_getChar_3b067_0 from by decide +kernel
theorem fp_hdJ2_getChar_3b067_0 : (((((decode cJ2_getChar_3b067 0 = .ok (.getstatic 44, 3) ∧ decode cJ2_getChar_3b067 3 = .ok (.ifCond .ne 25, 3)) ∧ (decode cJ2_getChar_3b067 6 = .ok (.iload_n 1, 1) ∧ decode cJ2_getChar_3b067 7 = .ok (.ifCond .lt 11, 3))) ∧ ((decode cJ2_getChar_3b067 10 = .ok (.iload_n 1, 1) ∧ decode cJ2_getChar_3b067 11 = .ok (.aload_n 0, 1)) ∧ (decode cJ2_getChar_3b067 12 = .ok (.invokestatic 48, 3) ∧ decode cJ2_getChar_3b067 15 = .ok (.if_icmp .lt 13, 3)))) ∧ (((decode cJ2_getChar_3b067 18 = .ok (.new 52, 3) ∧ decode cJ2_getChar_3b067 21 = .ok (.dup, 1)) ∧ (decode cJ2_getChar_3b067 22 = .ok (.ldc 54, 2) ∧ decode cJ2_getChar_3b067 24 = .ok (.invokespecial 56, 3))) ∧ ((decode cJ2_getChar_3b067 27 = .ok (.athrow, 1) ∧ decode cJ2_getChar_3b067 28 = .ok (.iload_n 1, 1)) ∧ (decode cJ2_getChar_3b067 29 = .ok (.iconst 1, 1) ∧ decode cJ2_getChar_3b067 30 = .ok (.ishl, 1))))) ∧ ((((decode cJ2_getChar_3b067 31 = .ok (.istore_n 1, 1) ∧ decode cJ2_getChar_3b067 32 = .ok (.aload_n 0, 1)) ∧ (decode cJ2_getChar_3b067 33 = .ok (.iload_n 1, 1) ∧ decode cJ2_getChar_3b067 34 = .ok (.iinc 1 1, 3))) ∧ ((decode cJ2_getChar_3b067 37 = .ok (.baload, 1) ∧ decode cJ2_getChar_3b067 38 = .ok (.sipush 255, 3)) ∧ (decode cJ2_getChar_3b067 41 = .ok (.iand, 1) ∧ decode cJ2_getChar_3b067 42 = .ok (.getstatic 59, 3)))) ∧ (((decode cJ2_getChar_3b067 45 = .ok (.ishl, 1) ∧ decode cJ2_getChar_3b067 46 = .ok (.aload_n 0, 1)) ∧ (decode cJ2_getChar_3b067 47 = .ok (.iload_n 1, 1) ∧ decode cJ2_getChar_3b067 48 = .ok (.baload, 1))) ∧ ((decode cJ2_getChar_3b067 49 = .ok (.sipush 255, 3) ∧ decode cJ2_getChar_3b067 52 = .ok (.iand, 1)) ∧ (decode cJ2_getChar_3b067 53 = .ok (.getstatic 63, 3) ∧ decode cJ2_getChar_3b067 56 = .ok (.ishl, 1)))))) ∧ bA cJ2_getChar_3b067 57 fp_scJ2_getChar_3b067_1 :=
  have q0 := fp_o178 (v := 44) fp_bcJ2_getChar_3b067 rfl
  have q1 := fp_o154 (v := 25) q0.2 rfl
  have q2 := fp_o27 q1.2
  have q3 := fp_o155 (v := 11) q2.2 rfl
  have q4 := fp_o27 q3.2
  have q5 := fp_o42 q4.2
  have q6 := fp_o184 (v := 48) q5.2 rfl
  have q7 := fp_o161 (v := 13) q6.2 rfl
  have q8 := fp_o187 (v := 52) q7.2 rfl
  have q9 := fp_o89 q8.2
  have q10 := fp_o18 q9.2
  have q11 := fp_o183 (v := 56) q10.2 rfl
  have q12 := fp_o191 q11.2
  have q13 := fp_o27 q12.2
  have q14 := fp_o4 q13.2
  have q15 := fp_o120 q14.2
  have q16 := fp_o60 q15.2
  have q17 := fp_o42 q16.2
  have q18 := fp_o27 q17.2
  have q19 := fp_o132 (v := 1) q18.2 rfl
  have q20 := fp_o51 q19.2
  have q21 := fp_o17 (v := 255) q20.2 rfl
  have q22 := fp_o126 q21.2
  have q23 := fp_o178 (v := 59) q22.2 rfl
  have q24 := fp_o120 q23.2
  have q25 := fp_o42 q24.2
  have q26 := fp_o27 q25.2
  have q27 := fp_o51 q26.2
  have q28 := fp_o17 (v := 255) q27.2 rfl
  have q29 := fp_o126 q28.2
  have q30 := fp_o178 (v := 63) q29.2 rfl
  have q31 := fp_o120 q30.2
  ⟨⟨⟨⟨⟨⟨q0.1, q1.1⟩, ⟨q2.1, q3.1⟩⟩, ⟨⟨q4.1, q5.1⟩, ⟨q6.1, q7.1⟩⟩⟩, ⟨⟨⟨q8.1, q9.1⟩, ⟨q10.1, q11.1⟩⟩, ⟨⟨q12.1, q13.1⟩, ⟨q14.1, q15.1⟩⟩⟩⟩, ⟨⟨⟨⟨q16.1, q17.1⟩, ⟨q18.1, q19.1⟩⟩, ⟨⟨q20.1, q21.1⟩, ⟨q22.1, q23.1⟩⟩⟩, ⟨⟨⟨q24.1, q25.1⟩, ⟨q26.1, q27.1⟩⟩, ⟨⟨q28.1, q29.1⟩, ⟨q30.1, q31.1⟩⟩⟩⟩⟩, q31.2⟩
theorem dJ2_getChar_3b067_0 : decode cJ2_getChar_3b067 0 = .ok (.getstatic 44, 3) := fp_hdJ2_getChar_3b067_0.1.1.1.1.1.1
theorem dJ2_getChar_3b067_3 : decode cJ2_getChar_3b067 3 = .ok (.ifCond .ne 25, 3) := fp_hdJ2_getChar_3b067_0.1.1.1.1.1.2
theorem dJ2_getChar_3b067_6 : decode cJ2_getChar_3b067 6 = .ok (.iload_n 1, 1) := fp_hdJ2_getChar_3b067_0.1.1.1.1.2.1
theorem dJ2_getChar_3b067_7 : decode cJ2_getChar_3b067 7 = .ok (.ifCond .lt 11, 3) := fp_hdJ2_getChar_3b067_0.1.1.1.1.2.2
theorem dJ2_getChar_3b067_10 : decode cJ2_getChar_3b067 10 = .ok (.iload_n 1, 1) := fp_hdJ2_getChar_3b067_0.1.1.1.2.1.1
theorem dJ2_getChar_3b067_11 : decode cJ2_getChar_3b067 11 = .ok (.aload_n 0, 1) := fp_hdJ2_getChar_3b067_0.1.1.1.2.1.2
theorem dJ2_getChar_3b067_12 : decode cJ2_getChar_3b067 12 = .ok (.invokestatic 48, 3) := fp_hdJ2_getChar_3b067_0.1.1.1.2.2.1
theorem dJ2_getChar_3b067_15 : decode cJ2_getChar_3b067 15 = .ok (.if_icmp .lt 13, 3) := fp_hdJ2_getChar_3b067_0.1.1.1.2.2.2
theorem dJ2_getChar_3b067_18 : decode cJ2_getChar_3b067 18 = .ok (.new 52, 3) := fp_hdJ2_getChar_3b067_0.1.1.2.1.1.1
theorem dJ2_getChar_3b067_21 : decode cJ2_getChar_3b067 21 = .ok (.dup, 1) := fp_hdJ2_getChar_3b067_0.1.1.2.1.1.2
theorem dJ2_getChar_3b067_22 : decode cJ2_getChar_3b067 22 = .ok (.ldc 54, 2) := fp_hdJ2_getChar_3b067_0.1.1.2.1.2.1
theorem dJ2_getChar_3b067_24 : decode cJ2_getChar_3b067 24 = .ok (.invokespecial 56, 3) := fp_hdJ2_getChar_3b067_0.1.1.2.1.2.2
theorem dJ2_getChar_3b067_27 : decode cJ2_getChar_3b067 27 = .ok (.athrow, 1) := fp_hdJ2_getChar_3b067_0.1.1.2.2.1.1
theorem dJ2_getChar_3b067_28 : decode cJ2_getChar_3b067 28 = .ok (.iload_n 1, 1) := fp_hdJ2_getChar_3b067_0.1.1.2.2.1.2
theorem dJ2_getChar_3b067_29 : decode cJ2_getChar_3b067 29 = .ok (.iconst 1, 1) := fp_hdJ2_getChar_3b067_0.1.1.2.2.2.1
theorem dJ2_getChar_3b067_30 : decode cJ2_getChar_3b067 30 = .ok (.ishl, 1) := fp_hdJ2_getChar_3b067_0.1.1.2.2.2.2
theorem dJ2_getChar_3b067_31 : decode cJ2_getChar_3b067 31 = .ok (.istore_n 1, 1) := fp_hdJ2_getChar_3b067_0.1.2.1.1.1.1
theorem dJ2_getChar_3b067_32 : decode cJ2_getChar_3b067 32 = .ok (.aload_n 0, 1) := fp_hdJ2_getChar_3b067_0.1.2.1.1.1.2
theorem dJ2_getChar_3b067_33 : decode cJ2_getChar_3b067 33 = .ok (.iload_n 1, 1) := fp_hdJ2_getChar_3b067_0.1.2.1.1.2.1
theorem dJ2_getChar_3b067_34 : decode cJ2_getChar_3b067 34 = .ok (.iinc 1 1, 3) := fp_hdJ2_getChar_3b067_0.1.2.1.1.2.2
theorem dJ2_getChar_3b067_37 : decode cJ2_getChar_3b067 37 = .ok (.baload, 1) := fp_hdJ2_getChar_3b067_0.1.2.1.2.1.1
theorem dJ2_getChar_3b067_38 : decode cJ2_getChar_3b067 38 = .ok (.sipush 255, 3) := fp_hdJ2_getChar_3b067_0.1.2.1.2.1.2
theorem dJ2_getChar_3b067_41 : decode cJ2_getChar_3b067 41 = .ok (.iand, 1) := fp_hdJ2_getChar_3b067_0.1.2.1.2.2.1
theorem dJ2_getChar_3b067_42 : decode cJ2_getChar_3b067 42 = .ok (.getstatic 59, 3) := fp_hdJ2_getChar_3b067_0.1.2.1.2.2.2
theorem dJ2_getChar_3b067_45 : decode cJ2_getChar_3b067 45 = .ok (.ishl, 1) := fp_hdJ2_getChar_3b067_0.1.2.2.1.1.1
theorem dJ2_getChar_3b067_46 : decode cJ2_getChar_3b067 46 = .ok (.aload_n 0, 1) := fp_hdJ2_getChar_3b067_0.1.2.2.1.1.2
theorem dJ2_getChar_3b067_47 : decode cJ2_getChar_3b067 47 = .ok (.iload_n 1, 1) := fp_hdJ2_getChar_3b067_0.1.2.2.1.2.1
theorem dJ2_getChar_3b067_48 : decode cJ2_getChar_3b067 48 = .ok (.baload, 1) := fp_hdJ2_getChar_3b067_0.1.2.2.1.2.2
theorem dJ2_getChar_3b067_49 : decode cJ2_getChar_3b067 49 = .ok (.sipush 255, 3) := fp_hdJ2_getChar_3b067_0.1.2.2.2.1.1
theorem dJ2_getChar_3b067_52 : decode cJ2_getChar_3b067 52 = .ok (.iand, 1) := fp_hdJ2_getChar_3b067_0.1.2.2.2.1.2
theorem dJ2_getChar_3b067_53 : decode cJ2_getChar_3b067 53 = .ok (.getstatic 63, 3) := fp_hdJ2_getChar_3b067_0.1.2.2.2.2.1
theorem dJ2_getChar_3b067_56 : decode cJ2_getChar_3b067 56 = .ok (.ishl, 1) := fp_hdJ2_getChar_3b067_0.1.2.2.2.2.2
theorem fp_hdJ2_getChar_3b067_57 : ((decode cJ2_getChar_3b067 57 = .ok (.ior, 1) ∧ decode cJ2_getChar_3b067 58 = .ok (.i2c, 1)) ∧ decode cJ2_getChar_3b067 59 = .ok (.ireturn, 1)) ∧ bA cJ2_getChar_3b067 60 [] :=
  have q0 := fp_o128 fp_hdJ2_getChar_3b067_0.2
  have q1 := fp_o146 q0.2
  have q2 := fp_o172 q1.2
  ⟨⟨⟨q0.1, q1.1⟩, q2.1⟩, q2.2⟩
theorem dJ2_getChar_3b067_57 : decode cJ2_getChar_3b067 57 = .ok (.ior, 1) := fp_hdJ2_getChar_3b067_57.1.1.1
theorem dJ2_getChar_3b067_58 : decode cJ2_getChar_3b067 58 = .ok (.i2c, 1) := fp_hdJ2_getChar_3b067_57.1.1.2
theorem dJ2_getChar_3b067_59 : decode cJ2_getChar_3b067 59 = .ok (.ireturn, 1) := fp_hdJ2_getChar_3b067_57.1.2
def fp_scJ2_length_9d52b_0 : List Nat := 42 :: 190 :: 4 :: 122 :: 172 :: []
theorem fp_bcJ2_length_9d52b : bA cJ2_length_9d52b 0 fp_scJ2_length_9d52b_0 := show cJ2_length_9d52b.data.toList.map UInt8.toNat = fp_scJ2_length_9d52b_0 from by decide +kernel
theorem fp_hdJ2_length_9d52b_0 : (((decode cJ2_length_9d52b 0 = .ok (.aload_n 0, 1) ∧ decode cJ2_length_9d52b 1 = .ok (.arraylength, 1)) ∧ decode cJ2_length_9d52b 2 = .ok (.iconst 1, 1)) ∧ (decode cJ2_length_9d52b 3 = .ok (.ishr, 1) ∧ decode cJ2_length_9d52b 4 = .ok (.ireturn, 1))) ∧ bA cJ2_length_9d52b 5 [] :=
  have q0 := fp_o42 fp_bcJ2_length_9d52b
  have q1 := fp_o190 q0.2
  have q2 := fp_o4 q1.2
  have q3 := fp_o122 q2.2
  have q4 := fp_o172 q3.2
  ⟨⟨⟨⟨q0.1, q1.1⟩, q2.1⟩, ⟨q3.1, q4.1⟩⟩, q4.2⟩
theorem dJ2_length_9d52b_0 : decode cJ2_length_9d52b 0 = .ok (.aload_n 0, 1) := fp_hdJ2_length_9d52b_0.1.1.1.1
theorem dJ2_length_9d52b_1 : decode cJ2_length_9d52b 1 = .ok (.arraylength, 1) := fp_hdJ2_length_9d52b_0.1.1.1.2
theorem dJ2_length_9d52b_2 : decode cJ2_length_9d52b 2 = .ok (.iconst 1, 1) := fp_hdJ2_length_9d52b_0.1.1.2
theorem dJ2_length_9d52b_3 : decode cJ2_length_9d52b 3 = .ok (.ishr, 1) := fp_hdJ2_length_9d52b_0.1.2.1
theorem dJ2_length_9d52b_4 : decode cJ2_length_9d52b 4 = .ok (.ireturn, 1) := fp_hdJ2_length_9d52b_0.1.2.2
def fp_scJ2_charAt_3b067_0 : List Nat := 27 :: 42 :: 184 :: 0 :: 67 :: 42 :: 27 :: 184 :: 0 :: 71 :: 172 :: []
theorem fp_bcJ2_charAt_3b067 : bA cJ2_charAt_3b067 0 fp_scJ2_charAt_3b067_0 := show cJ2_charAt_3b067.data.toList.map UInt8.toNat = fp_scJ2_charAt_3b067_0 from by decide +kernel
theorem fp_hdJ2_charAt_3b067_0 : (((decode cJ2_charAt_3b067 0 = .ok (.iload_n 1, 1) ∧ decode cJ2_charAt_3b067 1 = .ok (.aload_n 0, 1)) ∧ (decode cJ2_charAt_3b067 2 = .ok (.invokestatic 67, 3) ∧ decode cJ2_charAt_3b067 5 = .ok (.aload_n 0, 1))) ∧ ((decode cJ2_charAt_3b067 6 = .ok (.iload_n 1, 1) ∧ decode cJ2_charAt_3b067 7 = .ok (.invokestatic 71, 3)) ∧ decode cJ2_charAt_3b067 10 = .ok (.ireturn, 1))) ∧ bA cJ2_charAt_3b067 11 [] :=
  have q0 := fp_o27 fp_bcJ2_charAt_3b067
  have q1 := fp_o42 q0.2
  have q2 := fp_o184 (v := 67) q1.2 rfl
  have q3 := fp_o42 q2.2
  have q4 := fp_o27 q3.2
  have q5 := fp_o184 (v := 71) q4.2 rfl
  have q6 := fp_o172 q5.2
  ⟨⟨⟨⟨q0.1, q1.1⟩, ⟨q2.1, q3.1⟩⟩, ⟨⟨q4.1, q5.1⟩, q6.1⟩⟩, q6.2⟩
theorem dJ2_charAt_3b067_0 : decode cJ2_charAt_3b067 0 = .ok (.iload_n 1, 1) := fp_hdJ2_charAt_3b067_0.1.1.1.1
theorem dJ2_charAt_3b067_1 : decode cJ2_charAt_3b067 1 = .ok (.aload_n 0, 1) := fp_hdJ2_charAt_3b067_0.1.1.1.2
theorem dJ2_charAt_3b067_2 : decode cJ2_charAt_3b067 2 = .ok (.invokestatic 67, 3) := fp_hdJ2_charAt_3b067_0.1.1.2.1
theorem dJ2_charAt_3b067_5 : decode cJ2_charAt_3b067 5 = .ok (.aload_n 0, 1) := fp_hdJ2_charAt_3b067_0.1.1.2.2
theorem dJ2_charAt_3b067_6 : decode cJ2_charAt_3b067 6 = .ok (.iload_n 1, 1) := fp_hdJ2_charAt_3b067_0.1.2.1.1
theorem dJ2_charAt_3b067_7 : decode cJ2_charAt_3b067 7 = .ok (.invokestatic 71, 3) := fp_hdJ2_charAt_3b067_0.1.2.1.2
theorem dJ2_charAt_3b067_10 : decode cJ2_charAt_3b067 10 = .ok (.ireturn, 1) := fp_hdJ2_charAt_3b067_0.1.2.2
def fp_scJ2_checkIndex_2214a_0 : List Nat := 26 :: 43 :: 184 :: 0 :: 48 :: 184 :: 1 :: 158 :: 177 :: []
theorem fp_bcJ2_checkIndex_2214a : bA cJ2_checkIndex_2214a 0 fp_scJ2_checkIndex_2214a_0 := show cJ2_checkIndex_2214a.data.toList.map UInt8.toNat = fp_scJ2_checkIndex_2214a_0 from by decide +kernel
theorem fp_hdJ2_checkIndex_2214a_0 : (((decode cJ2_checkIndex_2214a 0 = .ok (.iload_n 0, 1) ∧ decode cJ2_checkIndex_2214a 1 = .ok (.aload_n 1, 1)) ∧ decode cJ2_checkIndex_2214a 2 = .ok (.invokestatic 48, 3)) ∧ (decode cJ2_checkIndex_2214a 5 = .ok (.invokestatic 414, 3) ∧ decode cJ2_checkIndex_2214a 8 = .ok (.return_, 1))) ∧ bA cJ2_checkIndex_2214a 9 [] :=
  have q0 := fp_o26 fp_bcJ2_checkIndex_2214a
  have q1 := fp_o43 q0.2
  have q2 := fp_o184 (v := 48) q1.2 rfl
  have q3 := fp_o184 (v := 414) q2.2 rfl
  have q4 := fp_o177 q3.2
  ⟨⟨⟨⟨q0.1, q1.1⟩, q2.1⟩, ⟨q3.1, q4.1⟩⟩, q4.2⟩
theorem dJ2_checkIndex_2214a_0 : decode cJ2_checkIndex_2214a 0 = .ok (.iload_n 0, 1) := fp_hdJ2_checkIndex_2214a_0.1.1.1.1
theorem dJ2_checkIndex_2214a_1 : decode cJ2_checkIndex_2214a 1 = .ok (.aload_n 1, 1) := fp_hdJ2_checkIndex_2214a_0.1.1.1.2
theorem dJ2_checkIndex_2214a_2 : decode cJ2_checkIndex_2214a 2 = .ok (.invokestatic 48, 3) := fp_hdJ2_checkIndex_2214a_0.1.1.2
theorem dJ2_checkIndex_2214a_5 : decode cJ2_checkIndex_2214a 5 = .ok (.invokestatic 414, 3) := fp_hdJ2_checkIndex_2214a_0.1.2.1
theorem dJ2_checkIndex_2214a_8 : decode cJ2_checkIndex_2214a 8 = .ok (.return_, 1) := fp_hdJ2_checkIndex_2214a_0.1.2.2
def fp_scJ7_fill_d0a16_0 : List Nat := 3 :: 62 :: 42 :: 190 :: 54 :: 4 :: 29 :: 21 :: 4 :: 162 :: 0 :: 13 :: 42 :: 29 :: 31 :: 80 :: 132 :: 3 :: 1 :: 167 :: 255 :: 243 :: 177 :: []
theorem fp_bcJ7_fill_d0a16 : bA cJ7_fill_d0a16 0 fp_scJ7_fill_d0a16_0 := show cJ7_fill_d0a16.data.toList.map UInt8.toNat = fp_scJ7_fill_d0a16_0 from by decide +kernel
theorem fp_hdJ7_fill_d0a16_0 : ((((decode cJ7_fill_d0a16 0 = .ok (.iconst 0, 1) ∧ decode cJ7_fill_d0a16 1 = .ok (.istore_n 3, 1)) ∧ (decode cJ7_fill_d0a16 2 = .ok (.aload_n 0, 1) ∧ decode cJ7_fill_d0a16 3 = .ok (.arraylength, 1))) ∧ ((decode cJ7_fill_d0a16 4 = .ok (.istore 4, 2) ∧ decode cJ7_fill_d0a16 6 = .ok (.iload_n 3, 1)) ∧ (decode cJ7_fill_d0a16 7 = .ok (.iload 4, 2) ∧ decode cJ7_fill_d0a16 9 = .ok (.if_icmp .ge 13, 3)))) ∧ (((decode cJ7_fill_d0a16 12 = .ok (.aload_n 0, 1) ∧ decode cJ7_fill_d0a16 13 = .ok (.iload_n 3, 1)) ∧ (decode cJ7_fill_d0a16 14 = .ok (.lload_n 1, 1) ∧ decode cJ7_fill_d0a16 15 = .ok (.lastore, 1))) ∧ ((decode cJ7_fill_d0a16 16 = .ok (.iinc 3 1, 3) ∧ decode cJ7_fill_d0a16 19 = .ok (.goto (-13), 3)) ∧ decode cJ7_fill_d0a16 22 = .ok (.return_, 1)))) ∧ bA cJ7_fill_d0a16 23 [] :=
  have q0 := fp_o3 fp_bcJ7_fill_d0a16
  have q1 := fp_o62 q0.2
  have q2 := fp_o42 q1.2
  have q3 := fp_o190 q2.2
  have q4 := fp_o54 q3.2
  have q5 := fp_o29 q4.2
  have q6 := fp_o21 q5.2
  have q7 := fp_o162 (v := 13) q6.2 rfl
  have q8 := fp_o42 q7.2
  have q9 := fp_o29 q8.2
  have q10 := fp_o31 q9.2
  have q11 := fp_o80 q10.2
  have q12 := fp_o132 (v := 1) q11.2 rfl
  have q13 := fp_o167 (v := (-13)) q12.2 rfl
  have q14 := fp_o177 q13.2
  ⟨⟨⟨⟨⟨q0.1, q1.1⟩, ⟨q2.1, q3.1⟩⟩, ⟨⟨q4.1, q5.1⟩, ⟨q6.1, q7.1⟩⟩⟩, ⟨⟨⟨q8.1, q9.1⟩, ⟨q10.1, q11.1⟩⟩, ⟨⟨q12.1, q13.1⟩, q14.1⟩⟩⟩, q14.2⟩
theorem dJ7_fill_d0a16_0 : decode cJ7_fill_d0a16 0 = .ok (.iconst 0, 1) := fp_hdJ7_fill_d0a16_0.1.1.1.1.1
theorem dJ7_fill_d0a16_1 : decode cJ7_fill_d0a16 1 = .ok (.istore_n 3, 1) := fp_hdJ7_fill_d0a16_0.1.1.1.1.2
theorem dJ7_fill_d0a16_2 : decode cJ7_fill_d0a16 2 = .ok (.aload_n 0, 1) := fp_hdJ7_fill_d0a16_0.1.1.1.2.1
theorem dJ7_fill_d0a16_3 : decode cJ7_fill_d0a16 3 = .ok (.arraylength, 1) := fp_hdJ7_fill_d0a16_0.1.1.1.2.2
theorem dJ7_fill_d0a16_4 : decode cJ7_fill_d0a16 4 = .ok (.istore 4, 2) := fp_hdJ7_fill_d0a16_0.1.1.2.1.1
theorem dJ7_fill_d0a16_6 : decode cJ7_fill_d0a16 6 = .ok (.iload_n 3, 1) := fp_hdJ7_fill_d0a16_0.1.1.2.1.2
theorem dJ7_fill_d0a16_7 : decode cJ7_fill_d0a16 7 = .ok (.iload 4, 2) := fp_hdJ7_fill_d0a16_0.1.1.2.2.1
theorem dJ7_fill_d0a16_9 : decode cJ7_fill_d0a16 9 = .ok (.if_icmp .ge 13, 3) := fp_hdJ7_fill_d0a16_0.1.1.2.2.2
theorem dJ7_fill_d0a16_12 : decode cJ7_fill_d0a16 12 = .ok (.aload_n 0, 1) := fp_hdJ7_fill_d0a16_0.1.2.1.1.1
theorem dJ7_fill_d0a16_13 : decode cJ7_fill_d0a16 13 = .ok (.iload_n 3, 1) := fp_hdJ7_fill_d0a16_0.1.2.1.1.2
theorem dJ7_fill_d0a16_14 : decode cJ7_fill_d0a16 14 = .ok (.lload_n 1, 1) := fp_hdJ7_fill_d0a16_0.1.2.1.2.1
theorem dJ7_fill_d0a16_15 : decode cJ7_fill_d0a16 15 = .ok (.lastore, 1) := fp_hdJ7_fill_d0a16_0.1.2.1.2.2
theorem dJ7_fill_d0a16_16 : decode cJ7_fill_d0a16 16 = .ok (.iinc 3 1, 3) := fp_hdJ7_fill_d0a16_0.1.2.2.1.1
theorem dJ7_fill_d0a16_19 : decode cJ7_fill_d0a16 19 = .ok (.goto (-13), 3) := fp_hdJ7_fill_d0a16_0.1.2.2.1.2
theorem dJ7_fill_d0a16_22 : decode cJ7_fill_d0a16 22 = .ok (.return_, 1) := fp_hdJ7_fill_d0a16_0.1.2.2.2
def fp_scJ7_fill_53178_0 : List Nat := 3 :: 61 :: 42 :: 190 :: 62 :: 28 :: 29 :: 162 :: 0 :: 13 :: 42 :: 28 :: 27 :: 79 :: 132 :: 2 :: 1 :: 167 :: 255 :: 244 :: 177 :: []
theorem fp_bcJ7_fill_53178 : bA cJ7_fill_53178 0 fp_scJ7_fill_53178_0 := show cJ7_fill_53178.data.toList.map UInt8.toNat = fp_scJ7_fill_53178_0 from by decide +kernel
theorem fp_hdJ7_fill_53178_0 : ((((decode cJ7_fill_53178 0 = .ok (.iconst 0, 1) ∧ decode cJ7_fill_53178 1 = .ok (.istore_n 2, 1)) ∧ (decode cJ7_fill_53178 2 = .ok (.aload_n 0, 1) ∧ decode cJ7_fill_53178 3 = .ok (.arraylength, 1))) ∧ ((decode cJ7_fill_53178 4 = .ok (.istore_n 3, 1) ∧ decode cJ7_fill_53178 5 = .ok (.iload_n 2, 1)) ∧ (decode cJ7_fill_53178 6 = .ok (.iload_n 3, 1) ∧ decode cJ7_fill_53178 7 = .ok (.if_icmp .ge 13, 3)))) ∧ (((decode cJ7_fill_53178 10 = .ok (.aload_n 0, 1) ∧ decode cJ7_fill_53178 11 = .ok (.iload_n 2, 1)) ∧ (decode cJ7_fill_53178 12 = .ok (.iload_n 1, 1) ∧ decode cJ7_fill_53178 13 = .ok (.iastore, 1))) ∧ ((decode cJ7_fill_53178 14 = .ok (.iinc 2 1, 3) ∧ decode cJ7_fill_53178 17 = .ok (.goto (-12), 3)) ∧ decode cJ7_fill_53178 20 = .ok (.return_, 1)))) ∧ bA cJ7_fill_53178 21 [] :=
  have q0 := fp_o3 fp_bcJ7_fill_53178
  have q1 := fp_o61 q0.2
  have q2 := fp_o42 q1.2
  have q3 := fp_o190 q2.2
  have q4 := fp_o62 q3.2
  have q5 := fp_o28 q4.2
  have q6 := fp_o29 q5.2
  have q7 := fp_o162 (v := 13) q6.2 rfl
  have q8 := fp_o42 q7.2
  have q9 := fp_o28 q8.2
  have q10 := fp_o27 q9.2
  have q11 := fp_o79 q10.2
  have q12 := fp_o132 (v := 1) q11.2 rfl
  have q13 := fp_o167 (v := (-12)) q12.2 rfl
  have q14 := fp_o177 q13.2
  ⟨⟨⟨⟨⟨q0.1, q1.1⟩, ⟨q2.1, q3.1⟩⟩, ⟨⟨q4.1, q5.1⟩, ⟨q6.1, q7.1⟩⟩⟩, ⟨⟨⟨q8.1, q9.1⟩, ⟨q10.1, q11.1⟩⟩, ⟨⟨q12.1, q13.1⟩, q14.1⟩⟩⟩, q14.2⟩
theorem dJ7_fill_53178_0 : decode cJ7_fill_53178 0 = .ok (.iconst 0, 1) := fp_hdJ7_fill_53178_0.1.1.1.1.1
theorem dJ7_fill_53178_1 : decode cJ7_fill_53178 1 = .ok (.istore_n 2, 1) := fp_hdJ7_fill_53178_0.1.1.1.1.2
theorem dJ7_fill_53178_2 : decode cJ7_fill_53178 2 = .ok (.aload_n 0, 1) := fp_hdJ7_fill_53178_0.1.1.1.2.1
theorem dJ7_fill_53178_3 : decode cJ7_fill_53178 3 = .ok (.arraylength, 1) := fp_hdJ7_fill_53178_0.1.1.1.2.2
theorem dJ7_fill_53178_4 : decode cJ7_fill_53178 4 = .ok (.istore_n 3, 1) := fp_hdJ7_fill_53178_0.1.1.2.1.1
theorem dJ7_fill_53178_5 : decode cJ7_fill_53178 5 = .ok (.iload_n 2, 1) := fp_hdJ7_fill_53178_0.1.1.2.1.2
theorem dJ7_fill_53178_6 : decode cJ7_fill_53178 6 = .ok (.iload_n 3, 1) := fp_hdJ7_fill_53178_0.1.1.2.2.1
theorem dJ7_fill_53178_7 : decode cJ7_fill_53178 7 = .ok (.if_icmp .ge 13, 3) := fp_hdJ7_fill_53178_0.1.1.2.2.2
theorem dJ7_fill_53178_10 : decode cJ7_fill_53178 10 = .ok (.aload_n 0, 1) := fp_hdJ7_fill_53178_0.1.2.1.1.1
theorem dJ7_fill_53178_11 : decode cJ7_fill_53178 11 = .ok (.iload_n 2, 1) := fp_hdJ7_fill_53178_0.1.2.1.1.2
theorem dJ7_fill_53178_12 : decode cJ7_fill_53178 12 = .ok (.iload_n 1, 1) := fp_hdJ7_fill_53178_0.1.2.1.2.1
theorem dJ7_fill_53178_13 : decode cJ7_fill_53178 13 = .ok (.iastore, 1) := fp_hdJ7_fill_53178_0.1.2.1.2.2
theorem dJ7_fill_53178_14 : decode cJ7_fill_53178 14 = .ok (.iinc 2 1, 3) := fp_hdJ7_fill_53178_0.1.2.2.1.1
theorem dJ7_fill_53178_17 : decode cJ7_fill_53178 17 = .ok (.goto (-12), 3) := fp_hdJ7_fill_53178_0.1.2.2.1.2
theorem dJ7_fill_53178_20 : decode cJ7_fill_53178 20 = .ok (.return_, 1) := fp_hdJ7_fill_53178_0.1.2.2.2
def fp_scJ3_checkIndex_8e157_0 : List Nat := 26 :: 155 :: 0 :: 8 :: 26 :: 27 :: 161 :: 0 :: 10 :: 44 :: 26 :: 27 :: 184 :: 0 :: 95 :: 191 :: 26 :: 172 :: []
theorem fp_bcJ3_checkIndex_8e157 : bA cJ3_checkIndex_8e157 0 fp_scJ3_checkIndex_8e157_0 := show cJ3_checkIndex_8e157.data.toList.map UInt8.toNat = fp_scJ3_checkIndex_8e157_0 from by decide +kernel
theorem fp_hdJ3_checkIndex_8e157_0 : ((((decode cJ3_checkIndex_8e157 0 = .ok (.iload_n 0, 1) ∧ decode cJ3_checkIndex_8e157 1 = .ok (.ifCond .lt 8, 3)) ∧ decode cJ3_checkIndex_8e157 4 = .ok (.iload_n 0, 1)) ∧ ((decode cJ3_checkIndex_8e157 5 = .ok (.iload_n 1, 1) ∧ decode cJ3_checkIndex_8e157 6 = .ok (.if_icmp .lt 10, 3)) ∧ decode cJ3_checkIndex_8e157 9 = .ok (.aload_n 2, 1))) ∧ (((decode cJ3_checkIndex_8e157 10 = .ok (.iload_n 0, 1) ∧ decode cJ3_checkIndex_8e157 11 = .ok (.iload_n 1, 1)) ∧ decode cJ3_checkIndex_8e157 12 = .ok (.invokestatic 95, 3)) ∧ ((decode cJ3_checkIndex_8e157 15 = .ok (.athrow, 1) ∧ decode cJ3_checkIndex_8e157 16 = .ok (.iload_n 0, 1)) ∧ decode cJ3_checkIndex_8e157 17 = .ok (.ireturn, 1)))) ∧ bA cJ3_checkIndex_8e157 18 [] :=
  have q0 := fp_o26 fp_bcJ3_checkIndex_8e157
  have q1 := fp_o155 (v := 8) q0.2 rfl
  have q2 := fp_o26 q1.2
  have q3 := fp_o27 q2.2
  have q4 := fp_o161 (v := 10) q3.2 rfl
  have q5 := fp_o44 q4.2
  have q6 := fp_o26 q5.2
  have q7 := fp_o27 q6.2
  have q8 := fp_o184 (v := 95) q7.2 rfl
  have q9 := fp_o191 q8.2
  have q10 := fp_o26 q9.2
  have q11 := fp_o172 q10.2
  ⟨⟨⟨⟨⟨q0.1, q1.1⟩, q2.1⟩, ⟨⟨q3.1, q4.1⟩, q5.1⟩⟩, ⟨⟨⟨q6.1, q7.1⟩, q8.1⟩, ⟨⟨q9.1, q10.1⟩, q11.1⟩⟩⟩, q11.2⟩
theorem dJ3_checkIndex_8e157_0 : decode cJ3_checkIndex_8e157 0 = .ok (.iload_n 0, 1) := fp_hdJ3_checkIndex_8e157_0.1.1.1.1.1
theorem dJ3_checkIndex_8e157_1 : decode cJ3_checkIndex_8e157 1 = .ok (.ifCond .lt 8, 3) := fp_hdJ3_checkIndex_8e157_0.1.1.1.1.2
theorem dJ3_checkIndex_8e157_4 : decode cJ3_checkIndex_8e157 4 = .ok (.iload_n 0, 1) := fp_hdJ3_checkIndex_8e157_0.1.1.1.2
theorem dJ3_checkIndex_8e157_5 : decode cJ3_checkIndex_8e157 5 = .ok (.iload_n 1, 1) := fp_hdJ3_checkIndex_8e157_0.1.1.2.1.1
theorem dJ3_checkIndex_8e157_6 : decode cJ3_checkIndex_8e157 6 = .ok (.if_icmp .lt 10, 3) := fp_hdJ3_checkIndex_8e157_0.1.1.2.1.2
theorem dJ3_checkIndex_8e157_9 : decode cJ3_checkIndex_8e157 9 = .ok (.aload_n 2, 1) := fp_hdJ3_checkIndex_8e157_0.1.1.2.2
theorem dJ3_checkIndex_8e157_10 : decode cJ3_checkIndex_8e157 10 = .ok (.iload_n 0, 1) := fp_hdJ3_checkIndex_8e157_0.1.2.1.1.1
theorem dJ3_checkIndex_8e157_11 : decode cJ3_checkIndex_8e157 11 = .ok (.iload_n 1, 1) := fp_hdJ3_checkIndex_8e157_0.1.2.1.1.2
theorem dJ3_checkIndex_8e157_12 : decode cJ3_checkIndex_8e157 12 = .ok (.invokestatic 95, 3) := fp_hdJ3_checkIndex_8e157_0.1.2.1.2
theorem dJ3_checkIndex_8e157_15 : decode cJ3_checkIndex_8e157 15 = .ok (.athrow, 1) := fp_hdJ3_checkIndex_8e157_0.1.2.2.1.1
theorem dJ3_checkIndex_8e157_16 : decode cJ3_checkIndex_8e157 16 = .ok (.iload_n 0, 1) := fp_hdJ3_checkIndex_8e157_0.1.2.2.1.2
theorem dJ3_checkIndex_8e157_17 : decode cJ3_checkIndex_8e157 17 = .ok (.ireturn, 1) := fp_hdJ3_checkIndex_8e157_0.1.2.2.2
