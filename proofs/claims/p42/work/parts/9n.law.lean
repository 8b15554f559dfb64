/-! BY PROGRAM (tools/mklaw2.py): what holds between the law's calls; each call of the law -/
def LI (M : fp_Mem) : Prop := ∃ (tp : List Int) (fc fm : Int) (g : aGd) (pg : aPg) (vs : List aVt) (nt : List Int) (im : aIm) (sh : aSh) (tn : Int), CS M tp fc g pg vs nt im sh tn ∧ MS M tp fm g pg vs nt im sh tn ∧ OK g pg vs nt im sh ∧ rdI M ∧ mrI M
theorem frC.rd {M N : fp_Mem} (e : frC M N) (h : rdI M) : rdI N := by
  unfold rdI at *
  rw [e 4 (by omega), e 5 (by omega), e 6 (by omega), e 11 (by omega)]; exact h
theorem frC.mr {M N : fp_Mem} (e : frC M N) (h : mrI M) : mrI N := by
  unfold mrI at *
  rw [e 183 (by omega), e 184 (by omega), e 185 (by omega)]; exact h
theorem frD.rd {M N : fp_Mem} (e : frD M N) (h : rdI M) : rdI N := by
  unfold rdI at *
  rw [e 4 (by omega), e 5 (by omega), e 6 (by omega), e 11 (by omega)]; exact h
theorem frD.mr {M N : fp_Mem} (e : frD M N) (h : mrI M) : mrI N := by
  unfold mrI at *
  rw [e 183 (by omega), e 184 (by omega), e 185 (by omega)]; exact h
theorem frD.cs {M N : fp_Mem} {tp : List Int} {fl : Int} {g : aGd} {pg : aPg} {vs : List aVt} {nt : List Int} {im : aIm} {sh : aSh} {tn : Int} (e : frD M N) (h : CS M tp fl g pg vs nt im sh tn) : CS N tp fl g pg vs nt im sh tn := h.kept (fun a ha => e a (by omega))
theorem ms_of {M N : fp_Mem} {tp : List Int} {fl : Int} {g : aGd} {pg : aPg} {vs : List aVt} {nt : List Int} {im : aIm} {sh : aSh} {tn : Int} (e : ∀ c, 177 ≤ c → N c = M c) (h : MS M tp fl g pg vs nt im sh tn) : MS N tp fl g pg vs nt im sh tn := by
  obtain ⟨h1, h2, h3, h4, h5, h6, h7, h8⟩ := h
  have e177 := e 177 (by omega)
  have e178 := e 178 (by omega)
  have e179 := e 179 (by omega)
  have e180 := e 180 (by omega)
  have e181 := e 181 (by omega)
  have e186 := e 186 (by omega)
  have e187 := e 187 (by omega)
  have e188 := e 188 (by omega)
  have e199 := e 199 (by omega)
  have e200 := e 200 (by omega)
  have e201 := e 201 (by omega)
  have e202 := e 202 (by omega)
  refine ⟨?_, ?_, ?_, ?_, ?_, ?_, ?_, ?_⟩
  · unfold msA at *; rw [e177, e186]; exact h1
  · unfold mdIs md_ok at *; rw [e177, e179, e180, e181]; exact h2
  · unfold mpIs at *; rw [e178]; exact h3
  · rw [e178]; exact h4
  · rw [e178]; exact h5
  · unfold msI at *; rw [e178, e199]; exact h6
  · unfold msS at *; rw [e200, e201, e202]; exact h7
  · unfold msK at *; rw [e187, e188]; exact h8
theorem mr_of {M N : fp_Mem} (e : ∀ c, 177 ≤ c → N c = M c) (h : mrI M) : mrI N := by
  unfold mrI at *
  rw [e 183 (by omega), e 184 (by omega), e 185 (by omega)]; exact h
theorem rd_of {M N : fp_Mem} (e : ∀ c, c < 177 → N c = M c) (h : rdI M) : rdI N := by
  unfold rdI at *
  rw [e 4 (by omega), e 5 (by omega), e 6 (by omega), e 11 (by omega)]; exact h
theorem cs_of {M N : fp_Mem} {tp : List Int} {fl : Int} {g : aGd} {pg : aPg} {vs : List aVt} {nt : List Int} {im : aIm} {sh : aSh} {tn : Int} (e : ∀ c, c < 177 → N c = M c) (h : CS M tp fl g pg vs nt im sh tn) : CS N tp fl g pg vs nt im sh tn := h.kept (fun a ha => e a (by omega))
theorem LI0 : LI fp_ini := by
  refine ⟨_, _, _, _, _, _, _, _, _, _, s0_cs, s0_ms, s0_ok, ⟨fun i _ _ => ?_, ?_, fun i _ _ => ?_, fun p _ _ => ?_, fun x _ _ => ?_, fun i _ _ => ?_⟩, fun i _ _ => ?_, fun i _ _ => ?_, fun x _ _ => ?_⟩
  all_goals (first | rw [s0_row (by decide +kernel)] | skip)
  all_goals omega
section LAW
variable {l : Launch} {G : fp_WG} {nm : String} {i : Int}
theorem law_feed {M : fp_Mem} (hI : LI M) (h0 : 0 ≤ i) (h7 : i + 7 ≤ (G.2.2.2.2.2.1 : Int)) (hL : G.2.2.2.2.2.1 ≤ 2147483647) (K : ∀ M', LI M' → fp_SP l G 2048 203 203 5193 203 5193 203 (kL nm) 1497 [some (.ref G.1), some (rV G 0), some (rV G 177), some (iV i)] [] (fp_sx M') (fun r _ => r = some (iV 1))) : fp_SP l G 2048 203 203 5193 203 5193 203 (kL nm) 212 [some (.ref G.1), some (rV G 0), some (rV G 177), some (iV i)] [] (fp_sx M) (fun r _ => r = some (iV 1)) := by
  obtain ⟨tp, fc, fm, g, pg, vs, nt, im, sh, tn, c, m, o, r, k⟩ := hI
  refine SP.aload_n (pc' := 213) dL_law_212 rfl rfl rfl ?_
  refine SP.aload_n (pc' := 214) dL_law_213 rfl rfl rfl ?_
  refine SP.iload_n (pc' := 215) dL_law_214 rfl rfl rfl ?_
  refine SP.iconst (pc' := 216) dL_law_215 rfl ?_
  refine SP.iadd (pc' := 217) dL_law_216 rfl ?_
  refine SP.sld (pc' := 218) dL_law_217 rfl (by omega) (by omega) hL ?_
  refine SP.i2l (pc' := 219) dL_law_218 rfl (fp_rng_of _) ?_
  refine SP.bipush (pc' := 221) dL_law_219 rfl rfl ?_
  refine SP.lshl (pc' := 222) dL_law_221 rfl (fp_ofj _).symm ?_
  refine SP.aload_n (pc' := 223) dL_law_222 rfl rfl rfl ?_
  refine SP.iload_n (pc' := 224) dL_law_223 rfl rfl rfl ?_
  refine SP.iconst (pc' := 225) dL_law_224 rfl ?_
  refine SP.iadd (pc' := 226) dL_law_225 rfl ?_
  refine SP.sld (pc' := 227) dL_law_226 rfl (by omega) (by omega) hL ?_
  refine SP.i2l (pc' := 228) dL_law_227 rfl (fp_rng_of _) ?_
  refine SP.ldc2 (v := 4294967295) (pc' := 231) dL_law_228 rfl lL_13 (by decide) ?_
  refine SP.land (pc' := 232) dL_law_231 rfl (fp_ofj _).symm ?_
  refine SP.lor (pc' := 233) dL_law_232 rfl (fp_ofj _).symm ?_
  refine SP.opI (pc' := 236) dL_law_233 rfl cL_15 (cc_feed c (fp_lng_of _)) rfl rfl (by decide) (Nat.le_refl _) (Nat.le_refl _) rfl (Nat.le_of_ble_eq_true rfl) (fun z1 M1 q1 => ?_)
  obtain ⟨e1, c1, f1⟩ := q1
  have m1 := f1.ms m
  have r1 := f1.rd r
  have k1 := f1.mr k
  refine SP.pop (pc' := 237) dL_law_236 rfl rfl ?_
  refine SP.aload_n (pc' := 238) dL_law_237 rfl rfl rfl ?_
  refine SP.aload_n (pc' := 239) dL_law_238 rfl rfl rfl ?_
  refine SP.iload_n (pc' := 240) dL_law_239 rfl rfl rfl ?_
  refine SP.iconst (pc' := 241) dL_law_240 rfl ?_
  refine SP.iadd (pc' := 242) dL_law_241 rfl ?_
  refine SP.sld (pc' := 243) dL_law_242 rfl (by omega) (by omega) hL ?_
  refine SP.i2l (pc' := 244) dL_law_243 rfl (fp_rng_of _) ?_
  refine SP.bipush (pc' := 246) dL_law_244 rfl rfl ?_
  refine SP.lshl (pc' := 247) dL_law_246 rfl (fp_ofj _).symm ?_
  refine SP.aload_n (pc' := 248) dL_law_247 rfl rfl rfl ?_
  refine SP.iload_n (pc' := 249) dL_law_248 rfl rfl rfl ?_
  refine SP.iconst (pc' := 250) dL_law_249 rfl ?_
  refine SP.iadd (pc' := 251) dL_law_250 rfl ?_
  refine SP.sld (pc' := 252) dL_law_251 rfl (by omega) (by omega) hL ?_
  refine SP.i2l (pc' := 253) dL_law_252 rfl (fp_rng_of _) ?_
  refine SP.ldc2 (v := 4294967295) (pc' := 256) dL_law_253 rfl lL_13 (by decide) ?_
  refine SP.land (pc' := 257) dL_law_256 rfl (fp_ofj _).symm ?_
  refine SP.lor (pc' := 258) dL_law_257 rfl (fp_ofj _).symm ?_
  refine SP.opI (pc' := 261) dL_law_258 rfl cL_19 (mm_feed m1 (fp_lng_of _)) rfl rfl (by decide) (Nat.le_refl _) (Nat.le_refl _) rfl (Nat.le_of_ble_eq_true rfl) (fun z2 M2 q2 => ?_)
  obtain ⟨e2, m2, f2⟩ := q2
  have hI2 : LI M2 := ⟨_, _, _, _, _, _, _, _, _, _, f2.cs c1, m2, o, f2.rd r1, f2.mr k1⟩
  refine SP.pop (pc' := 262) dL_law_261 rfl rfl ?_
  refine SP.goto (pc' := 1497) dL_law_262 (by decide) ?_
  exact K _ hI2
theorem law_end {M : fp_Mem} (hI : LI M) (h0 : 0 ≤ i) (h7 : i + 7 ≤ (G.2.2.2.2.2.1 : Int)) (hL : G.2.2.2.2.2.1 ≤ 2147483647) (K : ∀ M', LI M' → fp_SP l G 2048 203 203 5193 203 5193 203 (kL nm) 1497 [some (.ref G.1), some (rV G 0), some (rV G 177), some (iV i)] [] (fp_sx M') (fun r _ => r = some (iV 1))) : fp_SP l G 2048 203 203 5193 203 5193 203 (kL nm) 265 [some (.ref G.1), some (rV G 0), some (rV G 177), some (iV i)] [] (fp_sx M) (fun r _ => r = some (iV 1)) := by
  obtain ⟨tp, fc, fm, g, pg, vs, nt, im, sh, tn, c, m, o, r, k⟩ := hI
  refine SP.aload_n (pc' := 266) dL_law_265 rfl rfl rfl ?_
  refine SP.aload_n (pc' := 267) dL_law_266 rfl rfl rfl ?_
  refine SP.iload_n (pc' := 268) dL_law_267 rfl rfl rfl ?_
  refine SP.iconst (pc' := 269) dL_law_268 rfl ?_
  refine SP.iadd (pc' := 270) dL_law_269 rfl ?_
  refine SP.sld (pc' := 271) dL_law_270 rfl (by omega) (by omega) hL ?_
  refine SP.opI (pc' := 274) dL_law_271 rfl cL_20 (cc_end c (fp_rng_of _)) rfl rfl (by decide) (Nat.le_refl _) (Nat.le_refl _) rfl (Nat.le_of_ble_eq_true rfl) (fun z1 M1 q1 => ?_)
  obtain ⟨e1, c1, f1⟩ := q1
  have m1 := f1.ms m
  have r1 := f1.rd r
  have k1 := f1.mr k
  refine SP.pop (pc' := 275) dL_law_274 rfl rfl ?_
  refine SP.aload_n (pc' := 276) dL_law_275 rfl rfl rfl ?_
  refine SP.aload_n (pc' := 277) dL_law_276 rfl rfl rfl ?_
  refine SP.iload_n (pc' := 278) dL_law_277 rfl rfl rfl ?_
  refine SP.iconst (pc' := 279) dL_law_278 rfl ?_
  refine SP.iadd (pc' := 280) dL_law_279 rfl ?_
  refine SP.sld (pc' := 281) dL_law_280 rfl (by omega) (by omega) hL ?_
  refine SP.opI (pc' := 284) dL_law_281 rfl cL_24 (mm_end m1 (fp_rng_of _)) rfl rfl (by decide) (Nat.le_refl _) (Nat.le_refl _) rfl (Nat.le_of_ble_eq_true rfl) (fun z2 M2 q2 => ?_)
  obtain ⟨e2, m2, f2⟩ := q2
  have hI2 : LI M2 := ⟨_, _, _, _, _, _, _, _, _, _, f2.cs c1, m2, o, f2.rd r1, f2.mr k1⟩
  refine SP.pop (pc' := 285) dL_law_284 rfl rfl ?_
  refine SP.goto (pc' := 1497) dL_law_285 (by decide) ?_
  exact K _ hI2
theorem law_bank {M : fp_Mem} (hI : LI M) (h0 : 0 ≤ i) (h7 : i + 7 ≤ (G.2.2.2.2.2.1 : Int)) (hL : G.2.2.2.2.2.1 ≤ 2147483647) (K : ∀ M', LI M' → fp_SP l G 2048 203 203 5193 203 5193 203 (kL nm) 1497 [some (.ref G.1), some (rV G 0), some (rV G 177), some (iV i)] [] (fp_sx M') (fun r _ => r = some (iV 1))) : fp_SP l G 2048 203 203 5193 203 5193 203 (kL nm) 288 [some (.ref G.1), some (rV G 0), some (rV G 177), some (iV i)] [] (fp_sx M) (fun r _ => r = some (iV 1)) := by
  obtain ⟨tp, fc, fm, g, pg, vs, nt, im, sh, tn, c, m, o, r, k⟩ := hI
  refine SP.aload_n (pc' := 289) dL_law_288 rfl rfl rfl ?_
  refine SP.opI (pc' := 292) dL_law_289 rfl cL_25 (cc_bank c r) rfl rfl (by decide) (Nat.le_refl _) (Nat.le_refl _) rfl (Nat.le_of_ble_eq_true rfl) (fun z1 M1 q1 => ?_)
  obtain ⟨r1, f1, hb1⟩ := q1
  have m1 := ms_of f1 m
  have k1 := mr_of f1 k
  refine SP.pop (pc' := 293) dL_law_292 rfl rfl ?_
  refine SP.aload_n (pc' := 294) dL_law_293 rfl rfl rfl ?_
  refine SP.opI (pc' := 297) dL_law_294 rfl cL_29 (mm_bank m1 k1) rfl rfl (by decide) (Nat.le_refl _) (Nat.le_refl _) rfl (Nat.le_of_ble_eq_true rfl) (fun z2 M2 q2 => ?_)
  obtain ⟨k2, f2, hb2⟩ := q2
  have hI2 : LI M2 ∧ z1 = z2 := by
    rcases hb1 with ⟨h1, fl1, a1, b1, c1⟩ | ⟨r9, a1, b1, o9, c1⟩
    · rcases hb2 with ⟨h2, fl2, a2, b2, m2⟩ | ⟨r2, a2, b2, m2⟩
      · rw [a1] at a2; cases a2
        exact ⟨⟨_, _, _, _, _, _, _, _, _, _, cs_of f2 c1, m2, o, rd_of f2 r1, k2⟩, by rw [b1, b2]⟩
      · rw [a1] at a2; cases a2
    · rcases hb2 with ⟨h2, fl2, a2, b2, m2⟩ | ⟨r2, a2, b2, m2⟩
      · rw [a1] at a2; cases a2
      · rw [a1] at a2; cases a2
        exact ⟨⟨_, _, _, _, _, _, _, _, _, _, cs_of f2 c1, m2, o9 sh o.2.2.2.2.2, rd_of f2 r1, k2⟩, by rw [b1, b2]⟩
  obtain ⟨hI2, ez⟩ := hI2
  refine SP.pop (pc' := 298) dL_law_297 rfl rfl ?_
  refine SP.goto (pc' := 1497) dL_law_298 (by decide) ?_
  exact K _ hI2
theorem law_fault {M : fp_Mem} (hI : LI M) (h0 : 0 ≤ i) (h7 : i + 7 ≤ (G.2.2.2.2.2.1 : Int)) (hL : G.2.2.2.2.2.1 ≤ 2147483647) (K : ∀ M', LI M' → fp_SP l G 2048 203 203 5193 203 5193 203 (kL nm) 1497 [some (.ref G.1), some (rV G 0), some (rV G 177), some (iV i)] [] (fp_sx M') (fun r _ => r = some (iV 1))) : fp_SP l G 2048 203 203 5193 203 5193 203 (kL nm) 301 [some (.ref G.1), some (rV G 0), some (rV G 177), some (iV i)] [] (fp_sx M) (fun r _ => r = some (iV 1)) := by
  obtain ⟨tp, fc, fm, g, pg, vs, nt, im, sh, tn, c, m, o, r, k⟩ := hI
  refine SP.aload_n (pc' := 302) dL_law_301 rfl rfl rfl ?_
  refine SP.opI (pc' := 305) dL_law_302 rfl cL_30 (cc_fault c ) rfl rfl (by decide) (Nat.le_refl _) (Nat.le_refl _) rfl (Nat.le_of_ble_eq_true rfl) (fun z1 M1 q1 => ?_)
  obtain ⟨e1, q1⟩ := q1
  have f1 : frC M M1 := by rw [q1]; exact frC.refl _
  have c1 : CS M1 tp fc g pg vs nt im sh tn := by rw [q1]; exact c
  have m1 := f1.ms m
  have r1 := f1.rd r
  have k1 := f1.mr k
  refine SP.pop (pc' := 306) dL_law_305 rfl rfl ?_
  refine SP.aload_n (pc' := 307) dL_law_306 rfl rfl rfl ?_
  refine SP.opI (pc' := 310) dL_law_307 rfl cL_33 (mm_fault m1 ) rfl rfl (by decide) (Nat.le_refl _) (Nat.le_refl _) rfl (Nat.le_of_ble_eq_true rfl) (fun z2 M2 q2 => ?_)
  obtain ⟨e2, q2⟩ := q2
  have f2 : frD M1 M2 := by rw [q2]; exact frD.refl _
  have m2 : MS M2 tp fm g pg vs nt im sh tn := by rw [q2]; exact m1
  have hI2 : LI M2 := ⟨_, _, _, _, _, _, _, _, _, _, f2.cs c1, m2, o, f2.rd r1, f2.mr k1⟩
  refine SP.pop (pc' := 311) dL_law_310 rfl rfl ?_
  refine SP.goto (pc' := 1497) dL_law_311 (by decide) ?_
  exact K _ hI2
theorem law_thing {M : fp_Mem} (hI : LI M) (h0 : 0 ≤ i) (h7 : i + 7 ≤ (G.2.2.2.2.2.1 : Int)) (hL : G.2.2.2.2.2.1 ≤ 2147483647) (K : ∀ M', LI M' → fp_SP l G 2048 203 203 5193 203 5193 203 (kL nm) 1497 [some (.ref G.1), some (rV G 0), some (rV G 177), some (iV i)] [] (fp_sx M') (fun r _ => r = some (iV 1))) : fp_SP l G 2048 203 203 5193 203 5193 203 (kL nm) 314 [some (.ref G.1), some (rV G 0), some (rV G 177), some (iV i)] [] (fp_sx M) (fun r _ => r = some (iV 1)) := by
  obtain ⟨tp, fc, fm, g, pg, vs, nt, im, sh, tn, c, m, o, r, k⟩ := hI
  refine SP.aload_n (pc' := 315) dL_law_314 rfl rfl rfl ?_
  refine SP.aload_n (pc' := 316) dL_law_315 rfl rfl rfl ?_
  refine SP.iload_n (pc' := 317) dL_law_316 rfl rfl rfl ?_
  refine SP.iconst (pc' := 318) dL_law_317 rfl ?_
  refine SP.iadd (pc' := 319) dL_law_318 rfl ?_
  refine SP.sld (pc' := 320) dL_law_319 rfl (by omega) (by omega) hL ?_
  refine SP.aload_n (pc' := 321) dL_law_320 rfl rfl rfl ?_
  refine SP.iload_n (pc' := 322) dL_law_321 rfl rfl rfl ?_
  refine SP.iconst (pc' := 323) dL_law_322 rfl ?_
  refine SP.iadd (pc' := 324) dL_law_323 rfl ?_
  refine SP.sld (pc' := 325) dL_law_324 rfl (by omega) (by omega) hL ?_
  refine SP.opI (pc' := 328) dL_law_325 rfl cL_34 (cc_thing c o (fp_rng_of _) (fp_rng_of _)) rfl rfl (by decide) (Nat.le_refl _) (Nat.le_refl _) rfl (Nat.le_of_ble_eq_true rfl) (fun z1 M1 q1 => ?_)
  obtain ⟨e1, q1⟩ := q1
  have f1 : frC M M1 := by rw [q1]; exact frC.refl _
  have c1 : CS M1 tp fc g pg vs nt im sh tn := by rw [q1]; exact c
  have m1 := f1.ms m
  have r1 := f1.rd r
  have k1 := f1.mr k
  refine SP.pop (pc' := 329) dL_law_328 rfl rfl ?_
  refine SP.aload_n (pc' := 330) dL_law_329 rfl rfl rfl ?_
  refine SP.aload_n (pc' := 331) dL_law_330 rfl rfl rfl ?_
  refine SP.iload_n (pc' := 332) dL_law_331 rfl rfl rfl ?_
  refine SP.iconst (pc' := 333) dL_law_332 rfl ?_
  refine SP.iadd (pc' := 334) dL_law_333 rfl ?_
  refine SP.sld (pc' := 335) dL_law_334 rfl (by omega) (by omega) hL ?_
  refine SP.aload_n (pc' := 336) dL_law_335 rfl rfl rfl ?_
  refine SP.iload_n (pc' := 337) dL_law_336 rfl rfl rfl ?_
  refine SP.iconst (pc' := 338) dL_law_337 rfl ?_
  refine SP.iadd (pc' := 339) dL_law_338 rfl ?_
  refine SP.sld (pc' := 340) dL_law_339 rfl (by omega) (by omega) hL ?_
  refine SP.opI (pc' := 343) dL_law_340 rfl cL_38 (mm_thing m1 o (fp_rng_of _) (fp_rng_of _)) rfl rfl (by decide) (Nat.le_refl _) (Nat.le_refl _) rfl (Nat.le_of_ble_eq_true rfl) (fun z2 M2 q2 => ?_)
  obtain ⟨e2, q2⟩ := q2
  have f2 : frD M1 M2 := by rw [q2]; exact frD.refl _
  have m2 : MS M2 tp fm g pg vs nt im sh tn := by rw [q2]; exact m1
  have hI2 : LI M2 := ⟨_, _, _, _, _, _, _, _, _, _, f2.cs c1, m2, o, f2.rd r1, f2.mr k1⟩
  refine SP.pop (pc' := 344) dL_law_343 rfl rfl ?_
  refine SP.goto (pc' := 1497) dL_law_344 (by decide) ?_
  exact K _ hI2
theorem law_line {M : fp_Mem} (hI : LI M) (h0 : 0 ≤ i) (h7 : i + 7 ≤ (G.2.2.2.2.2.1 : Int)) (hL : G.2.2.2.2.2.1 ≤ 2147483647) (K : ∀ M', LI M' → fp_SP l G 2048 203 203 5193 203 5193 203 (kL nm) 1497 [some (.ref G.1), some (rV G 0), some (rV G 177), some (iV i)] [] (fp_sx M') (fun r _ => r = some (iV 1))) : fp_SP l G 2048 203 203 5193 203 5193 203 (kL nm) 347 [some (.ref G.1), some (rV G 0), some (rV G 177), some (iV i)] [] (fp_sx M) (fun r _ => r = some (iV 1)) := by
  obtain ⟨tp, fc, fm, g, pg, vs, nt, im, sh, tn, c, m, o, r, k⟩ := hI
  refine SP.aload_n (pc' := 348) dL_law_347 rfl rfl rfl ?_
  refine SP.aload_n (pc' := 349) dL_law_348 rfl rfl rfl ?_
  refine SP.iload_n (pc' := 350) dL_law_349 rfl rfl rfl ?_
  refine SP.iconst (pc' := 351) dL_law_350 rfl ?_
  refine SP.iadd (pc' := 352) dL_law_351 rfl ?_
  refine SP.sld (pc' := 353) dL_law_352 rfl (by omega) (by omega) hL ?_
  refine SP.aload_n (pc' := 354) dL_law_353 rfl rfl rfl ?_
  refine SP.iload_n (pc' := 355) dL_law_354 rfl rfl rfl ?_
  refine SP.iconst (pc' := 356) dL_law_355 rfl ?_
  refine SP.iadd (pc' := 357) dL_law_356 rfl ?_
  refine SP.sld (pc' := 358) dL_law_357 rfl (by omega) (by omega) hL ?_
  refine SP.opI (pc' := 361) dL_law_358 rfl cL_39 (cc_line c o (fp_rng_of _) (fp_rng_of _)) rfl rfl (by decide) (Nat.le_refl _) (Nat.le_refl _) rfl (Nat.le_of_ble_eq_true rfl) (fun z1 M1 q1 => ?_)
  obtain ⟨e1, q1⟩ := q1
  have f1 : frC M M1 := by rw [q1]; exact frC.refl _
  have c1 : CS M1 tp fc g pg vs nt im sh tn := by rw [q1]; exact c
  have m1 := f1.ms m
  have r1 := f1.rd r
  have k1 := f1.mr k
  refine SP.pop (pc' := 362) dL_law_361 rfl rfl ?_
  refine SP.aload_n (pc' := 363) dL_law_362 rfl rfl rfl ?_
  refine SP.aload_n (pc' := 364) dL_law_363 rfl rfl rfl ?_
  refine SP.iload_n (pc' := 365) dL_law_364 rfl rfl rfl ?_
  refine SP.iconst (pc' := 366) dL_law_365 rfl ?_
  refine SP.iadd (pc' := 367) dL_law_366 rfl ?_
  refine SP.sld (pc' := 368) dL_law_367 rfl (by omega) (by omega) hL ?_
  refine SP.aload_n (pc' := 369) dL_law_368 rfl rfl rfl ?_
  refine SP.iload_n (pc' := 370) dL_law_369 rfl rfl rfl ?_
  refine SP.iconst (pc' := 371) dL_law_370 rfl ?_
  refine SP.iadd (pc' := 372) dL_law_371 rfl ?_
  refine SP.sld (pc' := 373) dL_law_372 rfl (by omega) (by omega) hL ?_
  refine SP.opI (pc' := 376) dL_law_373 rfl cL_42 (mm_line m1 o (fp_rng_of _) (fp_rng_of _)) rfl rfl (by decide) (Nat.le_refl _) (Nat.le_refl _) rfl (Nat.le_of_ble_eq_true rfl) (fun z2 M2 q2 => ?_)
  obtain ⟨e2, q2⟩ := q2
  have f2 : frD M1 M2 := by rw [q2]; exact frD.refl _
  have m2 : MS M2 tp fm g pg vs nt im sh tn := by rw [q2]; exact m1
  have hI2 : LI M2 := ⟨_, _, _, _, _, _, _, _, _, _, f2.cs c1, m2, o, f2.rd r1, f2.mr k1⟩
  refine SP.pop (pc' := 377) dL_law_376 rfl rfl ?_
  refine SP.goto (pc' := 1497) dL_law_377 (by decide) ?_
  exact K _ hI2
theorem law_visit {M : fp_Mem} (hI : LI M) (h0 : 0 ≤ i) (h7 : i + 7 ≤ (G.2.2.2.2.2.1 : Int)) (hL : G.2.2.2.2.2.1 ≤ 2147483647) (K : ∀ M', LI M' → fp_SP l G 2048 203 203 5193 203 5193 203 (kL nm) 1497 [some (.ref G.1), some (rV G 0), some (rV G 177), some (iV i)] [] (fp_sx M') (fun r _ => r = some (iV 1))) : fp_SP l G 2048 203 203 5193 203 5193 203 (kL nm) 380 [some (.ref G.1), some (rV G 0), some (rV G 177), some (iV i)] [] (fp_sx M) (fun r _ => r = some (iV 1)) := by
  obtain ⟨tp, fc, fm, g, pg, vs, nt, im, sh, tn, c, m, o, r, k⟩ := hI
  refine SP.aload_n (pc' := 381) dL_law_380 rfl rfl rfl ?_
  refine SP.aload_n (pc' := 382) dL_law_381 rfl rfl rfl ?_
  refine SP.iload_n (pc' := 383) dL_law_382 rfl rfl rfl ?_
  refine SP.iconst (pc' := 384) dL_law_383 rfl ?_
  refine SP.iadd (pc' := 385) dL_law_384 rfl ?_
  refine SP.sld (pc' := 386) dL_law_385 rfl (by omega) (by omega) hL ?_
  refine SP.aload_n (pc' := 387) dL_law_386 rfl rfl rfl ?_
  refine SP.iload_n (pc' := 388) dL_law_387 rfl rfl rfl ?_
  refine SP.iconst (pc' := 389) dL_law_388 rfl ?_
  refine SP.iadd (pc' := 390) dL_law_389 rfl ?_
  refine SP.sld (pc' := 391) dL_law_390 rfl (by omega) (by omega) hL ?_
  refine SP.opI (pc' := 394) dL_law_391 rfl cL_43 (cc_visit c (fp_rng_of _) (fp_rng_of _)) rfl rfl (by decide) (Nat.le_refl _) (Nat.le_refl _) rfl (Nat.le_of_ble_eq_true rfl) (fun z1 M1 q1 => ?_)
  obtain ⟨e1, q1⟩ := q1
  have f1 : frC M M1 := by rw [q1]; exact frC.refl _
  have c1 : CS M1 tp fc g pg vs nt im sh tn := by rw [q1]; exact c
  have m1 := f1.ms m
  have r1 := f1.rd r
  have k1 := f1.mr k
  refine SP.pop (pc' := 395) dL_law_394 rfl rfl ?_
  refine SP.aload_n (pc' := 396) dL_law_395 rfl rfl rfl ?_
  refine SP.aload_n (pc' := 397) dL_law_396 rfl rfl rfl ?_
  refine SP.iload_n (pc' := 398) dL_law_397 rfl rfl rfl ?_
  refine SP.iconst (pc' := 399) dL_law_398 rfl ?_
  refine SP.iadd (pc' := 400) dL_law_399 rfl ?_
  refine SP.sld (pc' := 401) dL_law_400 rfl (by omega) (by omega) hL ?_
  refine SP.aload_n (pc' := 402) dL_law_401 rfl rfl rfl ?_
  refine SP.iload_n (pc' := 403) dL_law_402 rfl rfl rfl ?_
  refine SP.iconst (pc' := 404) dL_law_403 rfl ?_
  refine SP.iadd (pc' := 405) dL_law_404 rfl ?_
  refine SP.sld (pc' := 406) dL_law_405 rfl (by omega) (by omega) hL ?_
  refine SP.opI (pc' := 409) dL_law_406 rfl cL_46 (mm_visit m1 (fp_rng_of _) (fp_rng_of _)) rfl rfl (by decide) (Nat.le_refl _) (Nat.le_refl _) rfl (Nat.le_of_ble_eq_true rfl) (fun z2 M2 q2 => ?_)
  obtain ⟨e2, q2⟩ := q2
  have f2 : frD M1 M2 := by rw [q2]; exact frD.refl _
  have m2 : MS M2 tp fm g pg vs nt im sh tn := by rw [q2]; exact m1
  have hI2 : LI M2 := ⟨_, _, _, _, _, _, _, _, _, _, f2.cs c1, m2, o, f2.rd r1, f2.mr k1⟩
  refine SP.pop (pc' := 410) dL_law_409 rfl rfl ?_
  refine SP.goto (pc' := 1497) dL_law_410 (by decide) ?_
  exact K _ hI2
theorem law_chance {M : fp_Mem} (hI : LI M) (h0 : 0 ≤ i) (h7 : i + 7 ≤ (G.2.2.2.2.2.1 : Int)) (hL : G.2.2.2.2.2.1 ≤ 2147483647) (K : ∀ M', LI M' → fp_SP l G 2048 203 203 5193 203 5193 203 (kL nm) 1497 [some (.ref G.1), some (rV G 0), some (rV G 177), some (iV i)] [] (fp_sx M') (fun r _ => r = some (iV 1))) : fp_SP l G 2048 203 203 5193 203 5193 203 (kL nm) 413 [some (.ref G.1), some (rV G 0), some (rV G 177), some (iV i)] [] (fp_sx M) (fun r _ => r = some (iV 1)) := by
  obtain ⟨tp, fc, fm, g, pg, vs, nt, im, sh, tn, c, m, o, r, k⟩ := hI
  refine SP.aload_n (pc' := 414) dL_law_413 rfl rfl rfl ?_
  refine SP.aload_n (pc' := 415) dL_law_414 rfl rfl rfl ?_
  refine SP.iload_n (pc' := 416) dL_law_415 rfl rfl rfl ?_
  refine SP.iconst (pc' := 417) dL_law_416 rfl ?_
  refine SP.iadd (pc' := 418) dL_law_417 rfl ?_
  refine SP.sld (pc' := 419) dL_law_418 rfl (by omega) (by omega) hL ?_
  refine SP.opI (pc' := 422) dL_law_419 rfl cL_47 (cc_chance c o (fp_rng_of _)) rfl rfl (by decide) (Nat.le_refl _) (Nat.le_refl _) rfl (Nat.le_of_ble_eq_true rfl) (fun z1 M1 q1 => ?_)
  obtain ⟨e1, c1, f1⟩ := q1
  have m1 := f1.ms m
  have r1 := f1.rd r
  have k1 := f1.mr k
  refine SP.pop (pc' := 423) dL_law_422 rfl rfl ?_
  refine SP.aload_n (pc' := 424) dL_law_423 rfl rfl rfl ?_
  refine SP.aload_n (pc' := 425) dL_law_424 rfl rfl rfl ?_
  refine SP.iload_n (pc' := 426) dL_law_425 rfl rfl rfl ?_
  refine SP.iconst (pc' := 427) dL_law_426 rfl ?_
  refine SP.iadd (pc' := 428) dL_law_427 rfl ?_
  refine SP.sld (pc' := 429) dL_law_428 rfl (by omega) (by omega) hL ?_
  refine SP.opI (pc' := 432) dL_law_429 rfl cL_50 (mm_chance m1 o (fp_rng_of _)) rfl rfl (by decide) (Nat.le_refl _) (Nat.le_refl _) rfl (Nat.le_of_ble_eq_true rfl) (fun z2 M2 q2 => ?_)
  obtain ⟨e2, m2, f2⟩ := q2
  have hI2 : LI M2 := ⟨_, _, _, _, _, _, _, _, _, _, f2.cs c1, m2, o.chance, f2.rd r1, f2.mr k1⟩
  refine SP.pop (pc' := 433) dL_law_432 rfl rfl ?_
  refine SP.goto (pc' := 1497) dL_law_433 (by decide) ?_
  exact K _ hI2
theorem law_holds {M : fp_Mem} (hI : LI M) (h0 : 0 ≤ i) (h7 : i + 7 ≤ (G.2.2.2.2.2.1 : Int)) (hL : G.2.2.2.2.2.1 ≤ 2147483647) (K : ∀ M', LI M' → fp_SP l G 2048 203 203 5193 203 5193 203 (kL nm) 1497 [some (.ref G.1), some (rV G 0), some (rV G 177), some (iV i)] [] (fp_sx M') (fun r _ => r = some (iV 1))) : fp_SP l G 2048 203 203 5193 203 5193 203 (kL nm) 436 [some (.ref G.1), some (rV G 0), some (rV G 177), some (iV i)] [] (fp_sx M) (fun r _ => r = some (iV 1)) := by
  obtain ⟨tp, fc, fm, g, pg, vs, nt, im, sh, tn, c, m, o, r, k⟩ := hI
  refine SP.aload_n (pc' := 437) dL_law_436 rfl rfl rfl ?_
  refine SP.aload_n (pc' := 438) dL_law_437 rfl rfl rfl ?_
  refine SP.iload_n (pc' := 439) dL_law_438 rfl rfl rfl ?_
  refine SP.iconst (pc' := 440) dL_law_439 rfl ?_
  refine SP.iadd (pc' := 441) dL_law_440 rfl ?_
  refine SP.sld (pc' := 442) dL_law_441 rfl (by omega) (by omega) hL ?_
  refine SP.opI (pc' := 445) dL_law_442 rfl cL_51 (cc_holds c o (fp_rng_of _)) rfl rfl (by decide) (Nat.le_refl _) (Nat.le_refl _) rfl (Nat.le_of_ble_eq_true rfl) (fun z1 M1 q1 => ?_)
  obtain ⟨e1, q1⟩ := q1
  have f1 : frC M M1 := by rw [q1]; exact frC.refl _
  have c1 : CS M1 tp fc g pg vs nt im sh tn := by rw [q1]; exact c
  have m1 := f1.ms m
  have r1 := f1.rd r
  have k1 := f1.mr k
  refine SP.pop (pc' := 446) dL_law_445 rfl rfl ?_
  refine SP.aload_n (pc' := 447) dL_law_446 rfl rfl rfl ?_
  refine SP.aload_n (pc' := 448) dL_law_447 rfl rfl rfl ?_
  refine SP.iload_n (pc' := 449) dL_law_448 rfl rfl rfl ?_
  refine SP.iconst (pc' := 450) dL_law_449 rfl ?_
  refine SP.iadd (pc' := 451) dL_law_450 rfl ?_
  refine SP.sld (pc' := 452) dL_law_451 rfl (by omega) (by omega) hL ?_
  refine SP.opI (pc' := 455) dL_law_452 rfl cL_54 (mm_holds m1 o (fp_rng_of _)) rfl rfl (by decide) (Nat.le_refl _) (Nat.le_refl _) rfl (Nat.le_of_ble_eq_true rfl) (fun z2 M2 q2 => ?_)
  obtain ⟨e2, q2⟩ := q2
  have f2 : frD M1 M2 := by rw [q2]; exact frD.refl _
  have m2 : MS M2 tp fm g pg vs nt im sh tn := by rw [q2]; exact m1
  have hI2 : LI M2 := ⟨_, _, _, _, _, _, _, _, _, _, f2.cs c1, m2, o, f2.rd r1, f2.mr k1⟩
  refine SP.pop (pc' := 456) dL_law_455 rfl rfl ?_
  refine SP.goto (pc' := 1497) dL_law_456 (by decide) ?_
  exact K _ hI2
theorem law_worth {M : fp_Mem} (hI : LI M) (h0 : 0 ≤ i) (h7 : i + 7 ≤ (G.2.2.2.2.2.1 : Int)) (hL : G.2.2.2.2.2.1 ≤ 2147483647) (K : ∀ M', LI M' → fp_SP l G 2048 203 203 5193 203 5193 203 (kL nm) 1497 [some (.ref G.1), some (rV G 0), some (rV G 177), some (iV i)] [] (fp_sx M') (fun r _ => r = some (iV 1))) : fp_SP l G 2048 203 203 5193 203 5193 203 (kL nm) 459 [some (.ref G.1), some (rV G 0), some (rV G 177), some (iV i)] [] (fp_sx M) (fun r _ => r = some (iV 1)) := by
  obtain ⟨tp, fc, fm, g, pg, vs, nt, im, sh, tn, c, m, o, r, k⟩ := hI
  refine SP.aload_n (pc' := 460) dL_law_459 rfl rfl rfl ?_
  refine SP.aload_n (pc' := 461) dL_law_460 rfl rfl rfl ?_
  refine SP.iload_n (pc' := 462) dL_law_461 rfl rfl rfl ?_
  refine SP.iconst (pc' := 463) dL_law_462 rfl ?_
  refine SP.iadd (pc' := 464) dL_law_463 rfl ?_
  refine SP.sld (pc' := 465) dL_law_464 rfl (by omega) (by omega) hL ?_
  refine SP.opI (pc' := 468) dL_law_465 rfl cL_55 (cc_worth c o (fp_rng_of _)) rfl rfl (by decide) (Nat.le_refl _) (Nat.le_refl _) rfl (Nat.le_of_ble_eq_true rfl) (fun z1 M1 q1 => ?_)
  obtain ⟨e1, q1⟩ := q1
  have f1 : frC M M1 := by rw [q1]; exact frC.refl _
  have c1 : CS M1 tp fc g pg vs nt im sh tn := by rw [q1]; exact c
  have m1 := f1.ms m
  have r1 := f1.rd r
  have k1 := f1.mr k
  refine SP.pop (pc' := 469) dL_law_468 rfl rfl ?_
  refine SP.aload_n (pc' := 470) dL_law_469 rfl rfl rfl ?_
  refine SP.aload_n (pc' := 471) dL_law_470 rfl rfl rfl ?_
  refine SP.iload_n (pc' := 472) dL_law_471 rfl rfl rfl ?_
  refine SP.iconst (pc' := 473) dL_law_472 rfl ?_
  refine SP.iadd (pc' := 474) dL_law_473 rfl ?_
  refine SP.sld (pc' := 475) dL_law_474 rfl (by omega) (by omega) hL ?_
  refine SP.opI (pc' := 478) dL_law_475 rfl cL_58 (mm_worth m1 o (fp_rng_of _)) rfl rfl (by decide) (Nat.le_refl _) (Nat.le_refl _) rfl (Nat.le_of_ble_eq_true rfl) (fun z2 M2 q2 => ?_)
  obtain ⟨e2, q2⟩ := q2
  have f2 : frD M1 M2 := by rw [q2]; exact frD.refl _
  have m2 : MS M2 tp fm g pg vs nt im sh tn := by rw [q2]; exact m1
  have hI2 : LI M2 := ⟨_, _, _, _, _, _, _, _, _, _, f2.cs c1, m2, o, f2.rd r1, f2.mr k1⟩
  refine SP.pop (pc' := 479) dL_law_478 rfl rfl ?_
  refine SP.goto (pc' := 1497) dL_law_479 (by decide) ?_
  exact K _ hI2
theorem law_put {M : fp_Mem} (hI : LI M) (h0 : 0 ≤ i) (h7 : i + 7 ≤ (G.2.2.2.2.2.1 : Int)) (hL : G.2.2.2.2.2.1 ≤ 2147483647) (K : ∀ M', LI M' → fp_SP l G 2048 203 203 5193 203 5193 203 (kL nm) 1497 [some (.ref G.1), some (rV G 0), some (rV G 177), some (iV i)] [] (fp_sx M') (fun r _ => r = some (iV 1))) : fp_SP l G 2048 203 203 5193 203 5193 203 (kL nm) 482 [some (.ref G.1), some (rV G 0), some (rV G 177), some (iV i)] [] (fp_sx M) (fun r _ => r = some (iV 1)) := by
  obtain ⟨tp, fc, fm, g, pg, vs, nt, im, sh, tn, c, m, o, r, k⟩ := hI
  refine SP.aload_n (pc' := 483) dL_law_482 rfl rfl rfl ?_
  refine SP.aload_n (pc' := 484) dL_law_483 rfl rfl rfl ?_
  refine SP.iload_n (pc' := 485) dL_law_484 rfl rfl rfl ?_
  refine SP.iconst (pc' := 486) dL_law_485 rfl ?_
  refine SP.iadd (pc' := 487) dL_law_486 rfl ?_
  refine SP.sld (pc' := 488) dL_law_487 rfl (by omega) (by omega) hL ?_
  refine SP.aload_n (pc' := 489) dL_law_488 rfl rfl rfl ?_
  refine SP.iload_n (pc' := 490) dL_law_489 rfl rfl rfl ?_
  refine SP.iconst (pc' := 491) dL_law_490 rfl ?_
  refine SP.iadd (pc' := 492) dL_law_491 rfl ?_
  refine SP.sld (pc' := 493) dL_law_492 rfl (by omega) (by omega) hL ?_
  refine SP.aload_n (pc' := 494) dL_law_493 rfl rfl rfl ?_
  refine SP.iload_n (pc' := 495) dL_law_494 rfl rfl rfl ?_
  refine SP.iconst (pc' := 496) dL_law_495 rfl ?_
  refine SP.iadd (pc' := 497) dL_law_496 rfl ?_
  refine SP.sld (pc' := 498) dL_law_497 rfl (by omega) (by omega) hL ?_
  refine SP.opI (pc' := 501) dL_law_498 rfl cL_59 (cc_put c o (fp_rng_of _) (fp_rng_of _) (fp_rng_of _)) rfl rfl (by decide) (Nat.le_refl _) (Nat.le_refl _) rfl (Nat.le_of_ble_eq_true rfl) (fun z1 M1 q1 => ?_)
  obtain ⟨e1, c1, f1⟩ := q1
  have m1 := f1.ms m
  have r1 := f1.rd r
  have k1 := f1.mr k
  refine SP.pop (pc' := 502) dL_law_501 rfl rfl ?_
  refine SP.aload_n (pc' := 503) dL_law_502 rfl rfl rfl ?_
  refine SP.aload_n (pc' := 504) dL_law_503 rfl rfl rfl ?_
  refine SP.iload_n (pc' := 505) dL_law_504 rfl rfl rfl ?_
  refine SP.iconst (pc' := 506) dL_law_505 rfl ?_
  refine SP.iadd (pc' := 507) dL_law_506 rfl ?_
  refine SP.sld (pc' := 508) dL_law_507 rfl (by omega) (by omega) hL ?_
  refine SP.aload_n (pc' := 509) dL_law_508 rfl rfl rfl ?_
  refine SP.iload_n (pc' := 510) dL_law_509 rfl rfl rfl ?_
  refine SP.iconst (pc' := 511) dL_law_510 rfl ?_
  refine SP.iadd (pc' := 512) dL_law_511 rfl ?_
  refine SP.sld (pc' := 513) dL_law_512 rfl (by omega) (by omega) hL ?_
  refine SP.aload_n (pc' := 514) dL_law_513 rfl rfl rfl ?_
  refine SP.iload_n (pc' := 515) dL_law_514 rfl rfl rfl ?_
  refine SP.iconst (pc' := 516) dL_law_515 rfl ?_
  refine SP.iadd (pc' := 517) dL_law_516 rfl ?_
  refine SP.sld (pc' := 518) dL_law_517 rfl (by omega) (by omega) hL ?_
  refine SP.opI (pc' := 521) dL_law_518 rfl cL_63 (mm_put m1 o (fp_rng_of _) (fp_rng_of _) (fp_rng_of _)) rfl rfl (by decide) (Nat.le_refl _) (Nat.le_refl _) rfl (Nat.le_of_ble_eq_true rfl) (fun z2 M2 q2 => ?_)
  obtain ⟨e2, m2, f2⟩ := q2
  have hI2 : LI M2 := ⟨_, _, _, _, _, _, _, _, _, _, f2.cs c1, m2, o.put, f2.rd r1, f2.mr k1⟩
  refine SP.pop (pc' := 522) dL_law_521 rfl rfl ?_
  refine SP.goto (pc' := 1497) dL_law_522 (by decide) ?_
  exact K _ hI2
theorem law_draw {M : fp_Mem} (hI : LI M) (h0 : 0 ≤ i) (h7 : i + 7 ≤ (G.2.2.2.2.2.1 : Int)) (hL : G.2.2.2.2.2.1 ≤ 2147483647) (K : ∀ M', LI M' → fp_SP l G 2048 203 203 5193 203 5193 203 (kL nm) 1497 [some (.ref G.1), some (rV G 0), some (rV G 177), some (iV i)] [] (fp_sx M') (fun r _ => r = some (iV 1))) : fp_SP l G 2048 203 203 5193 203 5193 203 (kL nm) 525 [some (.ref G.1), some (rV G 0), some (rV G 177), some (iV i)] [] (fp_sx M) (fun r _ => r = some (iV 1)) := by
  obtain ⟨tp, fc, fm, g, pg, vs, nt, im, sh, tn, c, m, o, r, k⟩ := hI
  refine SP.aload_n (pc' := 526) dL_law_525 rfl rfl rfl ?_
  refine SP.aload_n (pc' := 527) dL_law_526 rfl rfl rfl ?_
  refine SP.iload_n (pc' := 528) dL_law_527 rfl rfl rfl ?_
  refine SP.iconst (pc' := 529) dL_law_528 rfl ?_
  refine SP.iadd (pc' := 530) dL_law_529 rfl ?_
  refine SP.sld (pc' := 531) dL_law_530 rfl (by omega) (by omega) hL ?_
  refine SP.aload_n (pc' := 532) dL_law_531 rfl rfl rfl ?_
  refine SP.iload_n (pc' := 533) dL_law_532 rfl rfl rfl ?_
  refine SP.iconst (pc' := 534) dL_law_533 rfl ?_
  refine SP.iadd (pc' := 535) dL_law_534 rfl ?_
  refine SP.sld (pc' := 536) dL_law_535 rfl (by omega) (by omega) hL ?_
  refine SP.opI (pc' := 539) dL_law_536 rfl cL_64 (cc_draw c o (fp_rng_of _) (fp_rng_of _)) rfl rfl (by decide) (Nat.le_refl _) (Nat.le_refl _) rfl (Nat.le_of_ble_eq_true rfl) (fun z1 M1 q1 => ?_)
  obtain ⟨e1, c1, f1⟩ := q1
  have m1 := f1.ms m
  have r1 := f1.rd r
  have k1 := f1.mr k
  refine SP.pop (pc' := 540) dL_law_539 rfl rfl ?_
  refine SP.aload_n (pc' := 541) dL_law_540 rfl rfl rfl ?_
  refine SP.aload_n (pc' := 542) dL_law_541 rfl rfl rfl ?_
  refine SP.iload_n (pc' := 543) dL_law_542 rfl rfl rfl ?_
  refine SP.iconst (pc' := 544) dL_law_543 rfl ?_
  refine SP.iadd (pc' := 545) dL_law_544 rfl ?_
  refine SP.sld (pc' := 546) dL_law_545 rfl (by omega) (by omega) hL ?_
  refine SP.aload_n (pc' := 547) dL_law_546 rfl rfl rfl ?_
  refine SP.iload_n (pc' := 548) dL_law_547 rfl rfl rfl ?_
  refine SP.iconst (pc' := 549) dL_law_548 rfl ?_
  refine SP.iadd (pc' := 550) dL_law_549 rfl ?_
  refine SP.sld (pc' := 551) dL_law_550 rfl (by omega) (by omega) hL ?_
  refine SP.opI (pc' := 554) dL_law_551 rfl cL_67 (mm_draw m1 o (fp_rng_of _) (fp_rng_of _)) rfl rfl (by decide) (Nat.le_refl _) (Nat.le_refl _) rfl (Nat.le_of_ble_eq_true rfl) (fun z2 M2 q2 => ?_)
  obtain ⟨e2, m2, f2⟩ := q2
  have hI2 : LI M2 := ⟨_, _, _, _, _, _, _, _, _, _, f2.cs c1, m2, o.draw, f2.rd r1, f2.mr k1⟩
  refine SP.pop (pc' := 555) dL_law_554 rfl rfl ?_
  refine SP.goto (pc' := 1497) dL_law_555 (by decide) ?_
  exact K _ hI2
theorem law_slip {M : fp_Mem} (hI : LI M) (h0 : 0 ≤ i) (h7 : i + 7 ≤ (G.2.2.2.2.2.1 : Int)) (hL : G.2.2.2.2.2.1 ≤ 2147483647) (K : ∀ M', LI M' → fp_SP l G 2048 203 203 5193 203 5193 203 (kL nm) 1497 [some (.ref G.1), some (rV G 0), some (rV G 177), some (iV i)] [] (fp_sx M') (fun r _ => r = some (iV 1))) : fp_SP l G 2048 203 203 5193 203 5193 203 (kL nm) 558 [some (.ref G.1), some (rV G 0), some (rV G 177), some (iV i)] [] (fp_sx M) (fun r _ => r = some (iV 1)) := by
  obtain ⟨tp, fc, fm, g, pg, vs, nt, im, sh, tn, c, m, o, r, k⟩ := hI
  refine SP.aload_n (pc' := 559) dL_law_558 rfl rfl rfl ?_
  refine SP.aload_n (pc' := 560) dL_law_559 rfl rfl rfl ?_
  refine SP.iload_n (pc' := 561) dL_law_560 rfl rfl rfl ?_
  refine SP.iconst (pc' := 562) dL_law_561 rfl ?_
  refine SP.iadd (pc' := 563) dL_law_562 rfl ?_
  refine SP.sld (pc' := 564) dL_law_563 rfl (by omega) (by omega) hL ?_
  refine SP.aload_n (pc' := 565) dL_law_564 rfl rfl rfl ?_
  refine SP.iload_n (pc' := 566) dL_law_565 rfl rfl rfl ?_
  refine SP.iconst (pc' := 567) dL_law_566 rfl ?_
  refine SP.iadd (pc' := 568) dL_law_567 rfl ?_
  refine SP.sld (pc' := 569) dL_law_568 rfl (by omega) (by omega) hL ?_
  refine SP.aload_n (pc' := 570) dL_law_569 rfl rfl rfl ?_
  refine SP.iload_n (pc' := 571) dL_law_570 rfl rfl rfl ?_
  refine SP.iconst (pc' := 572) dL_law_571 rfl ?_
  refine SP.iadd (pc' := 573) dL_law_572 rfl ?_
  refine SP.sld (pc' := 574) dL_law_573 rfl (by omega) (by omega) hL ?_
  refine SP.opI (pc' := 577) dL_law_574 rfl cL_68 (cc_slip c o (fp_rng_of _) (fp_rng_of _) (fp_rng_of _)) rfl rfl (by decide) (Nat.le_refl _) (Nat.le_refl _) rfl (Nat.le_of_ble_eq_true rfl) (fun z1 M1 q1 => ?_)
  obtain ⟨e1, c1, f1⟩ := q1
  have m1 := f1.ms m
  have r1 := f1.rd r
  have k1 := f1.mr k
  refine SP.pop (pc' := 578) dL_law_577 rfl rfl ?_
  refine SP.aload_n (pc' := 579) dL_law_578 rfl rfl rfl ?_
  refine SP.aload_n (pc' := 580) dL_law_579 rfl rfl rfl ?_
  refine SP.iload_n (pc' := 581) dL_law_580 rfl rfl rfl ?_
  refine SP.iconst (pc' := 582) dL_law_581 rfl ?_
  refine SP.iadd (pc' := 583) dL_law_582 rfl ?_
  refine SP.sld (pc' := 584) dL_law_583 rfl (by omega) (by omega) hL ?_
  refine SP.aload_n (pc' := 585) dL_law_584 rfl rfl rfl ?_
  refine SP.iload_n (pc' := 586) dL_law_585 rfl rfl rfl ?_
  refine SP.iconst (pc' := 587) dL_law_586 rfl ?_
  refine SP.iadd (pc' := 588) dL_law_587 rfl ?_
  refine SP.sld (pc' := 589) dL_law_588 rfl (by omega) (by omega) hL ?_
  refine SP.aload_n (pc' := 590) dL_law_589 rfl rfl rfl ?_
  refine SP.iload_n (pc' := 591) dL_law_590 rfl rfl rfl ?_
  refine SP.iconst (pc' := 592) dL_law_591 rfl ?_
  refine SP.iadd (pc' := 593) dL_law_592 rfl ?_
  refine SP.sld (pc' := 594) dL_law_593 rfl (by omega) (by omega) hL ?_
  refine SP.opI (pc' := 597) dL_law_594 rfl cL_71 (mm_slip m1 o (fp_rng_of _) (fp_rng_of _) (fp_rng_of _)) rfl rfl (by decide) (Nat.le_refl _) (Nat.le_refl _) rfl (Nat.le_of_ble_eq_true rfl) (fun z2 M2 q2 => ?_)
  obtain ⟨e2, m2, f2⟩ := q2
  have hI2 : LI M2 := ⟨_, _, _, _, _, _, _, _, _, _, f2.cs c1, m2, o.slip, f2.rd r1, f2.mr k1⟩
  refine SP.pop (pc' := 598) dL_law_597 rfl rfl ?_
  refine SP.goto (pc' := 1497) dL_law_598 (by decide) ?_
  exact K _ hI2
theorem law_come {M : fp_Mem} (hI : LI M) (h0 : 0 ≤ i) (h7 : i + 7 ≤ (G.2.2.2.2.2.1 : Int)) (hL : G.2.2.2.2.2.1 ≤ 2147483647) (K : ∀ M', LI M' → fp_SP l G 2048 203 203 5193 203 5193 203 (kL nm) 1497 [some (.ref G.1), some (rV G 0), some (rV G 177), some (iV i)] [] (fp_sx M') (fun r _ => r = some (iV 1))) : fp_SP l G 2048 203 203 5193 203 5193 203 (kL nm) 601 [some (.ref G.1), some (rV G 0), some (rV G 177), some (iV i)] [] (fp_sx M) (fun r _ => r = some (iV 1)) := by
  obtain ⟨tp, fc, fm, g, pg, vs, nt, im, sh, tn, c, m, o, r, k⟩ := hI
  refine SP.aload_n (pc' := 602) dL_law_601 rfl rfl rfl ?_
  refine SP.aload_n (pc' := 603) dL_law_602 rfl rfl rfl ?_
  refine SP.iload_n (pc' := 604) dL_law_603 rfl rfl rfl ?_
  refine SP.iconst (pc' := 605) dL_law_604 rfl ?_
  refine SP.iadd (pc' := 606) dL_law_605 rfl ?_
  refine SP.sld (pc' := 607) dL_law_606 rfl (by omega) (by omega) hL ?_
  refine SP.aload_n (pc' := 608) dL_law_607 rfl rfl rfl ?_
  refine SP.iload_n (pc' := 609) dL_law_608 rfl rfl rfl ?_
  refine SP.iconst (pc' := 610) dL_law_609 rfl ?_
  refine SP.iadd (pc' := 611) dL_law_610 rfl ?_
  refine SP.sld (pc' := 612) dL_law_611 rfl (by omega) (by omega) hL ?_
  refine SP.aload_n (pc' := 613) dL_law_612 rfl rfl rfl ?_
  refine SP.iload_n (pc' := 614) dL_law_613 rfl rfl rfl ?_
  refine SP.iconst (pc' := 615) dL_law_614 rfl ?_
  refine SP.iadd (pc' := 616) dL_law_615 rfl ?_
  refine SP.sld (pc' := 617) dL_law_616 rfl (by omega) (by omega) hL ?_
  refine SP.aload_n (pc' := 618) dL_law_617 rfl rfl rfl ?_
  refine SP.iload_n (pc' := 619) dL_law_618 rfl rfl rfl ?_
  refine SP.iconst (pc' := 620) dL_law_619 rfl ?_
  refine SP.iadd (pc' := 621) dL_law_620 rfl ?_
  refine SP.sld (pc' := 622) dL_law_621 rfl (by omega) (by omega) hL ?_
  refine SP.opI (pc' := 625) dL_law_622 rfl cL_72 (cc_come c o (fp_rng_of _) (fp_rng_of _) (fp_rng_of _) (fp_rng_of _)) rfl rfl (by decide) (Nat.le_refl _) (Nat.le_refl _) rfl (Nat.le_of_ble_eq_true rfl) (fun z1 M1 q1 => ?_)
  obtain ⟨e1, c1, f1⟩ := q1
  have m1 := f1.ms m
  have r1 := f1.rd r
  have k1 := f1.mr k
  refine SP.pop (pc' := 626) dL_law_625 rfl rfl ?_
  refine SP.aload_n (pc' := 627) dL_law_626 rfl rfl rfl ?_
  refine SP.aload_n (pc' := 628) dL_law_627 rfl rfl rfl ?_
  refine SP.iload_n (pc' := 629) dL_law_628 rfl rfl rfl ?_
  refine SP.iconst (pc' := 630) dL_law_629 rfl ?_
  refine SP.iadd (pc' := 631) dL_law_630 rfl ?_
  refine SP.sld (pc' := 632) dL_law_631 rfl (by omega) (by omega) hL ?_
  refine SP.aload_n (pc' := 633) dL_law_632 rfl rfl rfl ?_
  refine SP.iload_n (pc' := 634) dL_law_633 rfl rfl rfl ?_
  refine SP.iconst (pc' := 635) dL_law_634 rfl ?_
  refine SP.iadd (pc' := 636) dL_law_635 rfl ?_
  refine SP.sld (pc' := 637) dL_law_636 rfl (by omega) (by omega) hL ?_
  refine SP.aload_n (pc' := 638) dL_law_637 rfl rfl rfl ?_
  refine SP.iload_n (pc' := 639) dL_law_638 rfl rfl rfl ?_
  refine SP.iconst (pc' := 640) dL_law_639 rfl ?_
  refine SP.iadd (pc' := 641) dL_law_640 rfl ?_
  refine SP.sld (pc' := 642) dL_law_641 rfl (by omega) (by omega) hL ?_
  refine SP.aload_n (pc' := 643) dL_law_642 rfl rfl rfl ?_
  refine SP.iload_n (pc' := 644) dL_law_643 rfl rfl rfl ?_
  refine SP.iconst (pc' := 645) dL_law_644 rfl ?_
  refine SP.iadd (pc' := 646) dL_law_645 rfl ?_
  refine SP.sld (pc' := 647) dL_law_646 rfl (by omega) (by omega) hL ?_
  refine SP.opI (pc' := 650) dL_law_647 rfl cL_76 (mm_come m1 o (fp_rng_of _) (fp_rng_of _) (fp_rng_of _) (fp_rng_of _)) rfl rfl (by decide) (Nat.le_refl _) (Nat.le_refl _) rfl (Nat.le_of_ble_eq_true rfl) (fun z2 M2 q2 => ?_)
  obtain ⟨e2, m2, f2⟩ := q2
  have hI2 : LI M2 := ⟨_, _, _, _, _, _, _, _, _, _, f2.cs c1, m2, o.come, f2.rd r1, f2.mr k1⟩
  refine SP.pop (pc' := 651) dL_law_650 rfl rfl ?_
  refine SP.goto (pc' := 1497) dL_law_651 (by decide) ?_
  exact K _ hI2
theorem law_cut {M : fp_Mem} (hI : LI M) (h0 : 0 ≤ i) (h7 : i + 7 ≤ (G.2.2.2.2.2.1 : Int)) (hL : G.2.2.2.2.2.1 ≤ 2147483647) (K : ∀ M', LI M' → fp_SP l G 2048 203 203 5193 203 5193 203 (kL nm) 1497 [some (.ref G.1), some (rV G 0), some (rV G 177), some (iV i)] [] (fp_sx M') (fun r _ => r = some (iV 1))) : fp_SP l G 2048 203 203 5193 203 5193 203 (kL nm) 654 [some (.ref G.1), some (rV G 0), some (rV G 177), some (iV i)] [] (fp_sx M) (fun r _ => r = some (iV 1)) := by
  obtain ⟨tp, fc, fm, g, pg, vs, nt, im, sh, tn, c, m, o, r, k⟩ := hI
  refine SP.aload_n (pc' := 655) dL_law_654 rfl rfl rfl ?_
  refine SP.aload_n (pc' := 656) dL_law_655 rfl rfl rfl ?_
  refine SP.iload_n (pc' := 657) dL_law_656 rfl rfl rfl ?_
  refine SP.iconst (pc' := 658) dL_law_657 rfl ?_
  refine SP.iadd (pc' := 659) dL_law_658 rfl ?_
  refine SP.sld (pc' := 660) dL_law_659 rfl (by omega) (by omega) hL ?_
  refine SP.opI (pc' := 663) dL_law_660 rfl cL_77 (cc_cut c (fp_rng_of _)) rfl rfl (by decide) (Nat.le_refl _) (Nat.le_refl _) rfl (Nat.le_of_ble_eq_true rfl) (fun z1 M1 q1 => ?_)
  obtain ⟨e1, c1, f1⟩ := q1
  have m1 := f1.ms m
  have r1 := f1.rd r
  have k1 := f1.mr k
  refine SP.pop (pc' := 664) dL_law_663 rfl rfl ?_
  refine SP.aload_n (pc' := 665) dL_law_664 rfl rfl rfl ?_
  refine SP.aload_n (pc' := 666) dL_law_665 rfl rfl rfl ?_
  refine SP.iload_n (pc' := 667) dL_law_666 rfl rfl rfl ?_
  refine SP.iconst (pc' := 668) dL_law_667 rfl ?_
  refine SP.iadd (pc' := 669) dL_law_668 rfl ?_
  refine SP.sld (pc' := 670) dL_law_669 rfl (by omega) (by omega) hL ?_
  refine SP.opI (pc' := 673) dL_law_670 rfl cL_80 (mm_cut m1 o (fp_rng_of _)) rfl rfl (by decide) (Nat.le_refl _) (Nat.le_refl _) rfl (Nat.le_of_ble_eq_true rfl) (fun z2 M2 q2 => ?_)
  obtain ⟨e2, m2, f2⟩ := q2
  have hI2 : LI M2 := ⟨_, _, _, _, _, _, _, _, _, _, f2.cs c1, m2, o.cut, f2.rd r1, f2.mr k1⟩
  refine SP.pop (pc' := 674) dL_law_673 rfl rfl ?_
  refine SP.goto (pc' := 1497) dL_law_674 (by decide) ?_
  exact K _ hI2
theorem law_go {M : fp_Mem} (hI : LI M) (h0 : 0 ≤ i) (h7 : i + 7 ≤ (G.2.2.2.2.2.1 : Int)) (hL : G.2.2.2.2.2.1 ≤ 2147483647) (K : ∀ M', LI M' → fp_SP l G 2048 203 203 5193 203 5193 203 (kL nm) 1497 [some (.ref G.1), some (rV G 0), some (rV G 177), some (iV i)] [] (fp_sx M') (fun r _ => r = some (iV 1))) : fp_SP l G 2048 203 203 5193 203 5193 203 (kL nm) 677 [some (.ref G.1), some (rV G 0), some (rV G 177), some (iV i)] [] (fp_sx M) (fun r _ => r = some (iV 1)) := by
  obtain ⟨tp, fc, fm, g, pg, vs, nt, im, sh, tn, c, m, o, r, k⟩ := hI
  refine SP.aload_n (pc' := 678) dL_law_677 rfl rfl rfl ?_
  refine SP.aload_n (pc' := 679) dL_law_678 rfl rfl rfl ?_
  refine SP.iload_n (pc' := 680) dL_law_679 rfl rfl rfl ?_
  refine SP.iconst (pc' := 681) dL_law_680 rfl ?_
  refine SP.iadd (pc' := 682) dL_law_681 rfl ?_
  refine SP.sld (pc' := 683) dL_law_682 rfl (by omega) (by omega) hL ?_
  refine SP.opI (pc' := 686) dL_law_683 rfl cL_81 (cc_go c o (fp_rng_of _)) rfl rfl (by decide) (Nat.le_refl _) (Nat.le_refl _) rfl (Nat.le_of_ble_eq_true rfl) (fun z1 M1 q1 => ?_)
  obtain ⟨e1, c1, f1⟩ := q1
  have m1 := f1.ms m
  have r1 := f1.rd r
  have k1 := f1.mr k
  refine SP.pop (pc' := 687) dL_law_686 rfl rfl ?_
  refine SP.aload_n (pc' := 688) dL_law_687 rfl rfl rfl ?_
  refine SP.aload_n (pc' := 689) dL_law_688 rfl rfl rfl ?_
  refine SP.iload_n (pc' := 690) dL_law_689 rfl rfl rfl ?_
  refine SP.iconst (pc' := 691) dL_law_690 rfl ?_
  refine SP.iadd (pc' := 692) dL_law_691 rfl ?_
  refine SP.sld (pc' := 693) dL_law_692 rfl (by omega) (by omega) hL ?_
  refine SP.opI (pc' := 696) dL_law_693 rfl cL_84 (mm_go m1 o (fp_rng_of _)) rfl rfl (by decide) (Nat.le_refl _) (Nat.le_refl _) rfl (Nat.le_of_ble_eq_true rfl) (fun z2 M2 q2 => ?_)
  obtain ⟨e2, m2, f2⟩ := q2
  have hI2 : LI M2 := ⟨_, _, _, _, _, _, _, _, _, _, f2.cs c1, m2, o.go, f2.rd r1, f2.mr k1⟩
  refine SP.pop (pc' := 697) dL_law_696 rfl rfl ?_
  refine SP.goto (pc' := 1497) dL_law_697 (by decide) ?_
  exact K _ hI2
theorem law_after {M : fp_Mem} (hI : LI M) (h0 : 0 ≤ i) (h7 : i + 7 ≤ (G.2.2.2.2.2.1 : Int)) (hL : G.2.2.2.2.2.1 ≤ 2147483647) (K : ∀ M', LI M' → fp_SP l G 2048 203 203 5193 203 5193 203 (kL nm) 1497 [some (.ref G.1), some (rV G 0), some (rV G 177), some (iV i)] [] (fp_sx M') (fun r _ => r = some (iV 1))) : fp_SP l G 2048 203 203 5193 203 5193 203 (kL nm) 700 [some (.ref G.1), some (rV G 0), some (rV G 177), some (iV i)] [] (fp_sx M) (fun r _ => r = some (iV 1)) := by
  obtain ⟨tp, fc, fm, g, pg, vs, nt, im, sh, tn, c, m, o, r, k⟩ := hI
  refine SP.aload_n (pc' := 701) dL_law_700 rfl rfl rfl ?_
  refine SP.aload_n (pc' := 702) dL_law_701 rfl rfl rfl ?_
  refine SP.iload_n (pc' := 703) dL_law_702 rfl rfl rfl ?_
  refine SP.iconst (pc' := 704) dL_law_703 rfl ?_
  refine SP.iadd (pc' := 705) dL_law_704 rfl ?_
  refine SP.sld (pc' := 706) dL_law_705 rfl (by omega) (by omega) hL ?_
  refine SP.aload_n (pc' := 707) dL_law_706 rfl rfl rfl ?_
  refine SP.iload_n (pc' := 708) dL_law_707 rfl rfl rfl ?_
  refine SP.iconst (pc' := 709) dL_law_708 rfl ?_
  refine SP.iadd (pc' := 710) dL_law_709 rfl ?_
  refine SP.sld (pc' := 711) dL_law_710 rfl (by omega) (by omega) hL ?_
  refine SP.opI (pc' := 714) dL_law_711 rfl cL_85 (cc_after c o (fp_rng_of _) (fp_rng_of _)) rfl rfl (by decide) (Nat.le_refl _) (Nat.le_refl _) rfl (Nat.le_of_ble_eq_true rfl) (fun z1 M1 q1 => ?_)
  obtain ⟨e1, c1, f1⟩ := q1
  have m1 := f1.ms m
  have r1 := f1.rd r
  have k1 := f1.mr k
  refine SP.pop (pc' := 715) dL_law_714 rfl rfl ?_
  refine SP.aload_n (pc' := 716) dL_law_715 rfl rfl rfl ?_
  refine SP.aload_n (pc' := 717) dL_law_716 rfl rfl rfl ?_
  refine SP.iload_n (pc' := 718) dL_law_717 rfl rfl rfl ?_
  refine SP.iconst (pc' := 719) dL_law_718 rfl ?_
  refine SP.iadd (pc' := 720) dL_law_719 rfl ?_
  refine SP.sld (pc' := 721) dL_law_720 rfl (by omega) (by omega) hL ?_
  refine SP.aload_n (pc' := 722) dL_law_721 rfl rfl rfl ?_
  refine SP.iload_n (pc' := 723) dL_law_722 rfl rfl rfl ?_
  refine SP.iconst (pc' := 724) dL_law_723 rfl ?_
  refine SP.iadd (pc' := 725) dL_law_724 rfl ?_
  refine SP.sld (pc' := 726) dL_law_725 rfl (by omega) (by omega) hL ?_
  refine SP.opI (pc' := 729) dL_law_726 rfl cL_88 (mm_after m1 o (fp_rng_of _) (fp_rng_of _)) rfl rfl (by decide) (Nat.le_refl _) (Nat.le_refl _) rfl (Nat.le_of_ble_eq_true rfl) (fun z2 M2 q2 => ?_)
  obtain ⟨e2, m2, f2⟩ := q2
  have hI2 : LI M2 := ⟨_, _, _, _, _, _, _, _, _, _, f2.cs c1, m2, o, f2.rd r1, f2.mr k1⟩
  refine SP.pop (pc' := 730) dL_law_729 rfl rfl ?_
  refine SP.goto (pc' := 1497) dL_law_730 (by decide) ?_
  exact K _ hI2
theorem law_gains {M : fp_Mem} (hI : LI M) (h0 : 0 ≤ i) (h7 : i + 7 ≤ (G.2.2.2.2.2.1 : Int)) (hL : G.2.2.2.2.2.1 ≤ 2147483647) (K : ∀ M', LI M' → fp_SP l G 2048 203 203 5193 203 5193 203 (kL nm) 1497 [some (.ref G.1), some (rV G 0), some (rV G 177), some (iV i)] [] (fp_sx M') (fun r _ => r = some (iV 1))) : fp_SP l G 2048 203 203 5193 203 5193 203 (kL nm) 733 [some (.ref G.1), some (rV G 0), some (rV G 177), some (iV i)] [] (fp_sx M) (fun r _ => r = some (iV 1)) := by
  obtain ⟨tp, fc, fm, g, pg, vs, nt, im, sh, tn, c, m, o, r, k⟩ := hI
  refine SP.aload_n (pc' := 734) dL_law_733 rfl rfl rfl ?_
  refine SP.aload_n (pc' := 735) dL_law_734 rfl rfl rfl ?_
  refine SP.iload_n (pc' := 736) dL_law_735 rfl rfl rfl ?_
  refine SP.iconst (pc' := 737) dL_law_736 rfl ?_
  refine SP.iadd (pc' := 738) dL_law_737 rfl ?_
  refine SP.sld (pc' := 739) dL_law_738 rfl (by omega) (by omega) hL ?_
  refine SP.aload_n (pc' := 740) dL_law_739 rfl rfl rfl ?_
  refine SP.iload_n (pc' := 741) dL_law_740 rfl rfl rfl ?_
  refine SP.iconst (pc' := 742) dL_law_741 rfl ?_
  refine SP.iadd (pc' := 743) dL_law_742 rfl ?_
  refine SP.sld (pc' := 744) dL_law_743 rfl (by omega) (by omega) hL ?_
  refine SP.opI (pc' := 747) dL_law_744 rfl cL_89 (cc_gains c o (fp_rng_of _) (fp_rng_of _)) rfl rfl (by decide) (Nat.le_refl _) (Nat.le_refl _) rfl (Nat.le_of_ble_eq_true rfl) (fun z1 M1 q1 => ?_)
  obtain ⟨e1, c1, f1⟩ := q1
  have m1 := f1.ms m
  have r1 := f1.rd r
  have k1 := f1.mr k
  refine SP.pop (pc' := 748) dL_law_747 rfl rfl ?_
  refine SP.aload_n (pc' := 749) dL_law_748 rfl rfl rfl ?_
  refine SP.aload_n (pc' := 750) dL_law_749 rfl rfl rfl ?_
  refine SP.iload_n (pc' := 751) dL_law_750 rfl rfl rfl ?_
  refine SP.iconst (pc' := 752) dL_law_751 rfl ?_
  refine SP.iadd (pc' := 753) dL_law_752 rfl ?_
  refine SP.sld (pc' := 754) dL_law_753 rfl (by omega) (by omega) hL ?_
  refine SP.aload_n (pc' := 755) dL_law_754 rfl rfl rfl ?_
  refine SP.iload_n (pc' := 756) dL_law_755 rfl rfl rfl ?_
  refine SP.iconst (pc' := 757) dL_law_756 rfl ?_
  refine SP.iadd (pc' := 758) dL_law_757 rfl ?_
  refine SP.sld (pc' := 759) dL_law_758 rfl (by omega) (by omega) hL ?_
  refine SP.opI (pc' := 762) dL_law_759 rfl cL_92 (mm_gains m1 o (fp_rng_of _) (fp_rng_of _)) rfl rfl (by decide) (Nat.le_refl _) (Nat.le_refl _) rfl (Nat.le_of_ble_eq_true rfl) (fun z2 M2 q2 => ?_)
  obtain ⟨e2, m2, f2⟩ := q2
  have hI2 : LI M2 := ⟨_, _, _, _, _, _, _, _, _, _, f2.cs c1, m2, o, f2.rd r1, f2.mr k1⟩
  refine SP.pop (pc' := 763) dL_law_762 rfl rfl ?_
  refine SP.goto (pc' := 1497) dL_law_763 (by decide) ?_
  exact K _ hI2
theorem law_vain {M : fp_Mem} (hI : LI M) (h0 : 0 ≤ i) (h7 : i + 7 ≤ (G.2.2.2.2.2.1 : Int)) (hL : G.2.2.2.2.2.1 ≤ 2147483647) (K : ∀ M', LI M' → fp_SP l G 2048 203 203 5193 203 5193 203 (kL nm) 1497 [some (.ref G.1), some (rV G 0), some (rV G 177), some (iV i)] [] (fp_sx M') (fun r _ => r = some (iV 1))) : fp_SP l G 2048 203 203 5193 203 5193 203 (kL nm) 766 [some (.ref G.1), some (rV G 0), some (rV G 177), some (iV i)] [] (fp_sx M) (fun r _ => r = some (iV 1)) := by
  obtain ⟨tp, fc, fm, g, pg, vs, nt, im, sh, tn, c, m, o, r, k⟩ := hI
  refine SP.aload_n (pc' := 767) dL_law_766 rfl rfl rfl ?_
  refine SP.opI (pc' := 770) dL_law_767 rfl cL_93 (cc_vain c o ) rfl rfl (by decide) (Nat.le_refl _) (Nat.le_refl _) rfl (Nat.le_of_ble_eq_true rfl) (fun z1 M1 q1 => ?_)
  obtain ⟨e1, c1, f1⟩ := q1
  have m1 := f1.ms m
  have r1 := f1.rd r
  have k1 := f1.mr k
  refine SP.pop (pc' := 771) dL_law_770 rfl rfl ?_
  refine SP.aload_n (pc' := 772) dL_law_771 rfl rfl rfl ?_
  refine SP.opI (pc' := 775) dL_law_772 rfl cL_96 (mm_vain m1 o ) rfl rfl (by decide) (Nat.le_refl _) (Nat.le_refl _) rfl (Nat.le_of_ble_eq_true rfl) (fun z2 M2 q2 => ?_)
  obtain ⟨e2, m2, f2⟩ := q2
  have hI2 : LI M2 := ⟨_, _, _, _, _, _, _, _, _, _, f2.cs c1, m2, o, f2.rd r1, f2.mr k1⟩
  refine SP.pop (pc' := 776) dL_law_775 rfl rfl ?_
  refine SP.goto (pc' := 1497) dL_law_776 (by decide) ?_
  exact K _ hI2
theorem law_lost {M : fp_Mem} (hI : LI M) (h0 : 0 ≤ i) (h7 : i + 7 ≤ (G.2.2.2.2.2.1 : Int)) (hL : G.2.2.2.2.2.1 ≤ 2147483647) (K : ∀ M', LI M' → fp_SP l G 2048 203 203 5193 203 5193 203 (kL nm) 1497 [some (.ref G.1), some (rV G 0), some (rV G 177), some (iV i)] [] (fp_sx M') (fun r _ => r = some (iV 1))) : fp_SP l G 2048 203 203 5193 203 5193 203 (kL nm) 779 [some (.ref G.1), some (rV G 0), some (rV G 177), some (iV i)] [] (fp_sx M) (fun r _ => r = some (iV 1)) := by
  obtain ⟨tp, fc, fm, g, pg, vs, nt, im, sh, tn, c, m, o, r, k⟩ := hI
  refine SP.aload_n (pc' := 780) dL_law_779 rfl rfl rfl ?_
  refine SP.aload_n (pc' := 781) dL_law_780 rfl rfl rfl ?_
  refine SP.iload_n (pc' := 782) dL_law_781 rfl rfl rfl ?_
  refine SP.iconst (pc' := 783) dL_law_782 rfl ?_
  refine SP.iadd (pc' := 784) dL_law_783 rfl ?_
  refine SP.sld (pc' := 785) dL_law_784 rfl (by omega) (by omega) hL ?_
  refine SP.opI (pc' := 788) dL_law_785 rfl cL_97 (cc_lost c o (fp_rng_of _)) rfl rfl (by decide) (Nat.le_refl _) (Nat.le_refl _) rfl (Nat.le_of_ble_eq_true rfl) (fun z1 M1 q1 => ?_)
  obtain ⟨e1, c1, f1⟩ := q1
  have m1 := f1.ms m
  have r1 := f1.rd r
  have k1 := f1.mr k
  refine SP.pop (pc' := 789) dL_law_788 rfl rfl ?_
  refine SP.aload_n (pc' := 790) dL_law_789 rfl rfl rfl ?_
  refine SP.aload_n (pc' := 791) dL_law_790 rfl rfl rfl ?_
  refine SP.iload_n (pc' := 792) dL_law_791 rfl rfl rfl ?_
  refine SP.iconst (pc' := 793) dL_law_792 rfl ?_
  refine SP.iadd (pc' := 794) dL_law_793 rfl ?_
  refine SP.sld (pc' := 795) dL_law_794 rfl (by omega) (by omega) hL ?_
  refine SP.opI (pc' := 798) dL_law_795 rfl cL_100 (mm_lost m1 o (fp_rng_of _)) rfl rfl (by decide) (Nat.le_refl _) (Nat.le_refl _) rfl (Nat.le_of_ble_eq_true rfl) (fun z2 M2 q2 => ?_)
  obtain ⟨e2, m2, f2⟩ := q2
  have hI2 : LI M2 := ⟨_, _, _, _, _, _, _, _, _, _, f2.cs c1, m2, o, f2.rd r1, f2.mr k1⟩
  refine SP.pop (pc' := 799) dL_law_798 rfl rfl ?_
  refine SP.goto (pc' := 1497) dL_law_799 (by decide) ?_
  exact K _ hI2
theorem law_since {M : fp_Mem} (hI : LI M) (h0 : 0 ≤ i) (h7 : i + 7 ≤ (G.2.2.2.2.2.1 : Int)) (hL : G.2.2.2.2.2.1 ≤ 2147483647) (K : ∀ M', LI M' → fp_SP l G 2048 203 203 5193 203 5193 203 (kL nm) 1497 [some (.ref G.1), some (rV G 0), some (rV G 177), some (iV i)] [] (fp_sx M') (fun r _ => r = some (iV 1))) : fp_SP l G 2048 203 203 5193 203 5193 203 (kL nm) 802 [some (.ref G.1), some (rV G 0), some (rV G 177), some (iV i)] [] (fp_sx M) (fun r _ => r = some (iV 1)) := by
  obtain ⟨tp, fc, fm, g, pg, vs, nt, im, sh, tn, c, m, o, r, k⟩ := hI
  refine SP.aload_n (pc' := 803) dL_law_802 rfl rfl rfl ?_
  refine SP.aload_n (pc' := 804) dL_law_803 rfl rfl rfl ?_
  refine SP.iload_n (pc' := 805) dL_law_804 rfl rfl rfl ?_
  refine SP.iconst (pc' := 806) dL_law_805 rfl ?_
  refine SP.iadd (pc' := 807) dL_law_806 rfl ?_
  refine SP.sld (pc' := 808) dL_law_807 rfl (by omega) (by omega) hL ?_
  refine SP.aload_n (pc' := 809) dL_law_808 rfl rfl rfl ?_
  refine SP.iload_n (pc' := 810) dL_law_809 rfl rfl rfl ?_
  refine SP.iconst (pc' := 811) dL_law_810 rfl ?_
  refine SP.iadd (pc' := 812) dL_law_811 rfl ?_
  refine SP.sld (pc' := 813) dL_law_812 rfl (by omega) (by omega) hL ?_
  refine SP.opI (pc' := 816) dL_law_813 rfl cL_101 (cc_since c o (fp_rng_of _) (fp_rng_of _)) rfl rfl (by decide) (Nat.le_refl _) (Nat.le_refl _) rfl (Nat.le_of_ble_eq_true rfl) (fun z1 M1 q1 => ?_)
  obtain ⟨e1, c1, f1⟩ := q1
  have m1 := f1.ms m
  have r1 := f1.rd r
  have k1 := f1.mr k
  refine SP.pop (pc' := 817) dL_law_816 rfl rfl ?_
  refine SP.aload_n (pc' := 818) dL_law_817 rfl rfl rfl ?_
  refine SP.aload_n (pc' := 819) dL_law_818 rfl rfl rfl ?_
  refine SP.iload_n (pc' := 820) dL_law_819 rfl rfl rfl ?_
  refine SP.iconst (pc' := 821) dL_law_820 rfl ?_
  refine SP.iadd (pc' := 822) dL_law_821 rfl ?_
  refine SP.sld (pc' := 823) dL_law_822 rfl (by omega) (by omega) hL ?_
  refine SP.aload_n (pc' := 824) dL_law_823 rfl rfl rfl ?_
  refine SP.iload_n (pc' := 825) dL_law_824 rfl rfl rfl ?_
  refine SP.iconst (pc' := 826) dL_law_825 rfl ?_
  refine SP.iadd (pc' := 827) dL_law_826 rfl ?_
  refine SP.sld (pc' := 828) dL_law_827 rfl (by omega) (by omega) hL ?_
  refine SP.opI (pc' := 831) dL_law_828 rfl cL_104 (mm_since m1 o (fp_rng_of _) (fp_rng_of _)) rfl rfl (by decide) (Nat.le_refl _) (Nat.le_refl _) rfl (Nat.le_of_ble_eq_true rfl) (fun z2 M2 q2 => ?_)
  obtain ⟨e2, m2, f2⟩ := q2
  have hI2 : LI M2 := ⟨_, _, _, _, _, _, _, _, _, _, f2.cs c1, m2, o, f2.rd r1, f2.mr k1⟩
  refine SP.pop (pc' := 832) dL_law_831 rfl rfl ?_
  refine SP.goto (pc' := 1497) dL_law_832 (by decide) ?_
  exact K _ hI2
theorem law_extra {M : fp_Mem} (hI : LI M) (h0 : 0 ≤ i) (h7 : i + 7 ≤ (G.2.2.2.2.2.1 : Int)) (hL : G.2.2.2.2.2.1 ≤ 2147483647) (K : ∀ M', LI M' → fp_SP l G 2048 203 203 5193 203 5193 203 (kL nm) 1497 [some (.ref G.1), some (rV G 0), some (rV G 177), some (iV i)] [] (fp_sx M') (fun r _ => r = some (iV 1))) : fp_SP l G 2048 203 203 5193 203 5193 203 (kL nm) 835 [some (.ref G.1), some (rV G 0), some (rV G 177), some (iV i)] [] (fp_sx M) (fun r _ => r = some (iV 1)) := by
  obtain ⟨tp, fc, fm, g, pg, vs, nt, im, sh, tn, c, m, o, r, k⟩ := hI
  refine SP.aload_n (pc' := 836) dL_law_835 rfl rfl rfl ?_
  refine SP.aload_n (pc' := 837) dL_law_836 rfl rfl rfl ?_
  refine SP.iload_n (pc' := 838) dL_law_837 rfl rfl rfl ?_
  refine SP.iconst (pc' := 839) dL_law_838 rfl ?_
  refine SP.iadd (pc' := 840) dL_law_839 rfl ?_
  refine SP.sld (pc' := 841) dL_law_840 rfl (by omega) (by omega) hL ?_
  refine SP.aload_n (pc' := 842) dL_law_841 rfl rfl rfl ?_
  refine SP.iload_n (pc' := 843) dL_law_842 rfl rfl rfl ?_
  refine SP.iconst (pc' := 844) dL_law_843 rfl ?_
  refine SP.iadd (pc' := 845) dL_law_844 rfl ?_
  refine SP.sld (pc' := 846) dL_law_845 rfl (by omega) (by omega) hL ?_
  refine SP.aload_n (pc' := 847) dL_law_846 rfl rfl rfl ?_
  refine SP.iload_n (pc' := 848) dL_law_847 rfl rfl rfl ?_
  refine SP.iconst (pc' := 849) dL_law_848 rfl ?_
  refine SP.iadd (pc' := 850) dL_law_849 rfl ?_
  refine SP.sld (pc' := 851) dL_law_850 rfl (by omega) (by omega) hL ?_
  refine SP.opI (pc' := 854) dL_law_851 rfl cL_105 (cc_extra c o (fp_rng_of _) (fp_rng_of _) (fp_rng_of _)) rfl rfl (by decide) (Nat.le_refl _) (Nat.le_refl _) rfl (Nat.le_of_ble_eq_true rfl) (fun z1 M1 q1 => ?_)
  obtain ⟨e1, c1, f1⟩ := q1
  have m1 := f1.ms m
  have r1 := f1.rd r
  have k1 := f1.mr k
  refine SP.pop (pc' := 855) dL_law_854 rfl rfl ?_
  refine SP.aload_n (pc' := 856) dL_law_855 rfl rfl rfl ?_
  refine SP.aload_n (pc' := 857) dL_law_856 rfl rfl rfl ?_
  refine SP.iload_n (pc' := 858) dL_law_857 rfl rfl rfl ?_
  refine SP.iconst (pc' := 859) dL_law_858 rfl ?_
  refine SP.iadd (pc' := 860) dL_law_859 rfl ?_
  refine SP.sld (pc' := 861) dL_law_860 rfl (by omega) (by omega) hL ?_
  refine SP.aload_n (pc' := 862) dL_law_861 rfl rfl rfl ?_
  refine SP.iload_n (pc' := 863) dL_law_862 rfl rfl rfl ?_
  refine SP.iconst (pc' := 864) dL_law_863 rfl ?_
  refine SP.iadd (pc' := 865) dL_law_864 rfl ?_
  refine SP.sld (pc' := 866) dL_law_865 rfl (by omega) (by omega) hL ?_
  refine SP.aload_n (pc' := 867) dL_law_866 rfl rfl rfl ?_
  refine SP.iload_n (pc' := 868) dL_law_867 rfl rfl rfl ?_
  refine SP.iconst (pc' := 869) dL_law_868 rfl ?_
  refine SP.iadd (pc' := 870) dL_law_869 rfl ?_
  refine SP.sld (pc' := 871) dL_law_870 rfl (by omega) (by omega) hL ?_
  refine SP.opI (pc' := 874) dL_law_871 rfl cL_108 (mm_extra m1 o (fp_rng_of _) (fp_rng_of _) (fp_rng_of _)) rfl rfl (by decide) (Nat.le_refl _) (Nat.le_refl _) rfl (Nat.le_of_ble_eq_true rfl) (fun z2 M2 q2 => ?_)
  obtain ⟨e2, m2, f2⟩ := q2
  have hI2 : LI M2 := ⟨_, _, _, _, _, _, _, _, _, _, f2.cs c1, m2, o, f2.rd r1, f2.mr k1⟩
  refine SP.pop (pc' := 875) dL_law_874 rfl rfl ?_
  refine SP.goto (pc' := 1497) dL_law_875 (by decide) ?_
  exact K _ hI2
theorem law_aim {M : fp_Mem} (hI : LI M) (h0 : 0 ≤ i) (h7 : i + 7 ≤ (G.2.2.2.2.2.1 : Int)) (hL : G.2.2.2.2.2.1 ≤ 2147483647) (K : ∀ M', LI M' → fp_SP l G 2048 203 203 5193 203 5193 203 (kL nm) 1497 [some (.ref G.1), some (rV G 0), some (rV G 177), some (iV i)] [] (fp_sx M') (fun r _ => r = some (iV 1))) : fp_SP l G 2048 203 203 5193 203 5193 203 (kL nm) 878 [some (.ref G.1), some (rV G 0), some (rV G 177), some (iV i)] [] (fp_sx M) (fun r _ => r = some (iV 1)) := by
  obtain ⟨tp, fc, fm, g, pg, vs, nt, im, sh, tn, c, m, o, r, k⟩ := hI
  refine SP.aload_n (pc' := 879) dL_law_878 rfl rfl rfl ?_
  refine SP.aload_n (pc' := 880) dL_law_879 rfl rfl rfl ?_
  refine SP.iload_n (pc' := 881) dL_law_880 rfl rfl rfl ?_
  refine SP.iconst (pc' := 882) dL_law_881 rfl ?_
  refine SP.iadd (pc' := 883) dL_law_882 rfl ?_
  refine SP.sld (pc' := 884) dL_law_883 rfl (by omega) (by omega) hL ?_
  refine SP.aload_n (pc' := 885) dL_law_884 rfl rfl rfl ?_
  refine SP.iload_n (pc' := 886) dL_law_885 rfl rfl rfl ?_
  refine SP.iconst (pc' := 887) dL_law_886 rfl ?_
  refine SP.iadd (pc' := 888) dL_law_887 rfl ?_
  refine SP.sld (pc' := 889) dL_law_888 rfl (by omega) (by omega) hL ?_
  refine SP.opI (pc' := 892) dL_law_889 rfl cL_109 (cc_aim c o (fp_rng_of _) (fp_rng_of _)) rfl rfl (by decide) (Nat.le_refl _) (Nat.le_refl _) rfl (Nat.le_of_ble_eq_true rfl) (fun z1 M1 q1 => ?_)
  obtain ⟨e1, c1, f1⟩ := q1
  have m1 := f1.ms m
  have r1 := f1.rd r
  have k1 := f1.mr k
  refine SP.pop (pc' := 893) dL_law_892 rfl rfl ?_
  refine SP.aload_n (pc' := 894) dL_law_893 rfl rfl rfl ?_
  refine SP.aload_n (pc' := 895) dL_law_894 rfl rfl rfl ?_
  refine SP.iload_n (pc' := 896) dL_law_895 rfl rfl rfl ?_
  refine SP.iconst (pc' := 897) dL_law_896 rfl ?_
  refine SP.iadd (pc' := 898) dL_law_897 rfl ?_
  refine SP.sld (pc' := 899) dL_law_898 rfl (by omega) (by omega) hL ?_
  refine SP.aload_n (pc' := 900) dL_law_899 rfl rfl rfl ?_
  refine SP.iload_n (pc' := 901) dL_law_900 rfl rfl rfl ?_
  refine SP.iconst (pc' := 902) dL_law_901 rfl ?_
  refine SP.iadd (pc' := 903) dL_law_902 rfl ?_
  refine SP.sld (pc' := 904) dL_law_903 rfl (by omega) (by omega) hL ?_
  refine SP.opI (pc' := 907) dL_law_904 rfl cL_112 (mm_aim m1 o (fp_rng_of _) (fp_rng_of _)) rfl rfl (by decide) (Nat.le_refl _) (Nat.le_refl _) rfl (Nat.le_of_ble_eq_true rfl) (fun z2 M2 q2 => ?_)
  obtain ⟨e2, m2, f2⟩ := q2
  have hI2 : LI M2 := ⟨_, _, _, _, _, _, _, _, _, _, f2.cs c1, m2, o, f2.rd r1, f2.mr k1⟩
  refine SP.pop (pc' := 908) dL_law_907 rfl rfl ?_
  refine SP.goto (pc' := 1497) dL_law_908 (by decide) ?_
  exact K _ hI2
theorem law_trick {M : fp_Mem} (hI : LI M) (h0 : 0 ≤ i) (h7 : i + 7 ≤ (G.2.2.2.2.2.1 : Int)) (hL : G.2.2.2.2.2.1 ≤ 2147483647) (K : ∀ M', LI M' → fp_SP l G 2048 203 203 5193 203 5193 203 (kL nm) 1497 [some (.ref G.1), some (rV G 0), some (rV G 177), some (iV i)] [] (fp_sx M') (fun r _ => r = some (iV 1))) : fp_SP l G 2048 203 203 5193 203 5193 203 (kL nm) 911 [some (.ref G.1), some (rV G 0), some (rV G 177), some (iV i)] [] (fp_sx M) (fun r _ => r = some (iV 1)) := by
  obtain ⟨tp, fc, fm, g, pg, vs, nt, im, sh, tn, c, m, o, r, k⟩ := hI
  refine SP.aload_n (pc' := 912) dL_law_911 rfl rfl rfl ?_
  refine SP.aload_n (pc' := 913) dL_law_912 rfl rfl rfl ?_
  refine SP.iload_n (pc' := 914) dL_law_913 rfl rfl rfl ?_
  refine SP.iconst (pc' := 915) dL_law_914 rfl ?_
  refine SP.iadd (pc' := 916) dL_law_915 rfl ?_
  refine SP.sld (pc' := 917) dL_law_916 rfl (by omega) (by omega) hL ?_
  refine SP.aload_n (pc' := 918) dL_law_917 rfl rfl rfl ?_
  refine SP.iload_n (pc' := 919) dL_law_918 rfl rfl rfl ?_
  refine SP.iconst (pc' := 920) dL_law_919 rfl ?_
  refine SP.iadd (pc' := 921) dL_law_920 rfl ?_
  refine SP.sld (pc' := 922) dL_law_921 rfl (by omega) (by omega) hL ?_
  refine SP.aload_n (pc' := 923) dL_law_922 rfl rfl rfl ?_
  refine SP.iload_n (pc' := 924) dL_law_923 rfl rfl rfl ?_
  refine SP.iconst (pc' := 925) dL_law_924 rfl ?_
  refine SP.iadd (pc' := 926) dL_law_925 rfl ?_
  refine SP.sld (pc' := 927) dL_law_926 rfl (by omega) (by omega) hL ?_
  refine SP.aload_n (pc' := 928) dL_law_927 rfl rfl rfl ?_
  refine SP.iload_n (pc' := 929) dL_law_928 rfl rfl rfl ?_
  refine SP.iconst (pc' := 930) dL_law_929 rfl ?_
  refine SP.iadd (pc' := 931) dL_law_930 rfl ?_
  refine SP.sld (pc' := 932) dL_law_931 rfl (by omega) (by omega) hL ?_
  refine SP.opI (pc' := 935) dL_law_932 rfl cL_113 (cc_trick c o (fp_rng_of _) (fp_rng_of _) (fp_rng_of _) (fp_rng_of _)) rfl rfl (by decide) (Nat.le_refl _) (Nat.le_refl _) rfl (Nat.le_of_ble_eq_true rfl) (fun z1 M1 q1 => ?_)
  obtain ⟨e1, c1, f1⟩ := q1
  have m1 := f1.ms m
  have r1 := f1.rd r
  have k1 := f1.mr k
  refine SP.pop (pc' := 936) dL_law_935 rfl rfl ?_
  refine SP.aload_n (pc' := 937) dL_law_936 rfl rfl rfl ?_
  refine SP.aload_n (pc' := 938) dL_law_937 rfl rfl rfl ?_
  refine SP.iload_n (pc' := 939) dL_law_938 rfl rfl rfl ?_
  refine SP.iconst (pc' := 940) dL_law_939 rfl ?_
  refine SP.iadd (pc' := 941) dL_law_940 rfl ?_
  refine SP.sld (pc' := 942) dL_law_941 rfl (by omega) (by omega) hL ?_
  refine SP.aload_n (pc' := 943) dL_law_942 rfl rfl rfl ?_
  refine SP.iload_n (pc' := 944) dL_law_943 rfl rfl rfl ?_
  refine SP.iconst (pc' := 945) dL_law_944 rfl ?_
  refine SP.iadd (pc' := 946) dL_law_945 rfl ?_
  refine SP.sld (pc' := 947) dL_law_946 rfl (by omega) (by omega) hL ?_
  refine SP.aload_n (pc' := 948) dL_law_947 rfl rfl rfl ?_
  refine SP.iload_n (pc' := 949) dL_law_948 rfl rfl rfl ?_
  refine SP.iconst (pc' := 950) dL_law_949 rfl ?_
  refine SP.iadd (pc' := 951) dL_law_950 rfl ?_
  refine SP.sld (pc' := 952) dL_law_951 rfl (by omega) (by omega) hL ?_
  refine SP.aload_n (pc' := 953) dL_law_952 rfl rfl rfl ?_
  refine SP.iload_n (pc' := 954) dL_law_953 rfl rfl rfl ?_
  refine SP.iconst (pc' := 955) dL_law_954 rfl ?_
  refine SP.iadd (pc' := 956) dL_law_955 rfl ?_
  refine SP.sld (pc' := 957) dL_law_956 rfl (by omega) (by omega) hL ?_
  refine SP.opI (pc' := 960) dL_law_957 rfl cL_116 (mm_trick m1 o (fp_rng_of _) (fp_rng_of _) (fp_rng_of _) (fp_rng_of _)) rfl rfl (by decide) (Nat.le_refl _) (Nat.le_refl _) rfl (Nat.le_of_ble_eq_true rfl) (fun z2 M2 q2 => ?_)
  obtain ⟨e2, m2, f2⟩ := q2
  have hI2 : LI M2 := ⟨_, _, _, _, _, _, _, _, _, _, f2.cs c1, m2, o, f2.rd r1, f2.mr k1⟩
  refine SP.pop (pc' := 961) dL_law_960 rfl rfl ?_
  refine SP.goto (pc' := 1497) dL_law_961 (by decide) ?_
  exact K _ hI2
theorem law_most {M : fp_Mem} (hI : LI M) (h0 : 0 ≤ i) (h7 : i + 7 ≤ (G.2.2.2.2.2.1 : Int)) (hL : G.2.2.2.2.2.1 ≤ 2147483647) (K : ∀ M', LI M' → fp_SP l G 2048 203 203 5193 203 5193 203 (kL nm) 1497 [some (.ref G.1), some (rV G 0), some (rV G 177), some (iV i)] [] (fp_sx M') (fun r _ => r = some (iV 1))) : fp_SP l G 2048 203 203 5193 203 5193 203 (kL nm) 964 [some (.ref G.1), some (rV G 0), some (rV G 177), some (iV i)] [] (fp_sx M) (fun r _ => r = some (iV 1)) := by
  obtain ⟨tp, fc, fm, g, pg, vs, nt, im, sh, tn, c, m, o, r, k⟩ := hI
  refine SP.aload_n (pc' := 965) dL_law_964 rfl rfl rfl ?_
  refine SP.aload_n (pc' := 966) dL_law_965 rfl rfl rfl ?_
  refine SP.iload_n (pc' := 967) dL_law_966 rfl rfl rfl ?_
  refine SP.iconst (pc' := 968) dL_law_967 rfl ?_
  refine SP.iadd (pc' := 969) dL_law_968 rfl ?_
  refine SP.sld (pc' := 970) dL_law_969 rfl (by omega) (by omega) hL ?_
  refine SP.aload_n (pc' := 971) dL_law_970 rfl rfl rfl ?_
  refine SP.iload_n (pc' := 972) dL_law_971 rfl rfl rfl ?_
  refine SP.iconst (pc' := 973) dL_law_972 rfl ?_
  refine SP.iadd (pc' := 974) dL_law_973 rfl ?_
  refine SP.sld (pc' := 975) dL_law_974 rfl (by omega) (by omega) hL ?_
  refine SP.opI (pc' := 978) dL_law_975 rfl cL_117 (cc_most c o (fp_rng_of _) (fp_rng_of _)) rfl rfl (by decide) (Nat.le_refl _) (Nat.le_refl _) rfl (Nat.le_of_ble_eq_true rfl) (fun z1 M1 q1 => ?_)
  obtain ⟨e1, c1, f1⟩ := q1
  have m1 := f1.ms m
  have r1 := f1.rd r
  have k1 := f1.mr k
  refine SP.pop (pc' := 979) dL_law_978 rfl rfl ?_
  refine SP.aload_n (pc' := 980) dL_law_979 rfl rfl rfl ?_
  refine SP.aload_n (pc' := 981) dL_law_980 rfl rfl rfl ?_
  refine SP.iload_n (pc' := 982) dL_law_981 rfl rfl rfl ?_
  refine SP.iconst (pc' := 983) dL_law_982 rfl ?_
  refine SP.iadd (pc' := 984) dL_law_983 rfl ?_
  refine SP.sld (pc' := 985) dL_law_984 rfl (by omega) (by omega) hL ?_
  refine SP.aload_n (pc' := 986) dL_law_985 rfl rfl rfl ?_
  refine SP.iload_n (pc' := 987) dL_law_986 rfl rfl rfl ?_
  refine SP.iconst (pc' := 988) dL_law_987 rfl ?_
  refine SP.iadd (pc' := 989) dL_law_988 rfl ?_
  refine SP.sld (pc' := 990) dL_law_989 rfl (by omega) (by omega) hL ?_
  refine SP.opI (pc' := 993) dL_law_990 rfl cL_120 (mm_most m1 o (fp_rng_of _) (fp_rng_of _)) rfl rfl (by decide) (Nat.le_refl _) (Nat.le_refl _) rfl (Nat.le_of_ble_eq_true rfl) (fun z2 M2 q2 => ?_)
  obtain ⟨e2, m2, f2⟩ := q2
  have hI2 : LI M2 := ⟨_, _, _, _, _, _, _, _, _, _, f2.cs c1, m2, o, f2.rd r1, f2.mr k1⟩
  refine SP.pop (pc' := 994) dL_law_993 rfl rfl ?_
  refine SP.goto (pc' := 1497) dL_law_994 (by decide) ?_
  exact K _ hI2
theorem law_odds {M : fp_Mem} (hI : LI M) (h0 : 0 ≤ i) (h7 : i + 7 ≤ (G.2.2.2.2.2.1 : Int)) (hL : G.2.2.2.2.2.1 ≤ 2147483647) (K : ∀ M', LI M' → fp_SP l G 2048 203 203 5193 203 5193 203 (kL nm) 1497 [some (.ref G.1), some (rV G 0), some (rV G 177), some (iV i)] [] (fp_sx M') (fun r _ => r = some (iV 1))) : fp_SP l G 2048 203 203 5193 203 5193 203 (kL nm) 997 [some (.ref G.1), some (rV G 0), some (rV G 177), some (iV i)] [] (fp_sx M) (fun r _ => r = some (iV 1)) := by
  obtain ⟨tp, fc, fm, g, pg, vs, nt, im, sh, tn, c, m, o, r, k⟩ := hI
  refine SP.aload_n (pc' := 998) dL_law_997 rfl rfl rfl ?_
  refine SP.aload_n (pc' := 999) dL_law_998 rfl rfl rfl ?_
  refine SP.iload_n (pc' := 1000) dL_law_999 rfl rfl rfl ?_
  refine SP.iconst (pc' := 1001) dL_law_1000 rfl ?_
  refine SP.iadd (pc' := 1002) dL_law_1001 rfl ?_
  refine SP.sld (pc' := 1003) dL_law_1002 rfl (by omega) (by omega) hL ?_
  refine SP.aload_n (pc' := 1004) dL_law_1003 rfl rfl rfl ?_
  refine SP.iload_n (pc' := 1005) dL_law_1004 rfl rfl rfl ?_
  refine SP.iconst (pc' := 1006) dL_law_1005 rfl ?_
  refine SP.iadd (pc' := 1007) dL_law_1006 rfl ?_
  refine SP.sld (pc' := 1008) dL_law_1007 rfl (by omega) (by omega) hL ?_
  refine SP.aload_n (pc' := 1009) dL_law_1008 rfl rfl rfl ?_
  refine SP.iload_n (pc' := 1010) dL_law_1009 rfl rfl rfl ?_
  refine SP.iconst (pc' := 1011) dL_law_1010 rfl ?_
  refine SP.iadd (pc' := 1012) dL_law_1011 rfl ?_
  refine SP.sld (pc' := 1013) dL_law_1012 rfl (by omega) (by omega) hL ?_
  refine SP.opJ (pc' := 1016) dL_law_1013 rfl cL_121 (cc_odds c o (fp_rng_of _) (fp_rng_of _) (fp_rng_of _)) rfl rfl (by decide) (Nat.le_refl _) (Nat.le_refl _) rfl (Nat.le_of_ble_eq_true rfl) (fun z1 M1 q1 => ?_)
  obtain ⟨e1, c1, f1⟩ := q1
  have m1 := f1.ms m
  have r1 := f1.rd r
  have k1 := f1.mr k
  refine SP.pop2l (pc' := 1017) dL_law_1016 rfl rfl ?_
  refine SP.aload_n (pc' := 1018) dL_law_1017 rfl rfl rfl ?_
  refine SP.aload_n (pc' := 1019) dL_law_1018 rfl rfl rfl ?_
  refine SP.iload_n (pc' := 1020) dL_law_1019 rfl rfl rfl ?_
  refine SP.iconst (pc' := 1021) dL_law_1020 rfl ?_
  refine SP.iadd (pc' := 1022) dL_law_1021 rfl ?_
  refine SP.sld (pc' := 1023) dL_law_1022 rfl (by omega) (by omega) hL ?_
  refine SP.aload_n (pc' := 1024) dL_law_1023 rfl rfl rfl ?_
  refine SP.iload_n (pc' := 1025) dL_law_1024 rfl rfl rfl ?_
  refine SP.iconst (pc' := 1026) dL_law_1025 rfl ?_
  refine SP.iadd (pc' := 1027) dL_law_1026 rfl ?_
  refine SP.sld (pc' := 1028) dL_law_1027 rfl (by omega) (by omega) hL ?_
  refine SP.aload_n (pc' := 1029) dL_law_1028 rfl rfl rfl ?_
  refine SP.iload_n (pc' := 1030) dL_law_1029 rfl rfl rfl ?_
  refine SP.iconst (pc' := 1031) dL_law_1030 rfl ?_
  refine SP.iadd (pc' := 1032) dL_law_1031 rfl ?_
  refine SP.sld (pc' := 1033) dL_law_1032 rfl (by omega) (by omega) hL ?_
  refine SP.opJ (pc' := 1036) dL_law_1033 rfl cL_125 (mm_odds m1 o (fp_rng_of _) (fp_rng_of _) (fp_rng_of _)) rfl rfl (by decide) (Nat.le_refl _) (Nat.le_refl _) rfl (Nat.le_of_ble_eq_true rfl) (fun z2 M2 q2 => ?_)
  obtain ⟨e2, m2, f2⟩ := q2
  have hI2 : LI M2 := ⟨_, _, _, _, _, _, _, _, _, _, f2.cs c1, m2, o, f2.rd r1, f2.mr k1⟩
  refine SP.pop2l (pc' := 1037) dL_law_1036 rfl rfl ?_
  refine SP.goto (pc' := 1497) dL_law_1037 (by decide) ?_
  exact K _ hI2
theorem law_likeliest {M : fp_Mem} (hI : LI M) (h0 : 0 ≤ i) (h7 : i + 7 ≤ (G.2.2.2.2.2.1 : Int)) (hL : G.2.2.2.2.2.1 ≤ 2147483647) (K : ∀ M', LI M' → fp_SP l G 2048 203 203 5193 203 5193 203 (kL nm) 1497 [some (.ref G.1), some (rV G 0), some (rV G 177), some (iV i)] [] (fp_sx M') (fun r _ => r = some (iV 1))) : fp_SP l G 2048 203 203 5193 203 5193 203 (kL nm) 1040 [some (.ref G.1), some (rV G 0), some (rV G 177), some (iV i)] [] (fp_sx M) (fun r _ => r = some (iV 1)) := by
  obtain ⟨tp, fc, fm, g, pg, vs, nt, im, sh, tn, c, m, o, r, k⟩ := hI
  refine SP.aload_n (pc' := 1041) dL_law_1040 rfl rfl rfl ?_
  refine SP.aload_n (pc' := 1042) dL_law_1041 rfl rfl rfl ?_
  refine SP.iload_n (pc' := 1043) dL_law_1042 rfl rfl rfl ?_
  refine SP.iconst (pc' := 1044) dL_law_1043 rfl ?_
  refine SP.iadd (pc' := 1045) dL_law_1044 rfl ?_
  refine SP.sld (pc' := 1046) dL_law_1045 rfl (by omega) (by omega) hL ?_
  refine SP.opI (pc' := 1049) dL_law_1046 rfl cL_126 (cc_likeliest c o (fp_rng_of _)) rfl rfl (by decide) (Nat.le_refl _) (Nat.le_refl _) rfl (Nat.le_of_ble_eq_true rfl) (fun z1 M1 q1 => ?_)
  obtain ⟨e1, c1, f1⟩ := q1
  have m1 := f1.ms m
  have r1 := f1.rd r
  have k1 := f1.mr k
  refine SP.pop (pc' := 1050) dL_law_1049 rfl rfl ?_
  refine SP.aload_n (pc' := 1051) dL_law_1050 rfl rfl rfl ?_
  refine SP.aload_n (pc' := 1052) dL_law_1051 rfl rfl rfl ?_
  refine SP.iload_n (pc' := 1053) dL_law_1052 rfl rfl rfl ?_
  refine SP.iconst (pc' := 1054) dL_law_1053 rfl ?_
  refine SP.iadd (pc' := 1055) dL_law_1054 rfl ?_
  refine SP.sld (pc' := 1056) dL_law_1055 rfl (by omega) (by omega) hL ?_
  refine SP.opI (pc' := 1059) dL_law_1056 rfl cL_129 (mm_likeliest m1 o (fp_rng_of _)) rfl rfl (by decide) (Nat.le_refl _) (Nat.le_refl _) rfl (Nat.le_of_ble_eq_true rfl) (fun z2 M2 q2 => ?_)
  obtain ⟨e2, m2, f2⟩ := q2
  have hI2 : LI M2 := ⟨_, _, _, _, _, _, _, _, _, _, f2.cs c1, m2, o, f2.rd r1, f2.mr k1⟩
  refine SP.pop (pc' := 1060) dL_law_1059 rfl rfl ?_
  refine SP.goto (pc' := 1497) dL_law_1060 (by decide) ?_
  exact K _ hI2
theorem law_duel {M : fp_Mem} (hI : LI M) (h0 : 0 ≤ i) (h7 : i + 7 ≤ (G.2.2.2.2.2.1 : Int)) (hL : G.2.2.2.2.2.1 ≤ 2147483647) (K : ∀ M', LI M' → fp_SP l G 2048 203 203 5193 203 5193 203 (kL nm) 1497 [some (.ref G.1), some (rV G 0), some (rV G 177), some (iV i)] [] (fp_sx M') (fun r _ => r = some (iV 1))) : fp_SP l G 2048 203 203 5193 203 5193 203 (kL nm) 1063 [some (.ref G.1), some (rV G 0), some (rV G 177), some (iV i)] [] (fp_sx M) (fun r _ => r = some (iV 1)) := by
  obtain ⟨tp, fc, fm, g, pg, vs, nt, im, sh, tn, c, m, o, r, k⟩ := hI
  refine SP.aload_n (pc' := 1064) dL_law_1063 rfl rfl rfl ?_
  refine SP.aload_n (pc' := 1065) dL_law_1064 rfl rfl rfl ?_
  refine SP.iload_n (pc' := 1066) dL_law_1065 rfl rfl rfl ?_
  refine SP.iconst (pc' := 1067) dL_law_1066 rfl ?_
  refine SP.iadd (pc' := 1068) dL_law_1067 rfl ?_
  refine SP.sld (pc' := 1069) dL_law_1068 rfl (by omega) (by omega) hL ?_
  refine SP.aload_n (pc' := 1070) dL_law_1069 rfl rfl rfl ?_
  refine SP.iload_n (pc' := 1071) dL_law_1070 rfl rfl rfl ?_
  refine SP.iconst (pc' := 1072) dL_law_1071 rfl ?_
  refine SP.iadd (pc' := 1073) dL_law_1072 rfl ?_
  refine SP.sld (pc' := 1074) dL_law_1073 rfl (by omega) (by omega) hL ?_
  refine SP.aload_n (pc' := 1075) dL_law_1074 rfl rfl rfl ?_
  refine SP.iload_n (pc' := 1076) dL_law_1075 rfl rfl rfl ?_
  refine SP.iconst (pc' := 1077) dL_law_1076 rfl ?_
  refine SP.iadd (pc' := 1078) dL_law_1077 rfl ?_
  refine SP.sld (pc' := 1079) dL_law_1078 rfl (by omega) (by omega) hL ?_
  refine SP.aload_n (pc' := 1080) dL_law_1079 rfl rfl rfl ?_
  refine SP.iload_n (pc' := 1081) dL_law_1080 rfl rfl rfl ?_
  refine SP.iconst (pc' := 1082) dL_law_1081 rfl ?_
  refine SP.iadd (pc' := 1083) dL_law_1082 rfl ?_
  refine SP.sld (pc' := 1084) dL_law_1083 rfl (by omega) (by omega) hL ?_
  refine SP.aload_n (pc' := 1085) dL_law_1084 rfl rfl rfl ?_
  refine SP.iload_n (pc' := 1086) dL_law_1085 rfl rfl rfl ?_
  refine SP.iconst (pc' := 1087) dL_law_1086 rfl ?_
  refine SP.iadd (pc' := 1088) dL_law_1087 rfl ?_
  refine SP.sld (pc' := 1089) dL_law_1088 rfl (by omega) (by omega) hL ?_
  refine SP.aload_n (pc' := 1090) dL_law_1089 rfl rfl rfl ?_
  refine SP.iload_n (pc' := 1091) dL_law_1090 rfl rfl rfl ?_
  refine SP.bipush (pc' := 1093) dL_law_1091 rfl rfl ?_
  refine SP.iadd (pc' := 1094) dL_law_1093 rfl ?_
  refine SP.sld (pc' := 1095) dL_law_1094 rfl (by omega) (by omega) hL ?_
  refine SP.opI (pc' := 1098) dL_law_1095 rfl cL_130 (cw_duel c o (fp_rng_of _) (fp_rng_of _) (fp_rng_of _) (fp_rng_of _) (fp_rng_of _) (fp_rng_of _)) rfl rfl (by decide) (Nat.le_refl _) (Nat.le_refl _) rfl (Nat.le_of_ble_eq_true rfl) (fun z1 M1 q1 => ?_)
  obtain ⟨c1, f1⟩ := q1
  have m1 := f1.ms m
  have r1 := f1.rd r
  have k1 := f1.mr k
  refine SP.pop (pc' := 1099) dL_law_1098 rfl rfl ?_
  refine SP.aload_n (pc' := 1100) dL_law_1099 rfl rfl rfl ?_
  refine SP.aload_n (pc' := 1101) dL_law_1100 rfl rfl rfl ?_
  refine SP.iload_n (pc' := 1102) dL_law_1101 rfl rfl rfl ?_
  refine SP.iconst (pc' := 1103) dL_law_1102 rfl ?_
  refine SP.iadd (pc' := 1104) dL_law_1103 rfl ?_
  refine SP.sld (pc' := 1105) dL_law_1104 rfl (by omega) (by omega) hL ?_
  refine SP.aload_n (pc' := 1106) dL_law_1105 rfl rfl rfl ?_
  refine SP.iload_n (pc' := 1107) dL_law_1106 rfl rfl rfl ?_
  refine SP.iconst (pc' := 1108) dL_law_1107 rfl ?_
  refine SP.iadd (pc' := 1109) dL_law_1108 rfl ?_
  refine SP.sld (pc' := 1110) dL_law_1109 rfl (by omega) (by omega) hL ?_
  refine SP.aload_n (pc' := 1111) dL_law_1110 rfl rfl rfl ?_
  refine SP.iload_n (pc' := 1112) dL_law_1111 rfl rfl rfl ?_
  refine SP.iconst (pc' := 1113) dL_law_1112 rfl ?_
  refine SP.iadd (pc' := 1114) dL_law_1113 rfl ?_
  refine SP.sld (pc' := 1115) dL_law_1114 rfl (by omega) (by omega) hL ?_
  refine SP.aload_n (pc' := 1116) dL_law_1115 rfl rfl rfl ?_
  refine SP.iload_n (pc' := 1117) dL_law_1116 rfl rfl rfl ?_
  refine SP.iconst (pc' := 1118) dL_law_1117 rfl ?_
  refine SP.iadd (pc' := 1119) dL_law_1118 rfl ?_
  refine SP.sld (pc' := 1120) dL_law_1119 rfl (by omega) (by omega) hL ?_
  refine SP.aload_n (pc' := 1121) dL_law_1120 rfl rfl rfl ?_
  refine SP.iload_n (pc' := 1122) dL_law_1121 rfl rfl rfl ?_
  refine SP.iconst (pc' := 1123) dL_law_1122 rfl ?_
  refine SP.iadd (pc' := 1124) dL_law_1123 rfl ?_
  refine SP.sld (pc' := 1125) dL_law_1124 rfl (by omega) (by omega) hL ?_
  refine SP.aload_n (pc' := 1126) dL_law_1125 rfl rfl rfl ?_
  refine SP.iload_n (pc' := 1127) dL_law_1126 rfl rfl rfl ?_
  refine SP.bipush (pc' := 1129) dL_law_1127 rfl rfl ?_
  refine SP.iadd (pc' := 1130) dL_law_1129 rfl ?_
  refine SP.sld (pc' := 1131) dL_law_1130 rfl (by omega) (by omega) hL ?_
  refine SP.opI (pc' := 1134) dL_law_1131 rfl cL_134 (mw_duel m1 o (fp_rng_of _) (fp_rng_of _) (fp_rng_of _) (fp_rng_of _) (fp_rng_of _) (fp_rng_of _)) rfl rfl (by decide) (Nat.le_refl _) (Nat.le_refl _) rfl (Nat.le_of_ble_eq_true rfl) (fun z2 M2 q2 => ?_)
  obtain ⟨m2, f2⟩ := q2
  have hI2 : LI M2 := ⟨_, _, _, _, _, _, _, _, _, _, f2.cs c1, m2, o, f2.rd r1, f2.mr k1⟩
  refine SP.pop (pc' := 1135) dL_law_1134 rfl rfl ?_
  refine SP.goto (pc' := 1497) dL_law_1135 (by decide) ?_
  exact K _ hI2
theorem law_noted {M : fp_Mem} (hI : LI M) (h0 : 0 ≤ i) (h7 : i + 7 ≤ (G.2.2.2.2.2.1 : Int)) (hL : G.2.2.2.2.2.1 ≤ 2147483647) (K : ∀ M', LI M' → fp_SP l G 2048 203 203 5193 203 5193 203 (kL nm) 1497 [some (.ref G.1), some (rV G 0), some (rV G 177), some (iV i)] [] (fp_sx M') (fun r _ => r = some (iV 1))) : fp_SP l G 2048 203 203 5193 203 5193 203 (kL nm) 1138 [some (.ref G.1), some (rV G 0), some (rV G 177), some (iV i)] [] (fp_sx M) (fun r _ => r = some (iV 1)) := by
  obtain ⟨tp, fc, fm, g, pg, vs, nt, im, sh, tn, c, m, o, r, k⟩ := hI
  refine SP.aload_n (pc' := 1139) dL_law_1138 rfl rfl rfl ?_
  refine SP.aload_n (pc' := 1140) dL_law_1139 rfl rfl rfl ?_
  refine SP.iload_n (pc' := 1141) dL_law_1140 rfl rfl rfl ?_
  refine SP.iconst (pc' := 1142) dL_law_1141 rfl ?_
  refine SP.iadd (pc' := 1143) dL_law_1142 rfl ?_
  refine SP.sld (pc' := 1144) dL_law_1143 rfl (by omega) (by omega) hL ?_
  refine SP.opI (pc' := 1147) dL_law_1144 rfl cL_135 (cc_noted c o (fp_rng_of _)) rfl rfl (by decide) (Nat.le_refl _) (Nat.le_refl _) rfl (Nat.le_of_ble_eq_true rfl) (fun z1 M1 q1 => ?_)
  obtain ⟨e1, c1, f1⟩ := q1
  have m1 := f1.ms m
  have r1 := f1.rd r
  have k1 := f1.mr k
  refine SP.pop (pc' := 1148) dL_law_1147 rfl rfl ?_
  refine SP.aload_n (pc' := 1149) dL_law_1148 rfl rfl rfl ?_
  refine SP.aload_n (pc' := 1150) dL_law_1149 rfl rfl rfl ?_
  refine SP.iload_n (pc' := 1151) dL_law_1150 rfl rfl rfl ?_
  refine SP.iconst (pc' := 1152) dL_law_1151 rfl ?_
  refine SP.iadd (pc' := 1153) dL_law_1152 rfl ?_
  refine SP.sld (pc' := 1154) dL_law_1153 rfl (by omega) (by omega) hL ?_
  refine SP.opI (pc' := 1157) dL_law_1154 rfl cL_138 (mm_noted m1 o (fp_rng_of _)) rfl rfl (by decide) (Nat.le_refl _) (Nat.le_refl _) rfl (Nat.le_of_ble_eq_true rfl) (fun z2 M2 q2 => ?_)
  obtain ⟨e2, m2, f2⟩ := q2
  have hI2 : LI M2 := ⟨_, _, _, _, _, _, _, _, _, _, f2.cs c1, m2, o.noted, f2.rd r1, f2.mr k1⟩
  refine SP.pop (pc' := 1158) dL_law_1157 rfl rfl ?_
  refine SP.goto (pc' := 1497) dL_law_1158 (by decide) ?_
  exact K _ hI2
theorem law_forget {M : fp_Mem} (hI : LI M) (h0 : 0 ≤ i) (h7 : i + 7 ≤ (G.2.2.2.2.2.1 : Int)) (hL : G.2.2.2.2.2.1 ≤ 2147483647) (K : ∀ M', LI M' → fp_SP l G 2048 203 203 5193 203 5193 203 (kL nm) 1497 [some (.ref G.1), some (rV G 0), some (rV G 177), some (iV i)] [] (fp_sx M') (fun r _ => r = some (iV 1))) : fp_SP l G 2048 203 203 5193 203 5193 203 (kL nm) 1161 [some (.ref G.1), some (rV G 0), some (rV G 177), some (iV i)] [] (fp_sx M) (fun r _ => r = some (iV 1)) := by
  obtain ⟨tp, fc, fm, g, pg, vs, nt, im, sh, tn, c, m, o, r, k⟩ := hI
  refine SP.aload_n (pc' := 1162) dL_law_1161 rfl rfl rfl ?_
  refine SP.opI (pc' := 1165) dL_law_1162 rfl cL_139 (cc_forget c ) rfl rfl (by decide) (Nat.le_refl _) (Nat.le_refl _) rfl (Nat.le_of_ble_eq_true rfl) (fun z1 M1 q1 => ?_)
  obtain ⟨e1, c1, f1⟩ := q1
  have m1 := f1.ms m
  have r1 := f1.rd r
  have k1 := f1.mr k
  refine SP.pop (pc' := 1166) dL_law_1165 rfl rfl ?_
  refine SP.aload_n (pc' := 1167) dL_law_1166 rfl rfl rfl ?_
  refine SP.opI (pc' := 1170) dL_law_1167 rfl cL_142 (mm_forget m1 o ) rfl rfl (by decide) (Nat.le_refl _) (Nat.le_refl _) rfl (Nat.le_of_ble_eq_true rfl) (fun z2 M2 q2 => ?_)
  obtain ⟨e2, m2, f2⟩ := q2
  have hI2 : LI M2 := ⟨_, _, _, _, _, _, _, _, _, _, f2.cs c1, m2, o.forget, f2.rd r1, f2.mr k1⟩
  refine SP.pop (pc' := 1171) dL_law_1170 rfl rfl ?_
  refine SP.goto (pc' := 1497) dL_law_1171 (by decide) ?_
  exact K _ hI2
theorem law_orders {M : fp_Mem} (hI : LI M) (h0 : 0 ≤ i) (h7 : i + 7 ≤ (G.2.2.2.2.2.1 : Int)) (hL : G.2.2.2.2.2.1 ≤ 2147483647) (K : ∀ M', LI M' → fp_SP l G 2048 203 203 5193 203 5193 203 (kL nm) 1497 [some (.ref G.1), some (rV G 0), some (rV G 177), some (iV i)] [] (fp_sx M') (fun r _ => r = some (iV 1))) : fp_SP l G 2048 203 203 5193 203 5193 203 (kL nm) 1174 [some (.ref G.1), some (rV G 0), some (rV G 177), some (iV i)] [] (fp_sx M) (fun r _ => r = some (iV 1)) := by
  obtain ⟨tp, fc, fm, g, pg, vs, nt, im, sh, tn, c, m, o, r, k⟩ := hI
  refine SP.aload_n (pc' := 1175) dL_law_1174 rfl rfl rfl ?_
  refine SP.aload_n (pc' := 1176) dL_law_1175 rfl rfl rfl ?_
  refine SP.iload_n (pc' := 1177) dL_law_1176 rfl rfl rfl ?_
  refine SP.iconst (pc' := 1178) dL_law_1177 rfl ?_
  refine SP.iadd (pc' := 1179) dL_law_1178 rfl ?_
  refine SP.sld (pc' := 1180) dL_law_1179 rfl (by omega) (by omega) hL ?_
  refine SP.aload_n (pc' := 1181) dL_law_1180 rfl rfl rfl ?_
  refine SP.iload_n (pc' := 1182) dL_law_1181 rfl rfl rfl ?_
  refine SP.iconst (pc' := 1183) dL_law_1182 rfl ?_
  refine SP.iadd (pc' := 1184) dL_law_1183 rfl ?_
  refine SP.sld (pc' := 1185) dL_law_1184 rfl (by omega) (by omega) hL ?_
  refine SP.opI (pc' := 1188) dL_law_1185 rfl cL_143 (cw_orders c o (fp_rng_of _) (fp_rng_of _)) rfl rfl (by decide) (Nat.le_refl _) (Nat.le_refl _) rfl (Nat.le_of_ble_eq_true rfl) (fun z1 M1 q1 => ?_)
  obtain ⟨c1, f1⟩ := q1
  have m1 := f1.ms m
  have r1 := f1.rd r
  have k1 := f1.mr k
  refine SP.pop (pc' := 1189) dL_law_1188 rfl rfl ?_
  refine SP.aload_n (pc' := 1190) dL_law_1189 rfl rfl rfl ?_
  refine SP.aload_n (pc' := 1191) dL_law_1190 rfl rfl rfl ?_
  refine SP.iload_n (pc' := 1192) dL_law_1191 rfl rfl rfl ?_
  refine SP.iconst (pc' := 1193) dL_law_1192 rfl ?_
  refine SP.iadd (pc' := 1194) dL_law_1193 rfl ?_
  refine SP.sld (pc' := 1195) dL_law_1194 rfl (by omega) (by omega) hL ?_
  refine SP.aload_n (pc' := 1196) dL_law_1195 rfl rfl rfl ?_
  refine SP.iload_n (pc' := 1197) dL_law_1196 rfl rfl rfl ?_
  refine SP.iconst (pc' := 1198) dL_law_1197 rfl ?_
  refine SP.iadd (pc' := 1199) dL_law_1198 rfl ?_
  refine SP.sld (pc' := 1200) dL_law_1199 rfl (by omega) (by omega) hL ?_
  refine SP.opI (pc' := 1203) dL_law_1200 rfl cL_146 (mw_orders m1 o (fp_rng_of _) (fp_rng_of _)) rfl rfl (by decide) (Nat.le_refl _) (Nat.le_refl _) rfl (Nat.le_of_ble_eq_true rfl) (fun z2 M2 q2 => ?_)
  obtain ⟨m2, f2⟩ := q2
  have hI2 : LI M2 := ⟨_, _, _, _, _, _, _, _, _, _, f2.cs c1, m2, o, f2.rd r1, f2.mr k1⟩
  refine SP.pop (pc' := 1204) dL_law_1203 rfl rfl ?_
  refine SP.goto (pc' := 1497) dL_law_1204 (by decide) ?_
  exact K _ hI2
theorem law_ring {M : fp_Mem} (hI : LI M) (h0 : 0 ≤ i) (h7 : i + 7 ≤ (G.2.2.2.2.2.1 : Int)) (hL : G.2.2.2.2.2.1 ≤ 2147483647) (K : ∀ M', LI M' → fp_SP l G 2048 203 203 5193 203 5193 203 (kL nm) 1497 [some (.ref G.1), some (rV G 0), some (rV G 177), some (iV i)] [] (fp_sx M') (fun r _ => r = some (iV 1))) : fp_SP l G 2048 203 203 5193 203 5193 203 (kL nm) 1207 [some (.ref G.1), some (rV G 0), some (rV G 177), some (iV i)] [] (fp_sx M) (fun r _ => r = some (iV 1)) := by
  obtain ⟨tp, fc, fm, g, pg, vs, nt, im, sh, tn, c, m, o, r, k⟩ := hI
  refine SP.aload_n (pc' := 1208) dL_law_1207 rfl rfl rfl ?_
  refine SP.aload_n (pc' := 1209) dL_law_1208 rfl rfl rfl ?_
  refine SP.iload_n (pc' := 1210) dL_law_1209 rfl rfl rfl ?_
  refine SP.iconst (pc' := 1211) dL_law_1210 rfl ?_
  refine SP.iadd (pc' := 1212) dL_law_1211 rfl ?_
  refine SP.sld (pc' := 1213) dL_law_1212 rfl (by omega) (by omega) hL ?_
  refine SP.opI (pc' := 1216) dL_law_1213 rfl cL_147 (cc_ring c o (fp_rng_of _)) rfl rfl (by decide) (Nat.le_refl _) (Nat.le_refl _) rfl (Nat.le_of_ble_eq_true rfl) (fun z1 M1 q1 => ?_)
  obtain ⟨e1, c1, f1⟩ := q1
  have m1 := f1.ms m
  have r1 := f1.rd r
  have k1 := f1.mr k
  refine SP.pop (pc' := 1217) dL_law_1216 rfl rfl ?_
  refine SP.aload_n (pc' := 1218) dL_law_1217 rfl rfl rfl ?_
  refine SP.aload_n (pc' := 1219) dL_law_1218 rfl rfl rfl ?_
  refine SP.iload_n (pc' := 1220) dL_law_1219 rfl rfl rfl ?_
  refine SP.iconst (pc' := 1221) dL_law_1220 rfl ?_
  refine SP.iadd (pc' := 1222) dL_law_1221 rfl ?_
  refine SP.sld (pc' := 1223) dL_law_1222 rfl (by omega) (by omega) hL ?_
  refine SP.opI (pc' := 1226) dL_law_1223 rfl cL_150 (mm_ring m1 o (fp_rng_of _)) rfl rfl (by decide) (Nat.le_refl _) (Nat.le_refl _) rfl (Nat.le_of_ble_eq_true rfl) (fun z2 M2 q2 => ?_)
  obtain ⟨e2, m2, f2⟩ := q2
  have hI2 : LI M2 := ⟨_, _, _, _, _, _, _, _, _, _, f2.cs c1, m2, o, f2.rd r1, f2.mr k1⟩
  refine SP.pop (pc' := 1227) dL_law_1226 rfl rfl ?_
  refine SP.goto (pc' := 1497) dL_law_1227 (by decide) ?_
  exact K _ hI2
theorem law_with {M : fp_Mem} (hI : LI M) (h0 : 0 ≤ i) (h7 : i + 7 ≤ (G.2.2.2.2.2.1 : Int)) (hL : G.2.2.2.2.2.1 ≤ 2147483647) (K : ∀ M', LI M' → fp_SP l G 2048 203 203 5193 203 5193 203 (kL nm) 1497 [some (.ref G.1), some (rV G 0), some (rV G 177), some (iV i)] [] (fp_sx M') (fun r _ => r = some (iV 1))) : fp_SP l G 2048 203 203 5193 203 5193 203 (kL nm) 1230 [some (.ref G.1), some (rV G 0), some (rV G 177), some (iV i)] [] (fp_sx M) (fun r _ => r = some (iV 1)) := by
  obtain ⟨tp, fc, fm, g, pg, vs, nt, im, sh, tn, c, m, o, r, k⟩ := hI
  refine SP.aload_n (pc' := 1231) dL_law_1230 rfl rfl rfl ?_
  refine SP.aload_n (pc' := 1232) dL_law_1231 rfl rfl rfl ?_
  refine SP.iload_n (pc' := 1233) dL_law_1232 rfl rfl rfl ?_
  refine SP.iconst (pc' := 1234) dL_law_1233 rfl ?_
  refine SP.iadd (pc' := 1235) dL_law_1234 rfl ?_
  refine SP.sld (pc' := 1236) dL_law_1235 rfl (by omega) (by omega) hL ?_
  refine SP.opI (pc' := 1239) dL_law_1236 rfl cL_151 (cc_with c o (fp_rng_of _)) rfl rfl (by decide) (Nat.le_refl _) (Nat.le_refl _) rfl (Nat.le_of_ble_eq_true rfl) (fun z1 M1 q1 => ?_)
  obtain ⟨e1, c1, f1⟩ := q1
  have m1 := f1.ms m
  have r1 := f1.rd r
  have k1 := f1.mr k
  refine SP.pop (pc' := 1240) dL_law_1239 rfl rfl ?_
  refine SP.aload_n (pc' := 1241) dL_law_1240 rfl rfl rfl ?_
  refine SP.aload_n (pc' := 1242) dL_law_1241 rfl rfl rfl ?_
  refine SP.iload_n (pc' := 1243) dL_law_1242 rfl rfl rfl ?_
  refine SP.iconst (pc' := 1244) dL_law_1243 rfl ?_
  refine SP.iadd (pc' := 1245) dL_law_1244 rfl ?_
  refine SP.sld (pc' := 1246) dL_law_1245 rfl (by omega) (by omega) hL ?_
  refine SP.opI (pc' := 1249) dL_law_1246 rfl cL_154 (mm_with m1 o (fp_rng_of _)) rfl rfl (by decide) (Nat.le_refl _) (Nat.le_refl _) rfl (Nat.le_of_ble_eq_true rfl) (fun z2 M2 q2 => ?_)
  obtain ⟨e2, m2, f2⟩ := q2
  have hI2 : LI M2 := ⟨_, _, _, _, _, _, _, _, _, _, f2.cs c1, m2, o, f2.rd r1, f2.mr k1⟩
  refine SP.pop (pc' := 1250) dL_law_1249 rfl rfl ?_
  refine SP.goto (pc' := 1497) dL_law_1250 (by decide) ?_
  exact K _ hI2
theorem law_join {M : fp_Mem} (hI : LI M) (h0 : 0 ≤ i) (h7 : i + 7 ≤ (G.2.2.2.2.2.1 : Int)) (hL : G.2.2.2.2.2.1 ≤ 2147483647) (K : ∀ M', LI M' → fp_SP l G 2048 203 203 5193 203 5193 203 (kL nm) 1497 [some (.ref G.1), some (rV G 0), some (rV G 177), some (iV i)] [] (fp_sx M') (fun r _ => r = some (iV 1))) : fp_SP l G 2048 203 203 5193 203 5193 203 (kL nm) 1253 [some (.ref G.1), some (rV G 0), some (rV G 177), some (iV i)] [] (fp_sx M) (fun r _ => r = some (iV 1)) := by
  obtain ⟨tp, fc, fm, g, pg, vs, nt, im, sh, tn, c, m, o, r, k⟩ := hI
  refine SP.aload_n (pc' := 1254) dL_law_1253 rfl rfl rfl ?_
  refine SP.aload_n (pc' := 1255) dL_law_1254 rfl rfl rfl ?_
  refine SP.iload_n (pc' := 1256) dL_law_1255 rfl rfl rfl ?_
  refine SP.iconst (pc' := 1257) dL_law_1256 rfl ?_
  refine SP.iadd (pc' := 1258) dL_law_1257 rfl ?_
  refine SP.sld (pc' := 1259) dL_law_1258 rfl (by omega) (by omega) hL ?_
  refine SP.opI (pc' := 1262) dL_law_1259 rfl cL_155 (cc_join c o (fp_rng_of _)) rfl rfl (by decide) (Nat.le_refl _) (Nat.le_refl _) rfl (Nat.le_of_ble_eq_true rfl) (fun z1 M1 q1 => ?_)
  obtain ⟨e1, c1, f1⟩ := q1
  have m1 := f1.ms m
  have r1 := f1.rd r
  have k1 := f1.mr k
  refine SP.pop (pc' := 1263) dL_law_1262 rfl rfl ?_
  refine SP.aload_n (pc' := 1264) dL_law_1263 rfl rfl rfl ?_
  refine SP.aload_n (pc' := 1265) dL_law_1264 rfl rfl rfl ?_
  refine SP.iload_n (pc' := 1266) dL_law_1265 rfl rfl rfl ?_
  refine SP.iconst (pc' := 1267) dL_law_1266 rfl ?_
  refine SP.iadd (pc' := 1268) dL_law_1267 rfl ?_
  refine SP.sld (pc' := 1269) dL_law_1268 rfl (by omega) (by omega) hL ?_
  refine SP.opI (pc' := 1272) dL_law_1269 rfl cL_158 (mm_join m1 o (fp_rng_of _)) rfl rfl (by decide) (Nat.le_refl _) (Nat.le_refl _) rfl (Nat.le_of_ble_eq_true rfl) (fun z2 M2 q2 => ?_)
  obtain ⟨e2, m2, f2⟩ := q2
  have hI2 : LI M2 := ⟨_, _, _, _, _, _, _, _, _, _, f2.cs c1, m2, o, f2.rd r1, f2.mr k1⟩
  refine SP.pop (pc' := 1273) dL_law_1272 rfl rfl ?_
  refine SP.goto (pc' := 1497) dL_law_1273 (by decide) ?_
  exact K _ hI2
theorem law_keep {M : fp_Mem} (hI : LI M) (h0 : 0 ≤ i) (h7 : i + 7 ≤ (G.2.2.2.2.2.1 : Int)) (hL : G.2.2.2.2.2.1 ≤ 2147483647) (K : ∀ M', LI M' → fp_SP l G 2048 203 203 5193 203 5193 203 (kL nm) 1497 [some (.ref G.1), some (rV G 0), some (rV G 177), some (iV i)] [] (fp_sx M') (fun r _ => r = some (iV 1))) : fp_SP l G 2048 203 203 5193 203 5193 203 (kL nm) 1276 [some (.ref G.1), some (rV G 0), some (rV G 177), some (iV i)] [] (fp_sx M) (fun r _ => r = some (iV 1)) := by
  obtain ⟨tp, fc, fm, g, pg, vs, nt, im, sh, tn, c, m, o, r, k⟩ := hI
  refine SP.aload_n (pc' := 1277) dL_law_1276 rfl rfl rfl ?_
  refine SP.aload_n (pc' := 1278) dL_law_1277 rfl rfl rfl ?_
  refine SP.iload_n (pc' := 1279) dL_law_1278 rfl rfl rfl ?_
  refine SP.iconst (pc' := 1280) dL_law_1279 rfl ?_
  refine SP.iadd (pc' := 1281) dL_law_1280 rfl ?_
  refine SP.sld (pc' := 1282) dL_law_1281 rfl (by omega) (by omega) hL ?_
  refine SP.opI (pc' := 1285) dL_law_1282 rfl cL_159 (cc_keep c o (fp_rng_of _)) rfl rfl (by decide) (Nat.le_refl _) (Nat.le_refl _) rfl (Nat.le_of_ble_eq_true rfl) (fun z1 M1 q1 => ?_)
  obtain ⟨e1, c1, f1⟩ := q1
  have m1 := f1.ms m
  have r1 := f1.rd r
  have k1 := f1.mr k
  refine SP.pop (pc' := 1286) dL_law_1285 rfl rfl ?_
  refine SP.aload_n (pc' := 1287) dL_law_1286 rfl rfl rfl ?_
  refine SP.aload_n (pc' := 1288) dL_law_1287 rfl rfl rfl ?_
  refine SP.iload_n (pc' := 1289) dL_law_1288 rfl rfl rfl ?_
  refine SP.iconst (pc' := 1290) dL_law_1289 rfl ?_
  refine SP.iadd (pc' := 1291) dL_law_1290 rfl ?_
  refine SP.sld (pc' := 1292) dL_law_1291 rfl (by omega) (by omega) hL ?_
  refine SP.opI (pc' := 1295) dL_law_1292 rfl cL_162 (mm_keep m1 o (fp_rng_of _)) rfl rfl (by decide) (Nat.le_refl _) (Nat.le_refl _) rfl (Nat.le_of_ble_eq_true rfl) (fun z2 M2 q2 => ?_)
  obtain ⟨e2, m2, f2⟩ := q2
  have hI2 : LI M2 := ⟨_, _, _, _, _, _, _, _, _, _, f2.cs c1, m2, o.keep, f2.rd r1, f2.mr k1⟩
  refine SP.pop (pc' := 1296) dL_law_1295 rfl rfl ?_
  refine SP.goto (pc' := 1497) dL_law_1296 (by decide) ?_
  exact K _ hI2
theorem law_back {M : fp_Mem} (hI : LI M) (h0 : 0 ≤ i) (h7 : i + 7 ≤ (G.2.2.2.2.2.1 : Int)) (hL : G.2.2.2.2.2.1 ≤ 2147483647) (K : ∀ M', LI M' → fp_SP l G 2048 203 203 5193 203 5193 203 (kL nm) 1497 [some (.ref G.1), some (rV G 0), some (rV G 177), some (iV i)] [] (fp_sx M') (fun r _ => r = some (iV 1))) : fp_SP l G 2048 203 203 5193 203 5193 203 (kL nm) 1299 [some (.ref G.1), some (rV G 0), some (rV G 177), some (iV i)] [] (fp_sx M) (fun r _ => r = some (iV 1)) := by
  obtain ⟨tp, fc, fm, g, pg, vs, nt, im, sh, tn, c, m, o, r, k⟩ := hI
  refine SP.aload_n (pc' := 1300) dL_law_1299 rfl rfl rfl ?_
  refine SP.aload_n (pc' := 1301) dL_law_1300 rfl rfl rfl ?_
  refine SP.iload_n (pc' := 1302) dL_law_1301 rfl rfl rfl ?_
  refine SP.iconst (pc' := 1303) dL_law_1302 rfl ?_
  refine SP.iadd (pc' := 1304) dL_law_1303 rfl ?_
  refine SP.sld (pc' := 1305) dL_law_1304 rfl (by omega) (by omega) hL ?_
  refine SP.opI (pc' := 1308) dL_law_1305 rfl cL_163 (cc_back c o (fp_rng_of _)) rfl rfl (by decide) (Nat.le_refl _) (Nat.le_refl _) rfl (Nat.le_of_ble_eq_true rfl) (fun z1 M1 q1 => ?_)
  obtain ⟨e1, c1, f1⟩ := q1
  have m1 := f1.ms m
  have r1 := f1.rd r
  have k1 := f1.mr k
  refine SP.pop (pc' := 1309) dL_law_1308 rfl rfl ?_
  refine SP.aload_n (pc' := 1310) dL_law_1309 rfl rfl rfl ?_
  refine SP.aload_n (pc' := 1311) dL_law_1310 rfl rfl rfl ?_
  refine SP.iload_n (pc' := 1312) dL_law_1311 rfl rfl rfl ?_
  refine SP.iconst (pc' := 1313) dL_law_1312 rfl ?_
  refine SP.iadd (pc' := 1314) dL_law_1313 rfl ?_
  refine SP.sld (pc' := 1315) dL_law_1314 rfl (by omega) (by omega) hL ?_
  refine SP.opI (pc' := 1318) dL_law_1315 rfl cL_166 (mm_back m1 o (fp_rng_of _)) rfl rfl (by decide) (Nat.le_refl _) (Nat.le_refl _) rfl (Nat.le_of_ble_eq_true rfl) (fun z2 M2 q2 => ?_)
  obtain ⟨e2, m2, f2⟩ := q2
  have hI2 : LI M2 := ⟨_, _, _, _, _, _, _, _, _, _, f2.cs c1, m2, o.back, f2.rd r1, f2.mr k1⟩
  refine SP.pop (pc' := 1319) dL_law_1318 rfl rfl ?_
  refine SP.goto (pc' := 1497) dL_law_1319 (by decide) ?_
  exact K _ hI2
theorem law_sheet {M : fp_Mem} (hI : LI M) (h0 : 0 ≤ i) (h7 : i + 7 ≤ (G.2.2.2.2.2.1 : Int)) (hL : G.2.2.2.2.2.1 ≤ 2147483647) (K : ∀ M', LI M' → fp_SP l G 2048 203 203 5193 203 5193 203 (kL nm) 1497 [some (.ref G.1), some (rV G 0), some (rV G 177), some (iV i)] [] (fp_sx M') (fun r _ => r = some (iV 1))) : fp_SP l G 2048 203 203 5193 203 5193 203 (kL nm) 1322 [some (.ref G.1), some (rV G 0), some (rV G 177), some (iV i)] [] (fp_sx M) (fun r _ => r = some (iV 1)) := by
  obtain ⟨tp, fc, fm, g, pg, vs, nt, im, sh, tn, c, m, o, r, k⟩ := hI
  refine SP.aload_n (pc' := 1323) dL_law_1322 rfl rfl rfl ?_
  refine SP.aload_n (pc' := 1324) dL_law_1323 rfl rfl rfl ?_
  refine SP.iload_n (pc' := 1325) dL_law_1324 rfl rfl rfl ?_
  refine SP.iconst (pc' := 1326) dL_law_1325 rfl ?_
  refine SP.iadd (pc' := 1327) dL_law_1326 rfl ?_
  refine SP.sld (pc' := 1328) dL_law_1327 rfl (by omega) (by omega) hL ?_
  refine SP.aload_n (pc' := 1329) dL_law_1328 rfl rfl rfl ?_
  refine SP.iload_n (pc' := 1330) dL_law_1329 rfl rfl rfl ?_
  refine SP.iconst (pc' := 1331) dL_law_1330 rfl ?_
  refine SP.iadd (pc' := 1332) dL_law_1331 rfl ?_
  refine SP.sld (pc' := 1333) dL_law_1332 rfl (by omega) (by omega) hL ?_
  refine SP.aload_n (pc' := 1334) dL_law_1333 rfl rfl rfl ?_
  refine SP.iload_n (pc' := 1335) dL_law_1334 rfl rfl rfl ?_
  refine SP.iconst (pc' := 1336) dL_law_1335 rfl ?_
  refine SP.iadd (pc' := 1337) dL_law_1336 rfl ?_
  refine SP.sld (pc' := 1338) dL_law_1337 rfl (by omega) (by omega) hL ?_
  refine SP.opI (pc' := 1341) dL_law_1338 rfl cL_167 (cc_sheet c (fp_rng_of _) (fp_rng_of _) (fp_rng_of _)) rfl rfl (by decide) (Nat.le_refl _) (Nat.le_refl _) rfl (Nat.le_of_ble_eq_true rfl) (fun z1 M1 q1 => ?_)
  obtain ⟨e1, c1, f1⟩ := q1
  have m1 := f1.ms m
  have r1 := f1.rd r
  have k1 := f1.mr k
  refine SP.pop (pc' := 1342) dL_law_1341 rfl rfl ?_
  refine SP.aload_n (pc' := 1343) dL_law_1342 rfl rfl rfl ?_
  refine SP.aload_n (pc' := 1344) dL_law_1343 rfl rfl rfl ?_
  refine SP.iload_n (pc' := 1345) dL_law_1344 rfl rfl rfl ?_
  refine SP.iconst (pc' := 1346) dL_law_1345 rfl ?_
  refine SP.iadd (pc' := 1347) dL_law_1346 rfl ?_
  refine SP.sld (pc' := 1348) dL_law_1347 rfl (by omega) (by omega) hL ?_
  refine SP.aload_n (pc' := 1349) dL_law_1348 rfl rfl rfl ?_
  refine SP.iload_n (pc' := 1350) dL_law_1349 rfl rfl rfl ?_
  refine SP.iconst (pc' := 1351) dL_law_1350 rfl ?_
  refine SP.iadd (pc' := 1352) dL_law_1351 rfl ?_
  refine SP.sld (pc' := 1353) dL_law_1352 rfl (by omega) (by omega) hL ?_
  refine SP.aload_n (pc' := 1354) dL_law_1353 rfl rfl rfl ?_
  refine SP.iload_n (pc' := 1355) dL_law_1354 rfl rfl rfl ?_
  refine SP.iconst (pc' := 1356) dL_law_1355 rfl ?_
  refine SP.iadd (pc' := 1357) dL_law_1356 rfl ?_
  refine SP.sld (pc' := 1358) dL_law_1357 rfl (by omega) (by omega) hL ?_
  refine SP.opI (pc' := 1361) dL_law_1358 rfl cL_170 (mm_sheet m1 (fp_rng_of _) (fp_rng_of _) (fp_rng_of _)) rfl rfl (by decide) (Nat.le_refl _) (Nat.le_refl _) rfl (Nat.le_of_ble_eq_true rfl) (fun z2 M2 q2 => ?_)
  obtain ⟨e2, m2, f2⟩ := q2
  have hI2 : LI M2 := ⟨_, _, _, _, _, _, _, _, _, _, f2.cs c1, m2, o.sheet, f2.rd r1, f2.mr k1⟩
  refine SP.pop (pc' := 1362) dL_law_1361 rfl rfl ?_
  refine SP.goto (pc' := 1497) dL_law_1362 (by decide) ?_
  exact K _ hI2
theorem law_lay {M : fp_Mem} (hI : LI M) (h0 : 0 ≤ i) (h7 : i + 7 ≤ (G.2.2.2.2.2.1 : Int)) (hL : G.2.2.2.2.2.1 ≤ 2147483647) (K : ∀ M', LI M' → fp_SP l G 2048 203 203 5193 203 5193 203 (kL nm) 1497 [some (.ref G.1), some (rV G 0), some (rV G 177), some (iV i)] [] (fp_sx M') (fun r _ => r = some (iV 1))) : fp_SP l G 2048 203 203 5193 203 5193 203 (kL nm) 1365 [some (.ref G.1), some (rV G 0), some (rV G 177), some (iV i)] [] (fp_sx M) (fun r _ => r = some (iV 1)) := by
  obtain ⟨tp, fc, fm, g, pg, vs, nt, im, sh, tn, c, m, o, r, k⟩ := hI
  refine SP.aload_n (pc' := 1366) dL_law_1365 rfl rfl rfl ?_
  refine SP.aload_n (pc' := 1367) dL_law_1366 rfl rfl rfl ?_
  refine SP.iload_n (pc' := 1368) dL_law_1367 rfl rfl rfl ?_
  refine SP.iconst (pc' := 1369) dL_law_1368 rfl ?_
  refine SP.iadd (pc' := 1370) dL_law_1369 rfl ?_
  refine SP.sld (pc' := 1371) dL_law_1370 rfl (by omega) (by omega) hL ?_
  refine SP.aload_n (pc' := 1372) dL_law_1371 rfl rfl rfl ?_
  refine SP.iload_n (pc' := 1373) dL_law_1372 rfl rfl rfl ?_
  refine SP.iconst (pc' := 1374) dL_law_1373 rfl ?_
  refine SP.iadd (pc' := 1375) dL_law_1374 rfl ?_
  refine SP.sld (pc' := 1376) dL_law_1375 rfl (by omega) (by omega) hL ?_
  refine SP.aload_n (pc' := 1377) dL_law_1376 rfl rfl rfl ?_
  refine SP.iload_n (pc' := 1378) dL_law_1377 rfl rfl rfl ?_
  refine SP.iconst (pc' := 1379) dL_law_1378 rfl ?_
  refine SP.iadd (pc' := 1380) dL_law_1379 rfl ?_
  refine SP.sld (pc' := 1381) dL_law_1380 rfl (by omega) (by omega) hL ?_
  refine SP.opI (pc' := 1384) dL_law_1381 rfl cL_171 (cc_lay c o (fp_rng_of _) (fp_rng_of _) (fp_rng_of _)) rfl rfl (by decide) (Nat.le_refl _) (Nat.le_refl _) rfl (Nat.le_of_ble_eq_true rfl) (fun z1 M1 q1 => ?_)
  obtain ⟨e1, c1, f1⟩ := q1
  have m1 := f1.ms m
  have r1 := f1.rd r
  have k1 := f1.mr k
  refine SP.pop (pc' := 1385) dL_law_1384 rfl rfl ?_
  refine SP.aload_n (pc' := 1386) dL_law_1385 rfl rfl rfl ?_
  refine SP.aload_n (pc' := 1387) dL_law_1386 rfl rfl rfl ?_
  refine SP.iload_n (pc' := 1388) dL_law_1387 rfl rfl rfl ?_
  refine SP.iconst (pc' := 1389) dL_law_1388 rfl ?_
  refine SP.iadd (pc' := 1390) dL_law_1389 rfl ?_
  refine SP.sld (pc' := 1391) dL_law_1390 rfl (by omega) (by omega) hL ?_
  refine SP.aload_n (pc' := 1392) dL_law_1391 rfl rfl rfl ?_
  refine SP.iload_n (pc' := 1393) dL_law_1392 rfl rfl rfl ?_
  refine SP.iconst (pc' := 1394) dL_law_1393 rfl ?_
  refine SP.iadd (pc' := 1395) dL_law_1394 rfl ?_
  refine SP.sld (pc' := 1396) dL_law_1395 rfl (by omega) (by omega) hL ?_
  refine SP.aload_n (pc' := 1397) dL_law_1396 rfl rfl rfl ?_
  refine SP.iload_n (pc' := 1398) dL_law_1397 rfl rfl rfl ?_
  refine SP.iconst (pc' := 1399) dL_law_1398 rfl ?_
  refine SP.iadd (pc' := 1400) dL_law_1399 rfl ?_
  refine SP.sld (pc' := 1401) dL_law_1400 rfl (by omega) (by omega) hL ?_
  refine SP.opI (pc' := 1404) dL_law_1401 rfl cL_174 (mm_lay m1 o (fp_rng_of _) (fp_rng_of _) (fp_rng_of _)) rfl rfl (by decide) (Nat.le_refl _) (Nat.le_refl _) rfl (Nat.le_of_ble_eq_true rfl) (fun z2 M2 q2 => ?_)
  obtain ⟨e2, m2, f2⟩ := q2
  have hI2 : LI M2 := ⟨_, _, _, _, _, _, _, _, _, _, f2.cs c1, m2, (o.lay (fp_rng_of _)), f2.rd r1, f2.mr k1⟩
  refine SP.pop (pc' := 1405) dL_law_1404 rfl rfl ?_
  refine SP.goto (pc' := 1497) dL_law_1405 (by decide) ?_
  exact K _ hI2
theorem law_read {M : fp_Mem} (hI : LI M) (h0 : 0 ≤ i) (h7 : i + 7 ≤ (G.2.2.2.2.2.1 : Int)) (hL : G.2.2.2.2.2.1 ≤ 2147483647) (K : ∀ M', LI M' → fp_SP l G 2048 203 203 5193 203 5193 203 (kL nm) 1497 [some (.ref G.1), some (rV G 0), some (rV G 177), some (iV i)] [] (fp_sx M') (fun r _ => r = some (iV 1))) : fp_SP l G 2048 203 203 5193 203 5193 203 (kL nm) 1408 [some (.ref G.1), some (rV G 0), some (rV G 177), some (iV i)] [] (fp_sx M) (fun r _ => r = some (iV 1)) := by
  obtain ⟨tp, fc, fm, g, pg, vs, nt, im, sh, tn, c, m, o, r, k⟩ := hI
  refine SP.aload_n (pc' := 1409) dL_law_1408 rfl rfl rfl ?_
  refine SP.aload_n (pc' := 1410) dL_law_1409 rfl rfl rfl ?_
  refine SP.iload_n (pc' := 1411) dL_law_1410 rfl rfl rfl ?_
  refine SP.iconst (pc' := 1412) dL_law_1411 rfl ?_
  refine SP.iadd (pc' := 1413) dL_law_1412 rfl ?_
  refine SP.sld (pc' := 1414) dL_law_1413 rfl (by omega) (by omega) hL ?_
  refine SP.aload_n (pc' := 1415) dL_law_1414 rfl rfl rfl ?_
  refine SP.iload_n (pc' := 1416) dL_law_1415 rfl rfl rfl ?_
  refine SP.iconst (pc' := 1417) dL_law_1416 rfl ?_
  refine SP.iadd (pc' := 1418) dL_law_1417 rfl ?_
  refine SP.sld (pc' := 1419) dL_law_1418 rfl (by omega) (by omega) hL ?_
  refine SP.aload_n (pc' := 1420) dL_law_1419 rfl rfl rfl ?_
  refine SP.iload_n (pc' := 1421) dL_law_1420 rfl rfl rfl ?_
  refine SP.iconst (pc' := 1422) dL_law_1421 rfl ?_
  refine SP.iadd (pc' := 1423) dL_law_1422 rfl ?_
  refine SP.sld (pc' := 1424) dL_law_1423 rfl (by omega) (by omega) hL ?_
  refine SP.aload_n (pc' := 1425) dL_law_1424 rfl rfl rfl ?_
  refine SP.iload_n (pc' := 1426) dL_law_1425 rfl rfl rfl ?_
  refine SP.iconst (pc' := 1427) dL_law_1426 rfl ?_
  refine SP.iadd (pc' := 1428) dL_law_1427 rfl ?_
  refine SP.sld (pc' := 1429) dL_law_1428 rfl (by omega) (by omega) hL ?_
  refine SP.opI (pc' := 1432) dL_law_1429 rfl cL_175 (cc_read c o (fp_rng_of _) (fp_rng_of _) (fp_rng_of _) (fp_rng_of _)) rfl rfl (by decide) (Nat.le_refl _) (Nat.le_refl _) rfl (Nat.le_of_ble_eq_true rfl) (fun z1 M1 q1 => ?_)
  obtain ⟨e1, c1, f1⟩ := q1
  have m1 := f1.ms m
  have r1 := f1.rd r
  have k1 := f1.mr k
  refine SP.pop (pc' := 1433) dL_law_1432 rfl rfl ?_
  refine SP.aload_n (pc' := 1434) dL_law_1433 rfl rfl rfl ?_
  refine SP.aload_n (pc' := 1435) dL_law_1434 rfl rfl rfl ?_
  refine SP.iload_n (pc' := 1436) dL_law_1435 rfl rfl rfl ?_
  refine SP.iconst (pc' := 1437) dL_law_1436 rfl ?_
  refine SP.iadd (pc' := 1438) dL_law_1437 rfl ?_
  refine SP.sld (pc' := 1439) dL_law_1438 rfl (by omega) (by omega) hL ?_
  refine SP.aload_n (pc' := 1440) dL_law_1439 rfl rfl rfl ?_
  refine SP.iload_n (pc' := 1441) dL_law_1440 rfl rfl rfl ?_
  refine SP.iconst (pc' := 1442) dL_law_1441 rfl ?_
  refine SP.iadd (pc' := 1443) dL_law_1442 rfl ?_
  refine SP.sld (pc' := 1444) dL_law_1443 rfl (by omega) (by omega) hL ?_
  refine SP.aload_n (pc' := 1445) dL_law_1444 rfl rfl rfl ?_
  refine SP.iload_n (pc' := 1446) dL_law_1445 rfl rfl rfl ?_
  refine SP.iconst (pc' := 1447) dL_law_1446 rfl ?_
  refine SP.iadd (pc' := 1448) dL_law_1447 rfl ?_
  refine SP.sld (pc' := 1449) dL_law_1448 rfl (by omega) (by omega) hL ?_
  refine SP.aload_n (pc' := 1450) dL_law_1449 rfl rfl rfl ?_
  refine SP.iload_n (pc' := 1451) dL_law_1450 rfl rfl rfl ?_
  refine SP.iconst (pc' := 1452) dL_law_1451 rfl ?_
  refine SP.iadd (pc' := 1453) dL_law_1452 rfl ?_
  refine SP.sld (pc' := 1454) dL_law_1453 rfl (by omega) (by omega) hL ?_
  refine SP.opI (pc' := 1457) dL_law_1454 rfl cL_178 (mm_read m1 o (fp_rng_of _) (fp_rng_of _) (fp_rng_of _) (fp_rng_of _)) rfl rfl (by decide) (Nat.le_refl _) (Nat.le_refl _) rfl (Nat.le_of_ble_eq_true rfl) (fun z2 M2 q2 => ?_)
  obtain ⟨e2, m2, f2⟩ := q2
  have hI2 : LI M2 := ⟨_, _, _, _, _, _, _, _, _, _, f2.cs c1, m2, o.read, f2.rd r1, f2.mr k1⟩
  refine SP.pop (pc' := 1458) dL_law_1457 rfl rfl ?_
  refine SP.goto (pc' := 1497) dL_law_1458 (by decide) ?_
  exact K _ hI2
theorem law_torn {M : fp_Mem} (hI : LI M) (h0 : 0 ≤ i) (h7 : i + 7 ≤ (G.2.2.2.2.2.1 : Int)) (hL : G.2.2.2.2.2.1 ≤ 2147483647) (K : ∀ M', LI M' → fp_SP l G 2048 203 203 5193 203 5193 203 (kL nm) 1497 [some (.ref G.1), some (rV G 0), some (rV G 177), some (iV i)] [] (fp_sx M') (fun r _ => r = some (iV 1))) : fp_SP l G 2048 203 203 5193 203 5193 203 (kL nm) 1461 [some (.ref G.1), some (rV G 0), some (rV G 177), some (iV i)] [] (fp_sx M) (fun r _ => r = some (iV 1)) := by
  obtain ⟨tp, fc, fm, g, pg, vs, nt, im, sh, tn, c, m, o, r, k⟩ := hI
  refine SP.aload_n (pc' := 1462) dL_law_1461 rfl rfl rfl ?_
  refine SP.opI (pc' := 1465) dL_law_1462 rfl cL_179 (cc_torn c ) rfl rfl (by decide) (Nat.le_refl _) (Nat.le_refl _) rfl (Nat.le_of_ble_eq_true rfl) (fun z1 M1 q1 => ?_)
  obtain ⟨e1, q1⟩ := q1
  have f1 : frC M M1 := by rw [q1]; exact frC.refl _
  have c1 : CS M1 tp fc g pg vs nt im sh tn := by rw [q1]; exact c
  have m1 := f1.ms m
  have r1 := f1.rd r
  have k1 := f1.mr k
  refine SP.pop (pc' := 1466) dL_law_1465 rfl rfl ?_
  refine SP.aload_n (pc' := 1467) dL_law_1466 rfl rfl rfl ?_
  refine SP.opI (pc' := 1470) dL_law_1467 rfl cL_182 (mm_torn m1 ) rfl rfl (by decide) (Nat.le_refl _) (Nat.le_refl _) rfl (Nat.le_of_ble_eq_true rfl) (fun z2 M2 q2 => ?_)
  obtain ⟨e2, q2⟩ := q2
  have f2 : frD M1 M2 := by rw [q2]; exact frD.refl _
  have m2 : MS M2 tp fm g pg vs nt im sh tn := by rw [q2]; exact m1
  have hI2 : LI M2 := ⟨_, _, _, _, _, _, _, _, _, _, f2.cs c1, m2, o, f2.rd r1, f2.mr k1⟩
  refine SP.pop (pc' := 1471) dL_law_1470 rfl rfl ?_
  refine SP.goto (pc' := 1497) dL_law_1471 (by decide) ?_
  exact K _ hI2
theorem law_count {M : fp_Mem} (hI : LI M) (h0 : 0 ≤ i) (h7 : i + 7 ≤ (G.2.2.2.2.2.1 : Int)) (hL : G.2.2.2.2.2.1 ≤ 2147483647) (K : ∀ M', LI M' → fp_SP l G 2048 203 203 5193 203 5193 203 (kL nm) 1497 [some (.ref G.1), some (rV G 0), some (rV G 177), some (iV i)] [] (fp_sx M') (fun r _ => r = some (iV 1))) : fp_SP l G 2048 203 203 5193 203 5193 203 (kL nm) 1474 [some (.ref G.1), some (rV G 0), some (rV G 177), some (iV i)] [] (fp_sx M) (fun r _ => r = some (iV 1)) := by
  obtain ⟨tp, fc, fm, g, pg, vs, nt, im, sh, tn, c, m, o, r, k⟩ := hI
  refine SP.aload_n (pc' := 1475) dL_law_1474 rfl rfl rfl ?_
  refine SP.aload_n (pc' := 1476) dL_law_1475 rfl rfl rfl ?_
  refine SP.iload_n (pc' := 1477) dL_law_1476 rfl rfl rfl ?_
  refine SP.iconst (pc' := 1478) dL_law_1477 rfl ?_
  refine SP.iadd (pc' := 1479) dL_law_1478 rfl ?_
  refine SP.sld (pc' := 1480) dL_law_1479 rfl (by omega) (by omega) hL ?_
  refine SP.opI (pc' := 1483) dL_law_1480 rfl cL_183 (cc_count c (fp_rng_of _)) rfl rfl (by decide) (Nat.le_refl _) (Nat.le_refl _) rfl (Nat.le_of_ble_eq_true rfl) (fun z1 M1 q1 => ?_)
  obtain ⟨e1, c1, f1⟩ := q1
  have m1 := f1.ms m
  have r1 := f1.rd r
  have k1 := f1.mr k
  refine SP.aload_n (pc' := 1484) dL_law_1483 rfl rfl rfl ?_
  refine SP.aload_n (pc' := 1485) dL_law_1484 rfl rfl rfl ?_
  refine SP.iload_n (pc' := 1486) dL_law_1485 rfl rfl rfl ?_
  refine SP.iconst (pc' := 1487) dL_law_1486 rfl ?_
  refine SP.iadd (pc' := 1488) dL_law_1487 rfl ?_
  refine SP.sld (pc' := 1489) dL_law_1488 rfl (by omega) (by omega) hL ?_
  refine SP.opI (pc' := 1492) dL_law_1489 rfl cL_186 (mm_count m1 o (fp_rng_of _)) rfl rfl (by decide) (Nat.le_refl _) (Nat.le_refl _) rfl (Nat.le_of_ble_eq_true rfl) (fun z2 M2 q2 => ?_)
  obtain ⟨e2, m2, f2⟩ := q2
  have hI2 : LI M2 := ⟨_, _, _, _, _, _, _, _, _, _, f2.cs c1, m2, o, f2.rd r1, f2.mr k1⟩
  have e12 : z1 = z2 := e1.trans e2.symm
  subst e12
  refine SP.same (tgt := 1497) dL_law_1492 (by decide) ?_
  exact K _ hI2
end LAW
