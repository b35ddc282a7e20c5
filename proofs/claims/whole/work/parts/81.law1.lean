set_option maxRecDepth 20000 in
set_option maxHeartbeats 2000000 in
theorem lw_c0 {p : Program} {l : Launch} {e : Env} {s : State} {m : MethodId} {below : List Frame} {meth : Method} {c : Code} {H : Heap} {locs : List Loc} {Q : State → Prop} {ls : Array Slot} {D : va_G} {Y : Nat → ClassId} {a : Int → Nat} {b L : Nat} {xs : Nat → Int32} {σ : zS} {i : Int} (C : lwC p s m c D Y a b L xs) (hl : lv_has ls 4 (lwV a b i)) (hi : 0 ≤ i ∧ i + 6 ≤ L) (hJ : jInv σ) (hP : GP D Y a σ H) (hS : va_S (inA a) s.heap H locs) (K : ∀ (σ1 : zS) (H1 : Heap) (locs1 : List Loc), jInv σ1 → GP D Y a σ1 H1 → va_S (inA a) s.heap H1 locs1 → W p l e room_1 s m #[Value.ref b] below meth c H1 locs1 600000 7302250 Q (F0 m 1115 ls [])) : W p l e room_1 s m #[Value.ref b] below meth c H locs 600000 7302250 Q (F0 m 176 ls []) := by
  have hI := C.1.2.2.2.2.2.2.1
  have hN : 600000 ≤ room_1.cells ∧ 7302250 ≤ room_1.slots := ⟨Nat.le_of_ble_eq_true rfl, Nat.le_of_ble_eq_true rfl⟩
  obtain ⟨x1, e1⟩ : ∃ z, z = lx xs (i + 1) := ⟨_, rfl⟩
  have r1 : R3 x1 := by rw [e1]; exact lx_r _ _
  obtain ⟨x2, e2⟩ : ∃ z, z = lx xs (i + 2) := ⟨_, rfl⟩
  have r2 : R3 x2 := by rw [e2]; exact lx_r _ _
  obtain ⟨x3, e3⟩ : ∃ z, z = lx xs (i + 3) := ⟨_, rfl⟩
  have r3 : R3 x3 := by rw [e3]; exact lx_r _ _
  obtain ⟨x4, e4⟩ : ∃ z, z = lx xs (i + 4) := ⟨_, rfl⟩
  have r4 : R3 x4 := by rw [e4]; exact lx_r _ _
  obtain ⟨x5, e5⟩ : ∃ z, z = lx xs (i + 5) := ⟨_, rfl⟩
  have r5 : R3 x5 := by rw [e5]; exact lx_r _ _
  refine z_aload_n C.1 hl 2 rfl dL_law_176 ?_
  refine lw_ld C hS hl e1 hi ⟨by decide, by decide⟩ dL_law_177 dL_law_178 dL_law_179 dL_law_180 dL_law_181 ?_
  refine lw_ld C hS hl e2 hi ⟨by decide, by decide⟩ dL_law_182 dL_law_183 dL_law_184 dL_law_185 dL_law_186 ?_
  refine lw_ld C hS hl e3 hi ⟨by decide, by decide⟩ dL_law_187 dL_law_188 dL_law_189 dL_law_190 dL_law_191 ?_
  refine lw_ld C hS hl e4 hi ⟨by decide, by decide⟩ dL_law_192 dL_law_193 dL_law_194 dL_law_195 dL_law_196 ?_
  refine lw_ld C hS hl e5 hi ⟨by decide, by decide⟩ dL_law_197 dL_law_198 dL_law_199 dL_law_200 dL_law_201 ?_
  refine z_vQi hS C.1 hP (As := [.int (iI x1), .int (iI x2), .int (iI x3), .int (iI x4), .int (iI x5)]) lk_L_13 (c_X7_rider hI σ x1 x2 x3 x4 x5 r1 r2 r3 r4 r5 (pk_hth hJ)) ob_0 rfl rfl rfl hl.1 rfl (Nat.le_of_ble_eq_true rfl) ⟨Nat.le_of_ble_eq_true rfl, Nat.le_of_ble_eq_true rfl⟩ hN dL_law_202 (fun ra σa H locs pa hP hS => ?_)
  have hR := jR_c (jInv_R hJ) (fr_X7_rider pa)
  refine z_aload_n C.1 hl 1 rfl dL_law_205 ?_
  refine lw_ld C hS hl e1 hi ⟨by decide, by decide⟩ dL_law_206 dL_law_207 dL_law_208 dL_law_209 dL_law_210 ?_
  refine lw_ld C hS hl e2 hi ⟨by decide, by decide⟩ dL_law_211 dL_law_212 dL_law_213 dL_law_214 dL_law_215 ?_
  refine lw_ld C hS hl e3 hi ⟨by decide, by decide⟩ dL_law_216 dL_law_217 dL_law_218 dL_law_219 dL_law_220 ?_
  refine lw_ld C hS hl e4 hi ⟨by decide, by decide⟩ dL_law_221 dL_law_222 dL_law_223 dL_law_224 dL_law_225 ?_
  refine lw_ld C hS hl e5 hi ⟨by decide, by decide⟩ dL_law_226 dL_law_227 dL_law_228 dL_law_229 dL_law_230 ?_
  refine z_vQi hS C.1 hP (As := [.int (iI x1), .int (iI x2), .int (iI x3), .int (iI x4), .int (iI x5)]) lk_L_17 (c_X8_rider hI σa x1 x2 x3 x4 x5 r1 r2 r3 r4 r5 (pj_hrb hR)) ob_100 rfl rfl rfl hl.1 rfl (Nat.le_of_ble_eq_true rfl) ⟨Nat.le_of_ble_eq_true rfl, Nat.le_of_ble_eq_true rfl⟩ hN dL_law_231 (fun rb σb H locs pb hP hS => ?_)
  obtain ⟨hE, hJ2⟩ := st_rider hJ x1 x2 x3 x4 x5 pa pb
  refine lw_same C hE 1115 dL_law_234 (by decide) ?_
  exact K _ _ _ hJ2 hP hS
set_option maxRecDepth 20000 in
set_option maxHeartbeats 2000000 in
theorem lw_c1 {p : Program} {l : Launch} {e : Env} {s : State} {m : MethodId} {below : List Frame} {meth : Method} {c : Code} {H : Heap} {locs : List Loc} {Q : State → Prop} {ls : Array Slot} {D : va_G} {Y : Nat → ClassId} {a : Int → Nat} {b L : Nat} {xs : Nat → Int32} {σ : zS} {i : Int} (C : lwC p s m c D Y a b L xs) (hl : lv_has ls 4 (lwV a b i)) (hi : 0 ≤ i ∧ i + 6 ≤ L) (hJ : jInv σ) (hP : GP D Y a σ H) (hS : va_S (inA a) s.heap H locs) (K : ∀ (σ1 : zS) (H1 : Heap) (locs1 : List Loc), jInv σ1 → GP D Y a σ1 H1 → va_S (inA a) s.heap H1 locs1 → W p l e room_1 s m #[Value.ref b] below meth c H1 locs1 600000 7302250 Q (F0 m 1115 ls [])) : W p l e room_1 s m #[Value.ref b] below meth c H locs 600000 7302250 Q (F0 m 239 ls []) := by
  have hI := C.1.2.2.2.2.2.2.1
  have hN : 600000 ≤ room_1.cells ∧ 7302250 ≤ room_1.slots := ⟨Nat.le_of_ble_eq_true rfl, Nat.le_of_ble_eq_true rfl⟩
  obtain ⟨x1, e1⟩ : ∃ z, z = lx xs (i + 1) := ⟨_, rfl⟩
  have r1 : R3 x1 := by rw [e1]; exact lx_r _ _
  refine z_aload_n C.1 hl 2 rfl dL_law_239 ?_
  refine lw_ld C hS hl e1 hi ⟨by decide, by decide⟩ dL_law_240 dL_law_241 dL_law_242 dL_law_243 dL_law_244 ?_
  refine z_vQi hS C.1 hP (As := [.int (iI x1)]) lk_L_18 (c_X7_leave hI σ x1 r1 (pk_hth hJ)) ob_0 rfl rfl rfl hl.1 rfl (Nat.le_of_ble_eq_true rfl) ⟨Nat.le_of_ble_eq_true rfl, Nat.le_of_ble_eq_true rfl⟩ hN dL_law_245 (fun ra σa H locs pa hP hS => ?_)
  have hR := jR_c (jInv_R hJ) (fr_X7_leave pa)
  refine z_aload_n C.1 hl 1 rfl dL_law_248 ?_
  refine lw_ld C hS hl e1 hi ⟨by decide, by decide⟩ dL_law_249 dL_law_250 dL_law_251 dL_law_252 dL_law_253 ?_
  refine z_vQi hS C.1 hP (As := [.int (iI x1)]) lk_L_22 (c_X8_leave hI σa x1 r1 (pj_hrb hR)) ob_100 rfl rfl rfl hl.1 rfl (Nat.le_of_ble_eq_true rfl) ⟨Nat.le_of_ble_eq_true rfl, Nat.le_of_ble_eq_true rfl⟩ hN dL_law_254 (fun rb σb H locs pb hP hS => ?_)
  obtain ⟨hE, hJ2⟩ := st_leave hJ x1 pa pb
  refine lw_same C hE 1115 dL_law_257 (by decide) ?_
  exact K _ _ _ hJ2 hP hS
set_option maxRecDepth 20000 in
set_option maxHeartbeats 2000000 in
theorem lw_c2 {p : Program} {l : Launch} {e : Env} {s : State} {m : MethodId} {below : List Frame} {meth : Method} {c : Code} {H : Heap} {locs : List Loc} {Q : State → Prop} {ls : Array Slot} {D : va_G} {Y : Nat → ClassId} {a : Int → Nat} {b L : Nat} {xs : Nat → Int32} {σ : zS} {i : Int} (C : lwC p s m c D Y a b L xs) (hl : lv_has ls 4 (lwV a b i)) (hi : 0 ≤ i ∧ i + 6 ≤ L) (hJ : jInv σ) (hP : GP D Y a σ H) (hS : va_S (inA a) s.heap H locs) (K : ∀ (σ1 : zS) (H1 : Heap) (locs1 : List Loc), jInv σ1 → GP D Y a σ1 H1 → va_S (inA a) s.heap H1 locs1 → W p l e room_1 s m #[Value.ref b] below meth c H1 locs1 600000 7302250 Q (F0 m 1115 ls [])) : W p l e room_1 s m #[Value.ref b] below meth c H locs 600000 7302250 Q (F0 m 262 ls []) := by
  have hI := C.1.2.2.2.2.2.2.1
  have hN : 600000 ≤ room_1.cells ∧ 7302250 ≤ room_1.slots := ⟨Nat.le_of_ble_eq_true rfl, Nat.le_of_ble_eq_true rfl⟩
  obtain ⟨x1, e1⟩ : ∃ z, z = lx xs (i + 1) := ⟨_, rfl⟩
  have r1 : R3 x1 := by rw [e1]; exact lx_r _ _
  obtain ⟨x2, e2⟩ : ∃ z, z = lx xs (i + 2) := ⟨_, rfl⟩
  have r2 : R3 x2 := by rw [e2]; exact lx_r _ _
  refine z_aload_n C.1 hl 2 rfl dL_law_262 ?_
  refine lw_ld C hS hl e1 hi ⟨by decide, by decide⟩ dL_law_263 dL_law_264 dL_law_265 dL_law_266 dL_law_267 ?_
  refine lw_ld C hS hl e2 hi ⟨by decide, by decide⟩ dL_law_268 dL_law_269 dL_law_270 dL_law_271 dL_law_272 ?_
  refine z_vQi hS C.1 hP (As := [.int (iI x1), .int (iI x2)]) lk_L_23 (c_X7_seat hI σ x1 x2 r1 r2 (pk_hth hJ)) ob_0 rfl rfl rfl hl.1 rfl (Nat.le_of_ble_eq_true rfl) ⟨Nat.le_of_ble_eq_true rfl, Nat.le_of_ble_eq_true rfl⟩ hN dL_law_273 (fun ra σa H locs pa hP hS => ?_)
  have hR := jR_c (jInv_R hJ) (fr_X7_seat pa)
  refine z_aload_n C.1 hl 1 rfl dL_law_276 ?_
  refine lw_ld C hS hl e1 hi ⟨by decide, by decide⟩ dL_law_277 dL_law_278 dL_law_279 dL_law_280 dL_law_281 ?_
  refine lw_ld C hS hl e2 hi ⟨by decide, by decide⟩ dL_law_282 dL_law_283 dL_law_284 dL_law_285 dL_law_286 ?_
  refine z_vQi hS C.1 hP (As := [.int (iI x1), .int (iI x2)]) lk_L_27 (c_X8_seat hI σa x1 x2 r1 r2 (pj_hrb hR)) ob_100 rfl rfl rfl hl.1 rfl (Nat.le_of_ble_eq_true rfl) ⟨Nat.le_of_ble_eq_true rfl, Nat.le_of_ble_eq_true rfl⟩ hN dL_law_287 (fun rb σb H locs pb hP hS => ?_)
  obtain ⟨hE, hJ2⟩ := st_seat hJ x1 x2 pa pb
  refine lw_same C hE 1115 dL_law_290 (by decide) ?_
  exact K _ _ _ hJ2 hP hS
set_option maxRecDepth 20000 in
set_option maxHeartbeats 2000000 in
theorem lw_c3_0 {p : Program} {l : Launch} {e : Env} {s : State} {m : MethodId} {below : List Frame} {meth : Method} {c : Code} {H : Heap} {locs : List Loc} {Q : State → Prop} {ls : Array Slot} {D : va_G} {Y : Nat → ClassId} {a : Int → Nat} {b L : Nat} {xs : Nat → Int32} {σ : zS} {i : Int} (C : lwC p s m c D Y a b L xs) (hl : lv_has ls 4 (lwV a b i)) (hi : 0 ≤ i ∧ i + 6 ≤ L) (n1 : lx xs (i + 1) = 0) (hJ : jInv σ) (hP : GP D Y a σ H) (hS : va_S (inA a) s.heap H locs) (K : ∀ (σ1 : zS) (H1 : Heap) (locs1 : List Loc), jInv σ1 → GP D Y a σ1 H1 → va_S (inA a) s.heap H1 locs1 → W p l e room_1 s m #[Value.ref b] below meth c H1 locs1 600000 7302250 Q (F0 m 1115 ls [])) : W p l e room_1 s m #[Value.ref b] below meth c H locs 600000 7302250 Q (F0 m 295 ls []) := by
  have hI := C.1.2.2.2.2.2.2.1
  have hN : 600000 ≤ room_1.cells ∧ 7302250 ≤ room_1.slots := ⟨Nat.le_of_ble_eq_true rfl, Nat.le_of_ble_eq_true rfl⟩
  have e1 : 0 = lx xs (i + 1) := n1.symm
  obtain ⟨x2, e2⟩ : ∃ z, z = lx xs (i + 2) := ⟨_, rfl⟩
  have r2 : R3 x2 := by rw [e2]; exact lx_r _ _
  refine z_aload_n C.1 hl 2 rfl dL_law_295 ?_
  refine lw_ld C hS hl e1 hi ⟨by decide, by decide⟩ dL_law_296 dL_law_297 dL_law_298 dL_law_299 dL_law_300 ?_
  refine lw_ld C hS hl e2 hi ⟨by decide, by decide⟩ dL_law_301 dL_law_302 dL_law_303 dL_law_304 dL_law_305 ?_
  refine z_vQi hS C.1 hP (As := [.int (iI 0), .int (iI x2)]) lk_L_28 (c_X7_set hI σ 0 x2 ⟨by decide, by decide⟩ r2 ⟨Int.le_trans (by decide) (pk_hho hJ).1, (pk_hho hJ).2, (pk_hpz hJ).1, (pk_hpz hJ).2, pk_hca hJ⟩) ob_0 rfl rfl rfl hl.1 rfl (Nat.le_of_ble_eq_true rfl) ⟨Nat.le_of_ble_eq_true rfl, Nat.le_of_ble_eq_true rfl⟩ hN dL_law_306 (fun ra σa H locs pa hP hS => ?_)
  have hR := jR_c (jInv_R hJ) (fr_X7_set pa)
  refine z_aload_n C.1 hl 1 rfl dL_law_309 ?_
  refine lw_ld C hS hl e1 hi ⟨by decide, by decide⟩ dL_law_310 dL_law_311 dL_law_312 dL_law_313 dL_law_314 ?_
  refine lw_ld C hS hl e2 hi ⟨by decide, by decide⟩ dL_law_315 dL_law_316 dL_law_317 dL_law_318 dL_law_319 ?_
  refine z_vQi hS C.1 hP (As := [.int (iI 0), .int (iI x2)]) lk_L_31 (c_X8_set_0 hI σa x2 r2) ob_100 rfl rfl rfl hl.1 rfl (Nat.le_of_ble_eq_true rfl) ⟨Nat.le_of_ble_eq_true rfl, Nat.le_of_ble_eq_true rfl⟩ hN dL_law_320 (fun rb σb H locs pb hP hS => ?_)
  have hq : ra = rb ∧ jInv σb := by
    refine st_set_0 (τ := σa) (r1 := ra) hJ x2 ?_ pb
    by_cases q : 5 ≤ x2 ∧ x2 ≤ 20
    · rw [if_neg (by omega)] at pa ⊢; exact pa
    · rw [if_pos (by omega)] at pa ⊢; exact pa
  obtain ⟨hE, hJ2⟩ := hq
  refine lw_same C hE 1115 dL_law_323 (by decide) ?_
  exact K _ _ _ hJ2 hP hS
set_option maxRecDepth 20000 in
set_option maxHeartbeats 2000000 in
theorem lw_c3_1 {p : Program} {l : Launch} {e : Env} {s : State} {m : MethodId} {below : List Frame} {meth : Method} {c : Code} {H : Heap} {locs : List Loc} {Q : State → Prop} {ls : Array Slot} {D : va_G} {Y : Nat → ClassId} {a : Int → Nat} {b L : Nat} {xs : Nat → Int32} {σ : zS} {i : Int} (C : lwC p s m c D Y a b L xs) (hl : lv_has ls 4 (lwV a b i)) (hi : 0 ≤ i ∧ i + 6 ≤ L) (n1 : lx xs (i + 1) = 1) (hJ : jInv σ) (hP : GP D Y a σ H) (hS : va_S (inA a) s.heap H locs) (K : ∀ (σ1 : zS) (H1 : Heap) (locs1 : List Loc), jInv σ1 → GP D Y a σ1 H1 → va_S (inA a) s.heap H1 locs1 → W p l e room_1 s m #[Value.ref b] below meth c H1 locs1 600000 7302250 Q (F0 m 1115 ls [])) : W p l e room_1 s m #[Value.ref b] below meth c H locs 600000 7302250 Q (F0 m 295 ls []) := by
  have hI := C.1.2.2.2.2.2.2.1
  have hN : 600000 ≤ room_1.cells ∧ 7302250 ≤ room_1.slots := ⟨Nat.le_of_ble_eq_true rfl, Nat.le_of_ble_eq_true rfl⟩
  have e1 : 1 = lx xs (i + 1) := n1.symm
  obtain ⟨x2, e2⟩ : ∃ z, z = lx xs (i + 2) := ⟨_, rfl⟩
  have r2 : R3 x2 := by rw [e2]; exact lx_r _ _
  refine z_aload_n C.1 hl 2 rfl dL_law_295 ?_
  refine lw_ld C hS hl e1 hi ⟨by decide, by decide⟩ dL_law_296 dL_law_297 dL_law_298 dL_law_299 dL_law_300 ?_
  refine lw_ld C hS hl e2 hi ⟨by decide, by decide⟩ dL_law_301 dL_law_302 dL_law_303 dL_law_304 dL_law_305 ?_
  refine z_vQi hS C.1 hP (As := [.int (iI 1), .int (iI x2)]) lk_L_28 (c_X7_set hI σ 1 x2 ⟨by decide, by decide⟩ r2 ⟨Int.le_trans (by decide) (pk_hho hJ).1, (pk_hho hJ).2, (pk_hpz hJ).1, (pk_hpz hJ).2, pk_hca hJ⟩) ob_0 rfl rfl rfl hl.1 rfl (Nat.le_of_ble_eq_true rfl) ⟨Nat.le_of_ble_eq_true rfl, Nat.le_of_ble_eq_true rfl⟩ hN dL_law_306 (fun ra σa H locs pa hP hS => ?_)
  have hR := jR_c (jInv_R hJ) (fr_X7_set pa)
  refine z_aload_n C.1 hl 1 rfl dL_law_309 ?_
  refine lw_ld C hS hl e1 hi ⟨by decide, by decide⟩ dL_law_310 dL_law_311 dL_law_312 dL_law_313 dL_law_314 ?_
  refine lw_ld C hS hl e2 hi ⟨by decide, by decide⟩ dL_law_315 dL_law_316 dL_law_317 dL_law_318 dL_law_319 ?_
  refine z_vQi hS C.1 hP (As := [.int (iI 1), .int (iI x2)]) lk_L_31 (c_X8_set_1 hI σa x2 r2) ob_100 rfl rfl rfl hl.1 rfl (Nat.le_of_ble_eq_true rfl) ⟨Nat.le_of_ble_eq_true rfl, Nat.le_of_ble_eq_true rfl⟩ hN dL_law_320 (fun rb σb H locs pb hP hS => ?_)
  have hq : ra = rb ∧ jInv σb := by
    refine st_set_1 (τ := σa) (r1 := ra) hJ x2 ?_ pb
    by_cases q : 0 ≤ x2 ∧ x2 ≤ 99
    · rw [if_neg (by omega)] at pa ⊢; exact pa
    · rw [if_pos (by omega)] at pa ⊢; exact pa
  obtain ⟨hE, hJ2⟩ := hq
  refine lw_same C hE 1115 dL_law_323 (by decide) ?_
  exact K _ _ _ hJ2 hP hS
set_option maxRecDepth 20000 in
set_option maxHeartbeats 2000000 in
theorem lw_c3_2 {p : Program} {l : Launch} {e : Env} {s : State} {m : MethodId} {below : List Frame} {meth : Method} {c : Code} {H : Heap} {locs : List Loc} {Q : State → Prop} {ls : Array Slot} {D : va_G} {Y : Nat → ClassId} {a : Int → Nat} {b L : Nat} {xs : Nat → Int32} {σ : zS} {i : Int} (C : lwC p s m c D Y a b L xs) (hl : lv_has ls 4 (lwV a b i)) (hi : 0 ≤ i ∧ i + 6 ≤ L) (n1 : lx xs (i + 1) = 2) (hJ : jInv σ) (hP : GP D Y a σ H) (hS : va_S (inA a) s.heap H locs) (K : ∀ (σ1 : zS) (H1 : Heap) (locs1 : List Loc), jInv σ1 → GP D Y a σ1 H1 → va_S (inA a) s.heap H1 locs1 → W p l e room_1 s m #[Value.ref b] below meth c H1 locs1 600000 7302250 Q (F0 m 1115 ls [])) : W p l e room_1 s m #[Value.ref b] below meth c H locs 600000 7302250 Q (F0 m 295 ls []) := by
  have hI := C.1.2.2.2.2.2.2.1
  have hN : 600000 ≤ room_1.cells ∧ 7302250 ≤ room_1.slots := ⟨Nat.le_of_ble_eq_true rfl, Nat.le_of_ble_eq_true rfl⟩
  have e1 : 2 = lx xs (i + 1) := n1.symm
  obtain ⟨x2, e2⟩ : ∃ z, z = lx xs (i + 2) := ⟨_, rfl⟩
  have r2 : R3 x2 := by rw [e2]; exact lx_r _ _
  refine z_aload_n C.1 hl 2 rfl dL_law_295 ?_
  refine lw_ld C hS hl e1 hi ⟨by decide, by decide⟩ dL_law_296 dL_law_297 dL_law_298 dL_law_299 dL_law_300 ?_
  refine lw_ld C hS hl e2 hi ⟨by decide, by decide⟩ dL_law_301 dL_law_302 dL_law_303 dL_law_304 dL_law_305 ?_
  refine z_vQi hS C.1 hP (As := [.int (iI 2), .int (iI x2)]) lk_L_28 (c_X7_set hI σ 2 x2 ⟨by decide, by decide⟩ r2 ⟨Int.le_trans (by decide) (pk_hho hJ).1, (pk_hho hJ).2, (pk_hpz hJ).1, (pk_hpz hJ).2, pk_hca hJ⟩) ob_0 rfl rfl rfl hl.1 rfl (Nat.le_of_ble_eq_true rfl) ⟨Nat.le_of_ble_eq_true rfl, Nat.le_of_ble_eq_true rfl⟩ hN dL_law_306 (fun ra σa H locs pa hP hS => ?_)
  have hR := jR_c (jInv_R hJ) (fr_X7_set pa)
  refine z_aload_n C.1 hl 1 rfl dL_law_309 ?_
  refine lw_ld C hS hl e1 hi ⟨by decide, by decide⟩ dL_law_310 dL_law_311 dL_law_312 dL_law_313 dL_law_314 ?_
  refine lw_ld C hS hl e2 hi ⟨by decide, by decide⟩ dL_law_315 dL_law_316 dL_law_317 dL_law_318 dL_law_319 ?_
  refine z_vQi hS C.1 hP (As := [.int (iI 2), .int (iI x2)]) lk_L_31 (c_X8_set_2 hI σa x2 r2) ob_100 rfl rfl rfl hl.1 rfl (Nat.le_of_ble_eq_true rfl) ⟨Nat.le_of_ble_eq_true rfl, Nat.le_of_ble_eq_true rfl⟩ hN dL_law_320 (fun rb σb H locs pb hP hS => ?_)
  have hq : ra = rb ∧ jInv σb := by
    refine st_set_2 (τ := σa) (r1 := ra) hJ x2 ?_ pb
    by_cases q : 0 ≤ x2 ∧ x2 ≤ 50
    · rw [if_neg (by omega)] at pa ⊢; exact pa
    · rw [if_pos (by omega)] at pa ⊢; exact pa
  obtain ⟨hE, hJ2⟩ := hq
  refine lw_same C hE 1115 dL_law_323 (by decide) ?_
  exact K _ _ _ hJ2 hP hS
set_option maxRecDepth 20000 in
set_option maxHeartbeats 2000000 in
theorem lw_c3_o {p : Program} {l : Launch} {e : Env} {s : State} {m : MethodId} {below : List Frame} {meth : Method} {c : Code} {H : Heap} {locs : List Loc} {Q : State → Prop} {ls : Array Slot} {D : va_G} {Y : Nat → ClassId} {a : Int → Nat} {b L : Nat} {xs : Nat → Int32} {σ : zS} {i : Int} (C : lwC p s m c D Y a b L xs) (hl : lv_has ls 4 (lwV a b i)) (hi : 0 ≤ i ∧ i + 6 ≤ L) (n0 : ¬ lx xs (i + 1) = 0) (n1 : ¬ lx xs (i + 1) = 1) (n2 : ¬ lx xs (i + 1) = 2) (hJ : jInv σ) (hP : GP D Y a σ H) (hS : va_S (inA a) s.heap H locs) (K : ∀ (σ1 : zS) (H1 : Heap) (locs1 : List Loc), jInv σ1 → GP D Y a σ1 H1 → va_S (inA a) s.heap H1 locs1 → W p l e room_1 s m #[Value.ref b] below meth c H1 locs1 600000 7302250 Q (F0 m 1115 ls [])) : W p l e room_1 s m #[Value.ref b] below meth c H locs 600000 7302250 Q (F0 m 295 ls []) := by
  have hI := C.1.2.2.2.2.2.2.1
  have hN : 600000 ≤ room_1.cells ∧ 7302250 ≤ room_1.slots := ⟨Nat.le_of_ble_eq_true rfl, Nat.le_of_ble_eq_true rfl⟩
  obtain ⟨x1, e1⟩ : ∃ z, z = lx xs (i + 1) := ⟨_, rfl⟩
  have r1 : R3 x1 := by rw [e1]; exact lx_r _ _
  obtain ⟨x2, e2⟩ : ∃ z, z = lx xs (i + 2) := ⟨_, rfl⟩
  have r2 : R3 x2 := by rw [e2]; exact lx_r _ _
  rw [← e1] at n0 n1 n2
  refine z_aload_n C.1 hl 2 rfl dL_law_295 ?_
  refine lw_ld C hS hl e1 hi ⟨by decide, by decide⟩ dL_law_296 dL_law_297 dL_law_298 dL_law_299 dL_law_300 ?_
  refine lw_ld C hS hl e2 hi ⟨by decide, by decide⟩ dL_law_301 dL_law_302 dL_law_303 dL_law_304 dL_law_305 ?_
  refine z_vQi hS C.1 hP (As := [.int (iI x1), .int (iI x2)]) lk_L_28 (c_X7_set hI σ x1 x2 r1 r2 ⟨Int.le_trans (by decide) (pk_hho hJ).1, (pk_hho hJ).2, (pk_hpz hJ).1, (pk_hpz hJ).2, pk_hca hJ⟩) ob_0 rfl rfl rfl hl.1 rfl (Nat.le_of_ble_eq_true rfl) ⟨Nat.le_of_ble_eq_true rfl, Nat.le_of_ble_eq_true rfl⟩ hN dL_law_306 (fun ra σa H locs pa hP hS => ?_)
  have hR := jR_c (jInv_R hJ) (fr_X7_set pa)
  refine z_aload_n C.1 hl 1 rfl dL_law_309 ?_
  refine lw_ld C hS hl e1 hi ⟨by decide, by decide⟩ dL_law_310 dL_law_311 dL_law_312 dL_law_313 dL_law_314 ?_
  refine lw_ld C hS hl e2 hi ⟨by decide, by decide⟩ dL_law_315 dL_law_316 dL_law_317 dL_law_318 dL_law_319 ?_
  refine z_vQi hS C.1 hP (As := [.int (iI x1), .int (iI x2)]) lk_L_31 (c_X8_set_o hI σa x1 x2 r1 r2 n0 n1 n2) ob_100 rfl rfl rfl hl.1 rfl (Nat.le_of_ble_eq_true rfl) ⟨Nat.le_of_ble_eq_true rfl, Nat.le_of_ble_eq_true rfl⟩ hN dL_law_320 (fun rb σb H locs pb hP hS => ?_)
  obtain ⟨hE, hJ2⟩ := st_set_o hJ x1 x2 n0 n1 n2 pa pb
  refine lw_same C hE 1115 dL_law_323 (by decide) ?_
  exact K _ _ _ hJ2 hP hS
theorem lw_c3 {p : Program} {l : Launch} {e : Env} {s : State} {m : MethodId} {below : List Frame} {meth : Method} {c : Code} {H : Heap} {locs : List Loc} {Q : State → Prop} {ls : Array Slot} {D : va_G} {Y : Nat → ClassId} {a : Int → Nat} {b L : Nat} {xs : Nat → Int32} {σ : zS} {i : Int} (C : lwC p s m c D Y a b L xs) (hl : lv_has ls 4 (lwV a b i)) (hi : 0 ≤ i ∧ i + 6 ≤ L) (hJ : jInv σ) (hP : GP D Y a σ H) (hS : va_S (inA a) s.heap H locs) (K : ∀ (σ1 : zS) (H1 : Heap) (locs1 : List Loc), jInv σ1 → GP D Y a σ1 H1 → va_S (inA a) s.heap H1 locs1 → W p l e room_1 s m #[Value.ref b] below meth c H1 locs1 600000 7302250 Q (F0 m 1115 ls [])) : W p l e room_1 s m #[Value.ref b] below meth c H locs 600000 7302250 Q (F0 m 295 ls []) := by
  by_cases n0 : lx xs (i + 1) = 0
  · exact lw_c3_0 C hl hi n0 hJ hP hS K
  by_cases n1 : lx xs (i + 1) = 1
  · exact lw_c3_1 C hl hi n1 hJ hP hS K
  by_cases n2 : lx xs (i + 1) = 2
  · exact lw_c3_2 C hl hi n2 hJ hP hS K
  exact lw_c3_o C hl hi n0 n1 n2 hJ hP hS K
set_option maxRecDepth 20000 in
set_option maxHeartbeats 2000000 in
theorem lw_c4 {p : Program} {l : Launch} {e : Env} {s : State} {m : MethodId} {below : List Frame} {meth : Method} {c : Code} {H : Heap} {locs : List Loc} {Q : State → Prop} {ls : Array Slot} {D : va_G} {Y : Nat → ClassId} {a : Int → Nat} {b L : Nat} {xs : Nat → Int32} {σ : zS} {i : Int} (C : lwC p s m c D Y a b L xs) (hl : lv_has ls 4 (lwV a b i)) (hi : 0 ≤ i ∧ i + 6 ≤ L) (hJ : jInv σ) (hP : GP D Y a σ H) (hS : va_S (inA a) s.heap H locs) (K : ∀ (σ1 : zS) (H1 : Heap) (locs1 : List Loc), jInv σ1 → GP D Y a σ1 H1 → va_S (inA a) s.heap H1 locs1 → W p l e room_1 s m #[Value.ref b] below meth c H1 locs1 600000 7302250 Q (F0 m 1115 ls [])) : W p l e room_1 s m #[Value.ref b] below meth c H locs 600000 7302250 Q (F0 m 328 ls []) := by
  have hI := C.1.2.2.2.2.2.2.1
  have hN : 600000 ≤ room_1.cells ∧ 7302250 ≤ room_1.slots := ⟨Nat.le_of_ble_eq_true rfl, Nat.le_of_ble_eq_true rfl⟩
  obtain ⟨x1, e1⟩ : ∃ z, z = lx xs (i + 1) := ⟨_, rfl⟩
  have r1 : R3 x1 := by rw [e1]; exact lx_r _ _
  refine z_aload_n C.1 hl 2 rfl dL_law_328 ?_
  refine lw_ld C hS hl e1 hi ⟨by decide, by decide⟩ dL_law_329 dL_law_330 dL_law_331 dL_law_332 dL_law_333 ?_
  refine z_vQi hS C.1 hP (As := [.int (iI x1)]) lk_L_32 (c_X7_say hI σ x1 r1 (pk_hp hJ)) ob_0 rfl rfl rfl hl.1 rfl (Nat.le_of_ble_eq_true rfl) ⟨Nat.le_of_ble_eq_true rfl, Nat.le_of_ble_eq_true rfl⟩ hN dL_law_334 (fun ra σa H locs pa hP hS => ?_)
  have hR := jR_c (jInv_R hJ) (fr_X7_say pa)
  refine z_aload_n C.1 hl 1 rfl dL_law_337 ?_
  refine lw_ld C hS hl e1 hi ⟨by decide, by decide⟩ dL_law_338 dL_law_339 dL_law_340 dL_law_341 dL_law_342 ?_
  refine z_vQi hS C.1 hP (As := [.int (iI x1)]) lk_L_35 (c_X8_say hI σa x1 r1 (pj_hpm hR)) ob_100 rfl rfl rfl hl.1 rfl (Nat.le_of_ble_eq_true rfl) ⟨Nat.le_of_ble_eq_true rfl, Nat.le_of_ble_eq_true rfl⟩ hN dL_law_343 (fun rb σb H locs pb hP hS => ?_)
  obtain ⟨hE, hJ2⟩ := st_say hJ x1 pa pb
  refine lw_same C hE 1115 dL_law_346 (by decide) ?_
  exact K _ _ _ hJ2 hP hS
set_option maxRecDepth 20000 in
set_option maxHeartbeats 2000000 in
theorem lw_c5 {p : Program} {l : Launch} {e : Env} {s : State} {m : MethodId} {below : List Frame} {meth : Method} {c : Code} {H : Heap} {locs : List Loc} {Q : State → Prop} {ls : Array Slot} {D : va_G} {Y : Nat → ClassId} {a : Int → Nat} {b L : Nat} {xs : Nat → Int32} {σ : zS} {i : Int} (C : lwC p s m c D Y a b L xs) (hl : lv_has ls 4 (lwV a b i)) (hi : 0 ≤ i ∧ i + 6 ≤ L) (hJ : jInv σ) (hP : GP D Y a σ H) (hS : va_S (inA a) s.heap H locs) (K : ∀ (σ1 : zS) (H1 : Heap) (locs1 : List Loc), jInv σ1 → GP D Y a σ1 H1 → va_S (inA a) s.heap H1 locs1 → W p l e room_1 s m #[Value.ref b] below meth c H1 locs1 600000 7302250 Q (F0 m 1115 ls [])) : W p l e room_1 s m #[Value.ref b] below meth c H locs 600000 7302250 Q (F0 m 351 ls []) := by
  have hI := C.1.2.2.2.2.2.2.1
  have hN : 600000 ≤ room_1.cells ∧ 7302250 ≤ room_1.slots := ⟨Nat.le_of_ble_eq_true rfl, Nat.le_of_ble_eq_true rfl⟩
  refine z_aload_n C.1 hl 2 rfl dL_law_351 ?_
  refine z_vQi hS C.1 hP (As := []) lk_L_36 (c_X7_wipe hI σ (pk_hp hJ)) ob_0 rfl rfl rfl hl.1 rfl (Nat.le_of_ble_eq_true rfl) ⟨Nat.le_of_ble_eq_true rfl, Nat.le_of_ble_eq_true rfl⟩ hN dL_law_352 (fun ra σa H locs pa hP hS => ?_)
  have hR := jR_c (jInv_R hJ) (fr_X7_wipe pa)
  refine z_aload_n C.1 hl 1 rfl dL_law_355 ?_
  refine z_vQi hS C.1 hP (As := []) lk_L_40 (c_X8_wipe hI σa) ob_100 rfl rfl rfl hl.1 rfl (Nat.le_of_ble_eq_true rfl) ⟨Nat.le_of_ble_eq_true rfl, Nat.le_of_ble_eq_true rfl⟩ hN dL_law_356 (fun rb σb H locs pb hP hS => ?_)
  obtain ⟨hE, hJ2⟩ := st_wipe hJ pa pb
  refine lw_same C hE 1115 dL_law_359 (by decide) ?_
  exact K _ _ _ hJ2 hP hS
set_option maxRecDepth 20000 in
set_option maxHeartbeats 2000000 in
theorem lw_c6 {p : Program} {l : Launch} {e : Env} {s : State} {m : MethodId} {below : List Frame} {meth : Method} {c : Code} {H : Heap} {locs : List Loc} {Q : State → Prop} {ls : Array Slot} {D : va_G} {Y : Nat → ClassId} {a : Int → Nat} {b L : Nat} {xs : Nat → Int32} {σ : zS} {i : Int} (C : lwC p s m c D Y a b L xs) (hl : lv_has ls 4 (lwV a b i)) (hi : 0 ≤ i ∧ i + 6 ≤ L) (hJ : jInv σ) (hP : GP D Y a σ H) (hS : va_S (inA a) s.heap H locs) (K : ∀ (σ1 : zS) (H1 : Heap) (locs1 : List Loc), jInv σ1 → GP D Y a σ1 H1 → va_S (inA a) s.heap H1 locs1 → W p l e room_1 s m #[Value.ref b] below meth c H1 locs1 600000 7302250 Q (F0 m 1115 ls [])) : W p l e room_1 s m #[Value.ref b] below meth c H locs 600000 7302250 Q (F0 m 364 ls []) := by
  have hI := C.1.2.2.2.2.2.2.1
  have hN : 600000 ≤ room_1.cells ∧ 7302250 ≤ room_1.slots := ⟨Nat.le_of_ble_eq_true rfl, Nat.le_of_ble_eq_true rfl⟩
  obtain ⟨x1, e1⟩ : ∃ z, z = lx xs (i + 1) := ⟨_, rfl⟩
  have r1 : R3 x1 := by rw [e1]; exact lx_r _ _
  refine z_aload_n C.1 hl 2 rfl dL_law_364 ?_
  refine lw_ld C hS hl e1 hi ⟨by decide, by decide⟩ dL_law_365 dL_law_366 dL_law_367 dL_law_368 dL_law_369 ?_
  refine z_vQi hS C.1 hP (As := [.int (iI x1)]) lk_L_41 (c_X7_fault hI σ x1 r1 (pk_hn hJ) (pk_hp hJ) (pk_hq hJ)) ob_0 rfl rfl rfl hl.1 rfl (Nat.le_of_ble_eq_true rfl) ⟨Nat.le_of_ble_eq_true rfl, Nat.le_of_ble_eq_true rfl⟩ hN dL_law_370 (fun ra σa H locs pa hP hS => ?_)
  have hR := jR_c (jInv_R hJ) (fr_X7_fault pa)
  refine z_aload_n C.1 hl 1 rfl dL_law_373 ?_
  refine lw_ld C hS hl e1 hi ⟨by decide, by decide⟩ dL_law_374 dL_law_375 dL_law_376 dL_law_377 dL_law_378 ?_
  refine z_vQi hS C.1 hP (As := [.int (iI x1)]) lk_L_44 (c_X8_fault hI σa x1 r1 (pj_hnm hR) (pj_hpm hR) (pj_hpq hR)) ob_100 rfl rfl rfl hl.1 rfl (Nat.le_of_ble_eq_true rfl) ⟨Nat.le_of_ble_eq_true rfl, Nat.le_of_ble_eq_true rfl⟩ hN dL_law_379 (fun rb σb H locs pb hP hS => ?_)
  obtain ⟨hE, hJ2⟩ := st_fault hJ x1 pa pb
  refine lw_same C hE 1115 dL_law_382 (by decide) ?_
  exact K _ _ _ hJ2 hP hS
set_option maxRecDepth 20000 in
set_option maxHeartbeats 2000000 in
theorem lw_c7 {p : Program} {l : Launch} {e : Env} {s : State} {m : MethodId} {below : List Frame} {meth : Method} {c : Code} {H : Heap} {locs : List Loc} {Q : State → Prop} {ls : Array Slot} {D : va_G} {Y : Nat → ClassId} {a : Int → Nat} {b L : Nat} {xs : Nat → Int32} {σ : zS} {i : Int} (C : lwC p s m c D Y a b L xs) (hl : lv_has ls 4 (lwV a b i)) (hi : 0 ≤ i ∧ i + 6 ≤ L) (hJ : jInv σ) (hP : GP D Y a σ H) (hS : va_S (inA a) s.heap H locs) (K : ∀ (σ1 : zS) (H1 : Heap) (locs1 : List Loc), jInv σ1 → GP D Y a σ1 H1 → va_S (inA a) s.heap H1 locs1 → W p l e room_1 s m #[Value.ref b] below meth c H1 locs1 600000 7302250 Q (F0 m 1115 ls [])) : W p l e room_1 s m #[Value.ref b] below meth c H locs 600000 7302250 Q (F0 m 387 ls []) := by
  have hI := C.1.2.2.2.2.2.2.1
  have hN : 600000 ≤ room_1.cells ∧ 7302250 ≤ room_1.slots := ⟨Nat.le_of_ble_eq_true rfl, Nat.le_of_ble_eq_true rfl⟩
  refine z_aload_n C.1 hl 2 rfl dL_law_387 ?_
  refine z_vQi hS C.1 hP (As := []) lk_L_45 (c_X7_way hI σ (pk_hp hJ) (pk_hq hJ)) ob_0 rfl rfl rfl hl.1 rfl (Nat.le_of_ble_eq_true rfl) ⟨Nat.le_of_ble_eq_true rfl, Nat.le_of_ble_eq_true rfl⟩ hN dL_law_388 (fun ra σa H locs pa hP hS => ?_)
  have hR := jR_c (jInv_R hJ) (fr_X7_way pa)
  refine z_aload_n C.1 hl 1 rfl dL_law_391 ?_
  refine z_vQi hS C.1 hP (As := []) lk_L_48 (c_X8_way hI σa (pj_hpm hR) (pj_hpq hR)) ob_100 rfl rfl rfl hl.1 rfl (Nat.le_of_ble_eq_true rfl) ⟨Nat.le_of_ble_eq_true rfl, Nat.le_of_ble_eq_true rfl⟩ hN dL_law_392 (fun rb σb H locs pb hP hS => ?_)
  obtain ⟨hE, hJ2⟩ := st_way hJ pa pb
  refine lw_same C hE 1115 dL_law_395 (by decide) ?_
  exact K _ _ _ hJ2 hP hS
set_option maxRecDepth 20000 in
set_option maxHeartbeats 2000000 in
theorem lw_c8 {p : Program} {l : Launch} {e : Env} {s : State} {m : MethodId} {below : List Frame} {meth : Method} {c : Code} {H : Heap} {locs : List Loc} {Q : State → Prop} {ls : Array Slot} {D : va_G} {Y : Nat → ClassId} {a : Int → Nat} {b L : Nat} {xs : Nat → Int32} {σ : zS} {i : Int} (C : lwC p s m c D Y a b L xs) (hl : lv_has ls 4 (lwV a b i)) (hi : 0 ≤ i ∧ i + 6 ≤ L) (hJ : jInv σ) (hP : GP D Y a σ H) (hS : va_S (inA a) s.heap H locs) (K : ∀ (σ1 : zS) (H1 : Heap) (locs1 : List Loc), jInv σ1 → GP D Y a σ1 H1 → va_S (inA a) s.heap H1 locs1 → W p l e room_1 s m #[Value.ref b] below meth c H1 locs1 600000 7302250 Q (F0 m 1115 ls [])) : W p l e room_1 s m #[Value.ref b] below meth c H locs 600000 7302250 Q (F0 m 400 ls []) := by
  have hI := C.1.2.2.2.2.2.2.1
  have hN : 600000 ≤ room_1.cells ∧ 7302250 ≤ room_1.slots := ⟨Nat.le_of_ble_eq_true rfl, Nat.le_of_ble_eq_true rfl⟩
  obtain ⟨x1, e1⟩ : ∃ z, z = lx xs (i + 1) := ⟨_, rfl⟩
  have r1 : R3 x1 := by rw [e1]; exact lx_r _ _
  obtain ⟨x2, e2⟩ : ∃ z, z = lx xs (i + 2) := ⟨_, rfl⟩
  have r2 : R3 x2 := by rw [e2]; exact lx_r _ _
  obtain ⟨x3, e3⟩ : ∃ z, z = lx xs (i + 3) := ⟨_, rfl⟩
  have r3 : R3 x3 := by rw [e3]; exact lx_r _ _
  refine z_aload_n C.1 hl 2 rfl dL_law_400 ?_
  refine lw_ld C hS hl e1 hi ⟨by decide, by decide⟩ dL_law_401 dL_law_402 dL_law_403 dL_law_404 dL_law_405 ?_
  refine lw_ld C hS hl e2 hi ⟨by decide, by decide⟩ dL_law_406 dL_law_407 dL_law_408 dL_law_409 dL_law_410 ?_
  refine lw_ld C hS hl e3 hi ⟨by decide, by decide⟩ dL_law_411 dL_law_412 dL_law_413 dL_law_414 dL_law_415 ?_
  refine z_vSi C.1 hP (As := [.int (iI x1), .int (iI x2), .int (iI x3)]) lk_L_49 (c_X7_tread hI σ x1 x2 x3 r1 r2 r3 (pk_hth hJ) (pk_hrd hJ)) ob_0 rfl rfl rfl hl.1 rfl (Nat.le_of_ble_eq_true rfl) ⟨Nat.le_of_ble_eq_true rfl, Nat.le_of_ble_eq_true rfl⟩ hN dL_law_416 ?_
  have hR := jInv_R hJ
  refine z_aload_n C.1 hl 1 rfl dL_law_419 ?_
  refine lw_ld C hS hl e1 hi ⟨by decide, by decide⟩ dL_law_420 dL_law_421 dL_law_422 dL_law_423 dL_law_424 ?_
  refine lw_ld C hS hl e2 hi ⟨by decide, by decide⟩ dL_law_425 dL_law_426 dL_law_427 dL_law_428 dL_law_429 ?_
  refine lw_ld C hS hl e3 hi ⟨by decide, by decide⟩ dL_law_430 dL_law_431 dL_law_432 dL_law_433 dL_law_434 ?_
  refine z_vSi C.1 hP (As := [.int (iI x1), .int (iI x2), .int (iI x3)]) lk_L_53 (c_X8_tread hI σ x1 x2 x3 r1 r2 r3 (pj_hrb hR) (pj_hrd hR)) ob_100 rfl rfl rfl hl.1 rfl (Nat.le_of_ble_eq_true rfl) ⟨Nat.le_of_ble_eq_true rfl, Nat.le_of_ble_eq_true rfl⟩ hN dL_law_435 ?_
  refine lw_same C (iq_tread hJ x1 x2 x3) 1115 dL_law_438 (by decide) ?_
  exact K _ _ _ hJ hP hS
set_option maxRecDepth 20000 in
set_option maxHeartbeats 2000000 in
theorem lw_c9 {p : Program} {l : Launch} {e : Env} {s : State} {m : MethodId} {below : List Frame} {meth : Method} {c : Code} {H : Heap} {locs : List Loc} {Q : State → Prop} {ls : Array Slot} {D : va_G} {Y : Nat → ClassId} {a : Int → Nat} {b L : Nat} {xs : Nat → Int32} {σ : zS} {i : Int} (C : lwC p s m c D Y a b L xs) (hl : lv_has ls 4 (lwV a b i)) (hi : 0 ≤ i ∧ i + 6 ≤ L) (hJ : jInv σ) (hP : GP D Y a σ H) (hS : va_S (inA a) s.heap H locs) (K : ∀ (σ1 : zS) (H1 : Heap) (locs1 : List Loc), jInv σ1 → GP D Y a σ1 H1 → va_S (inA a) s.heap H1 locs1 → W p l e room_1 s m #[Value.ref b] below meth c H1 locs1 600000 7302250 Q (F0 m 1115 ls [])) : W p l e room_1 s m #[Value.ref b] below meth c H locs 600000 7302250 Q (F0 m 443 ls []) := by
  have hI := C.1.2.2.2.2.2.2.1
  have hN : 600000 ≤ room_1.cells ∧ 7302250 ≤ room_1.slots := ⟨Nat.le_of_ble_eq_true rfl, Nat.le_of_ble_eq_true rfl⟩
  obtain ⟨x1, e1⟩ : ∃ z, z = lx xs (i + 1) := ⟨_, rfl⟩
  have r1 : R3 x1 := by rw [e1]; exact lx_r _ _
  refine z_aload_n C.1 hl 2 rfl dL_law_443 ?_
  refine lw_ld C hS hl e1 hi ⟨by decide, by decide⟩ dL_law_444 dL_law_445 dL_law_446 dL_law_447 dL_law_448 ?_
  refine z_vQi hS C.1 hP (As := [.int (iI x1)]) lk_L_54 (c_X7_judge hI σ x1 r1 (pk_hth hJ) (pk_hn hJ) (pk_hg hJ) (pk_hse hJ) (pk_hrd hJ) (pk_hho hJ) (pk_hpz hJ) (pk_hp hJ) (pk_hq hJ)) ob_0 rfl rfl rfl hl.1 rfl (Nat.le_of_ble_eq_true rfl) ⟨Nat.le_of_ble_eq_true rfl, Nat.le_of_ble_eq_true rfl⟩ hN dL_law_449 (fun ra σa H locs pa hP hS => ?_)
  have hR := jR_c (jInv_R hJ) (fr_X7_judge pa)
  refine z_aload_n C.1 hl 1 rfl dL_law_452 ?_
  refine lw_ld C hS hl e1 hi ⟨by decide, by decide⟩ dL_law_453 dL_law_454 dL_law_455 dL_law_456 dL_law_457 ?_
  refine z_vQi hS C.1 hP (As := [.int (iI x1)]) lk_L_57 (c_X8_judge hI σa x1 r1 (pj_hrb hR) (pj_hse hR) (pj_hnm hR) (pj_hpm hR) (pj_hpq hR) (pj_hrd hR) (pj_hho hR) (pj_hpz hR) (pj_hch hR)) ob_100 rfl rfl rfl hl.1 rfl (Nat.le_of_ble_eq_true rfl) ⟨Nat.le_of_ble_eq_true rfl, Nat.le_of_ble_eq_true rfl⟩ hN dL_law_458 (fun rb σb H locs pb hP hS => ?_)
  obtain ⟨hE, hJ2⟩ := st_judge hJ x1 pa pb
  refine lw_same C hE 1115 dL_law_461 (by decide) ?_
  exact K _ _ _ hJ2 hP hS
set_option maxRecDepth 20000 in
set_option maxHeartbeats 2000000 in
theorem lw_c10 {p : Program} {l : Launch} {e : Env} {s : State} {m : MethodId} {below : List Frame} {meth : Method} {c : Code} {H : Heap} {locs : List Loc} {Q : State → Prop} {ls : Array Slot} {D : va_G} {Y : Nat → ClassId} {a : Int → Nat} {b L : Nat} {xs : Nat → Int32} {σ : zS} {i : Int} (C : lwC p s m c D Y a b L xs) (hl : lv_has ls 4 (lwV a b i)) (hi : 0 ≤ i ∧ i + 6 ≤ L) (hJ : jInv σ) (hP : GP D Y a σ H) (hS : va_S (inA a) s.heap H locs) (K : ∀ (σ1 : zS) (H1 : Heap) (locs1 : List Loc), jInv σ1 → GP D Y a σ1 H1 → va_S (inA a) s.heap H1 locs1 → W p l e room_1 s m #[Value.ref b] below meth c H1 locs1 600000 7302250 Q (F0 m 1115 ls [])) : W p l e room_1 s m #[Value.ref b] below meth c H locs 600000 7302250 Q (F0 m 466 ls []) := by
  have hI := C.1.2.2.2.2.2.2.1
  have hN : 600000 ≤ room_1.cells ∧ 7302250 ≤ room_1.slots := ⟨Nat.le_of_ble_eq_true rfl, Nat.le_of_ble_eq_true rfl⟩
  obtain ⟨x1, e1⟩ : ∃ z, z = lx xs (i + 1) := ⟨_, rfl⟩
  have r1 : R3 x1 := by rw [e1]; exact lx_r _ _
  obtain ⟨x2, e2⟩ : ∃ z, z = lx xs (i + 2) := ⟨_, rfl⟩
  have r2 : R3 x2 := by rw [e2]; exact lx_r _ _
  refine z_aload_n C.1 hl 2 rfl dL_law_466 ?_
  refine lw_ld C hS hl e1 hi ⟨by decide, by decide⟩ dL_law_467 dL_law_468 dL_law_469 dL_law_470 dL_law_471 ?_
  refine lw_ld C hS hl e2 hi ⟨by decide, by decide⟩ dL_law_472 dL_law_473 dL_law_474 dL_law_475 dL_law_476 ?_
  refine z_vQi hS C.1 hP (As := [.int (iI x1), .int (iI x2)]) lk_L_58 (c_X7_ridden hI σ x1 x2 r1 r2 (pk_hth hJ) (pk_hn hJ) (pk_hg hJ) (pk_hse hJ) (pk_hrd hJ) (pk_hho hJ) (pk_hpz hJ) (pk_hp hJ) (pk_hq hJ)) ob_0 rfl rfl rfl hl.1 rfl (Nat.le_of_ble_eq_true rfl) ⟨Nat.le_of_ble_eq_true rfl, Nat.le_of_ble_eq_true rfl⟩ hN dL_law_477 (fun ra σa H locs pa hP hS => ?_)
  have hR := jR_c (jInv_R hJ) (fr_X7_ridden pa)
  refine z_aload_n C.1 hl 1 rfl dL_law_480 ?_
  refine lw_ld C hS hl e1 hi ⟨by decide, by decide⟩ dL_law_481 dL_law_482 dL_law_483 dL_law_484 dL_law_485 ?_
  refine lw_ld C hS hl e2 hi ⟨by decide, by decide⟩ dL_law_486 dL_law_487 dL_law_488 dL_law_489 dL_law_490 ?_
  refine z_vQi hS C.1 hP (As := [.int (iI x1), .int (iI x2)]) lk_L_61 (c_X8_ridden hI σa x1 x2 r1 r2 (pj_hrb hR) (pj_hse hR) (pj_hnm hR) (pj_hpm hR) (pj_hpq hR) (pj_hrd hR) (pj_hho hR) (pj_hpz hR) (pj_hch hR)) ob_100 rfl rfl rfl hl.1 rfl (Nat.le_of_ble_eq_true rfl) ⟨Nat.le_of_ble_eq_true rfl, Nat.le_of_ble_eq_true rfl⟩ hN dL_law_491 (fun rb σb H locs pb hP hS => ?_)
  obtain ⟨hE, hJ2⟩ := st_ridden hJ x1 x2 pa pb
  refine lw_same C hE 1115 dL_law_494 (by decide) ?_
  exact K _ _ _ hJ2 hP hS
set_option maxRecDepth 20000 in
set_option maxHeartbeats 2000000 in
theorem lw_c11 {p : Program} {l : Launch} {e : Env} {s : State} {m : MethodId} {below : List Frame} {meth : Method} {c : Code} {H : Heap} {locs : List Loc} {Q : State → Prop} {ls : Array Slot} {D : va_G} {Y : Nat → ClassId} {a : Int → Nat} {b L : Nat} {xs : Nat → Int32} {σ : zS} {i : Int} (C : lwC p s m c D Y a b L xs) (hl : lv_has ls 4 (lwV a b i)) (hi : 0 ≤ i ∧ i + 6 ≤ L) (hJ : jInv σ) (hP : GP D Y a σ H) (hS : va_S (inA a) s.heap H locs) (K : ∀ (σ1 : zS) (H1 : Heap) (locs1 : List Loc), jInv σ1 → GP D Y a σ1 H1 → va_S (inA a) s.heap H1 locs1 → W p l e room_1 s m #[Value.ref b] below meth c H1 locs1 600000 7302250 Q (F0 m 1115 ls [])) : W p l e room_1 s m #[Value.ref b] below meth c H locs 600000 7302250 Q (F0 m 499 ls []) := by
  have hI := C.1.2.2.2.2.2.2.1
  have hN : 600000 ≤ room_1.cells ∧ 7302250 ≤ room_1.slots := ⟨Nat.le_of_ble_eq_true rfl, Nat.le_of_ble_eq_true rfl⟩
  obtain ⟨x1, e1⟩ : ∃ z, z = lx xs (i + 1) := ⟨_, rfl⟩
  have r1 : R3 x1 := by rw [e1]; exact lx_r _ _
  refine z_aload_n C.1 hl 2 rfl dL_law_499 ?_
  refine lw_ld C hS hl e1 hi ⟨by decide, by decide⟩ dL_law_500 dL_law_501 dL_law_502 dL_law_503 dL_law_504 ?_
  refine z_vQl hS C.1 hP (As := [.int (iI x1)]) lk_L_62 (c_X7_share hI σ x1 r1 (pk_hth hJ) (pk_hn hJ) (pk_hg hJ) (pk_hse hJ) (pk_hrd hJ) (pk_hho hJ) (pk_hpz hJ) (pk_hp hJ) (pk_hq hJ)) ob_0 rfl rfl rfl hl.1 rfl (Nat.le_of_ble_eq_true rfl) ⟨Nat.le_of_ble_eq_true rfl, Nat.le_of_ble_eq_true rfl⟩ hN dL_law_505 (fun ra σa H locs pa hP hS => ?_)
  have hR := jR_c (jInv_R hJ) (fr_X7_share pa)
  refine z_aload_n C.1 hl 1 rfl dL_law_508 ?_
  refine lw_ld C hS hl e1 hi ⟨by decide, by decide⟩ dL_law_509 dL_law_510 dL_law_511 dL_law_512 dL_law_513 ?_
  refine z_vQl hS C.1 hP (As := [.int (iI x1)]) lk_L_66 (c_X8_share hI σa x1 r1 (pj_hrb hR) (pj_hse hR) (pj_hnm hR) (pj_hpm hR) (pj_hpq hR) (pj_hrd hR) (pj_hho hR) (pj_hpz hR) (pj_hch hR)) ob_100 rfl rfl rfl hl.1 rfl (Nat.le_of_ble_eq_true rfl) ⟨Nat.le_of_ble_eq_true rfl, Nat.le_of_ble_eq_true rfl⟩ hN dL_law_514 (fun rb σb H locs pb hP hS => ?_)
  obtain ⟨hE, hJ2⟩ := st_share hJ x1 pa pb
  refine lw_sameL C hE 1115 dL_law_517 dL_law_518 (by decide) ?_
  exact K _ _ _ hJ2 hP hS
set_option maxRecDepth 20000 in
set_option maxHeartbeats 2000000 in
theorem lw_c12 {p : Program} {l : Launch} {e : Env} {s : State} {m : MethodId} {below : List Frame} {meth : Method} {c : Code} {H : Heap} {locs : List Loc} {Q : State → Prop} {ls : Array Slot} {D : va_G} {Y : Nat → ClassId} {a : Int → Nat} {b L : Nat} {xs : Nat → Int32} {σ : zS} {i : Int} (C : lwC p s m c D Y a b L xs) (hl : lv_has ls 4 (lwV a b i)) (hi : 0 ≤ i ∧ i + 6 ≤ L) (hJ : jInv σ) (hP : GP D Y a σ H) (hS : va_S (inA a) s.heap H locs) (K : ∀ (σ1 : zS) (H1 : Heap) (locs1 : List Loc), jInv σ1 → GP D Y a σ1 H1 → va_S (inA a) s.heap H1 locs1 → W p l e room_1 s m #[Value.ref b] below meth c H1 locs1 600000 7302250 Q (F0 m 1115 ls [])) : W p l e room_1 s m #[Value.ref b] below meth c H locs 600000 7302250 Q (F0 m 523 ls []) := by
  have hI := C.1.2.2.2.2.2.2.1
  have hN : 600000 ≤ room_1.cells ∧ 7302250 ≤ room_1.slots := ⟨Nat.le_of_ble_eq_true rfl, Nat.le_of_ble_eq_true rfl⟩
  refine z_aload_n C.1 hl 2 rfl dL_law_523 ?_
  refine z_vQi hS C.1 hP (As := []) lk_L_67 (c_X7_unseen hI σ (pk_hth hJ) (pk_hn hJ) (pk_hg hJ) (pk_hse hJ) (pk_hrd hJ) (pk_hho hJ) (pk_hpz hJ) (pk_hp hJ) (pk_hq hJ)) ob_0 rfl rfl rfl hl.1 rfl (Nat.le_of_ble_eq_true rfl) ⟨Nat.le_of_ble_eq_true rfl, Nat.le_of_ble_eq_true rfl⟩ hN dL_law_524 (fun ra σa H locs pa hP hS => ?_)
  have hR := jR_c (jInv_R hJ) (fr_X7_unseen pa)
  refine z_aload_n C.1 hl 1 rfl dL_law_527 ?_
  refine z_vQi hS C.1 hP (As := []) lk_L_70 (c_X8_unseen hI σa (pj_hrb hR) (pj_hse hR) (pj_hnm hR) (pj_hpm hR) (pj_hpq hR) (pj_hrd hR) (pj_hho hR) (pj_hpz hR) (pj_hch hR)) ob_100 rfl rfl rfl hl.1 rfl (Nat.le_of_ble_eq_true rfl) ⟨Nat.le_of_ble_eq_true rfl, Nat.le_of_ble_eq_true rfl⟩ hN dL_law_528 (fun rb σb H locs pb hP hS => ?_)
  obtain ⟨hE, hJ2⟩ := st_unseen hJ pa pb
  refine lw_same C hE 1115 dL_law_531 (by decide) ?_
  exact K _ _ _ hJ2 hP hS
set_option maxRecDepth 20000 in
set_option maxHeartbeats 2000000 in
theorem lw_c13 {p : Program} {l : Launch} {e : Env} {s : State} {m : MethodId} {below : List Frame} {meth : Method} {c : Code} {H : Heap} {locs : List Loc} {Q : State → Prop} {ls : Array Slot} {D : va_G} {Y : Nat → ClassId} {a : Int → Nat} {b L : Nat} {xs : Nat → Int32} {σ : zS} {i : Int} (C : lwC p s m c D Y a b L xs) (hl : lv_has ls 4 (lwV a b i)) (hi : 0 ≤ i ∧ i + 6 ≤ L) (hJ : jInv σ) (hP : GP D Y a σ H) (hS : va_S (inA a) s.heap H locs) (K : ∀ (σ1 : zS) (H1 : Heap) (locs1 : List Loc), jInv σ1 → GP D Y a σ1 H1 → va_S (inA a) s.heap H1 locs1 → W p l e room_1 s m #[Value.ref b] below meth c H1 locs1 600000 7302250 Q (F0 m 1115 ls [])) : W p l e room_1 s m #[Value.ref b] below meth c H locs 600000 7302250 Q (F0 m 536 ls []) := by
  have hI := C.1.2.2.2.2.2.2.1
  have hN : 600000 ≤ room_1.cells ∧ 7302250 ≤ room_1.slots := ⟨Nat.le_of_ble_eq_true rfl, Nat.le_of_ble_eq_true rfl⟩
  obtain ⟨x1, e1⟩ : ∃ z, z = lx xs (i + 1) := ⟨_, rfl⟩
  have r1 : R3 x1 := by rw [e1]; exact lx_r _ _
  refine z_aload_n C.1 hl 2 rfl dL_law_536 ?_
  refine lw_ld C hS hl e1 hi ⟨by decide, by decide⟩ dL_law_537 dL_law_538 dL_law_539 dL_law_540 dL_law_541 ?_
  refine z_vQi hS C.1 hP (As := [.int (iI x1)]) lk_L_71 (c_X7_soonest hI σ x1 r1 (pk_hth hJ) (pk_hse hJ) (pk_hrd hJ) (pk_hn hJ) (pk_hg hJ) (pk_hho hJ) (pk_hpz hJ) (pk_hbf hJ)) ob_0 rfl rfl rfl hl.1 rfl (Nat.le_of_ble_eq_true rfl) ⟨Nat.le_of_ble_eq_true rfl, Nat.le_of_ble_eq_true rfl⟩ hN dL_law_542 (fun ra σa H locs pa hP hS => ?_)
  have hR := jR_c (jInv_R hJ) (fr_X7_soonest pa)
  refine z_aload_n C.1 hl 1 rfl dL_law_545 ?_
  refine lw_ld C hS hl e1 hi ⟨by decide, by decide⟩ dL_law_546 dL_law_547 dL_law_548 dL_law_549 dL_law_550 ?_
  refine z_vQi hS C.1 hP (As := [.int (iI x1)]) lk_L_74 (c_X8_soonest hI σa x1 r1 (pj_hrb hR) (pj_hse hR) (pj_hnm hR) (pj_hrd hR) (pj_hho hR) (pj_hpz hR) (pj_hch hR) (pj_h115 hR)) ob_100 rfl rfl rfl hl.1 rfl (Nat.le_of_ble_eq_true rfl) ⟨Nat.le_of_ble_eq_true rfl, Nat.le_of_ble_eq_true rfl⟩ hN dL_law_551 (fun rb σb H locs pb hP hS => ?_)
  obtain ⟨hE, hJ2⟩ := st_soonest hJ x1 pa pb
  refine lw_same C hE 1115 dL_law_554 (by decide) ?_
  exact K _ _ _ hJ2 hP hS
set_option maxRecDepth 20000 in
set_option maxHeartbeats 2000000 in
theorem lw_c14 {p : Program} {l : Launch} {e : Env} {s : State} {m : MethodId} {below : List Frame} {meth : Method} {c : Code} {H : Heap} {locs : List Loc} {Q : State → Prop} {ls : Array Slot} {D : va_G} {Y : Nat → ClassId} {a : Int → Nat} {b L : Nat} {xs : Nat → Int32} {σ : zS} {i : Int} (C : lwC p s m c D Y a b L xs) (hl : lv_has ls 4 (lwV a b i)) (hi : 0 ≤ i ∧ i + 6 ≤ L) (hJ : jInv σ) (hP : GP D Y a σ H) (hS : va_S (inA a) s.heap H locs) (K : ∀ (σ1 : zS) (H1 : Heap) (locs1 : List Loc), jInv σ1 → GP D Y a σ1 H1 → va_S (inA a) s.heap H1 locs1 → W p l e room_1 s m #[Value.ref b] below meth c H1 locs1 600000 7302250 Q (F0 m 1115 ls [])) : W p l e room_1 s m #[Value.ref b] below meth c H locs 600000 7302250 Q (F0 m 559 ls []) := by
  have hI := C.1.2.2.2.2.2.2.1
  have hN : 600000 ≤ room_1.cells ∧ 7302250 ≤ room_1.slots := ⟨Nat.le_of_ble_eq_true rfl, Nat.le_of_ble_eq_true rfl⟩
  obtain ⟨x1, e1⟩ : ∃ z, z = lx xs (i + 1) := ⟨_, rfl⟩
  have r1 : R3 x1 := by rw [e1]; exact lx_r _ _
  obtain ⟨x2, e2⟩ : ∃ z, z = lx xs (i + 2) := ⟨_, rfl⟩
  have r2 : R3 x2 := by rw [e2]; exact lx_r _ _
  obtain ⟨x3, e3⟩ : ∃ z, z = lx xs (i + 3) := ⟨_, rfl⟩
  have r3 : R3 x3 := by rw [e3]; exact lx_r _ _
  refine z_aload_n C.1 hl 2 rfl dL_law_559 ?_
  refine lw_ld C hS hl e1 hi ⟨by decide, by decide⟩ dL_law_560 dL_law_561 dL_law_562 dL_law_563 dL_law_564 ?_
  refine lw_ld C hS hl e2 hi ⟨by decide, by decide⟩ dL_law_565 dL_law_566 dL_law_567 dL_law_568 dL_law_569 ?_
  refine lw_ld C hS hl e3 hi ⟨by decide, by decide⟩ dL_law_570 dL_law_571 dL_law_572 dL_law_573 dL_law_574 ?_
  refine z_vSi C.1 hP (As := [.int (iI x1), .int (iI x2), .int (iI x3)]) lk_L_75 (c_X7_oneBeat hI σ x1 x2 x3 r1 r2 r3 (pk_hth hJ) (pk_hse hJ) (pk_hrd hJ) (pk_hn hJ) (pk_hg hJ)) ob_0 rfl rfl rfl hl.1 rfl (Nat.le_of_ble_eq_true rfl) ⟨Nat.le_of_ble_eq_true rfl, Nat.le_of_ble_eq_true rfl⟩ hN dL_law_575 ?_
  have hR := jInv_R hJ
  refine z_aload_n C.1 hl 1 rfl dL_law_578 ?_
  refine lw_ld C hS hl e1 hi ⟨by decide, by decide⟩ dL_law_579 dL_law_580 dL_law_581 dL_law_582 dL_law_583 ?_
  refine lw_ld C hS hl e2 hi ⟨by decide, by decide⟩ dL_law_584 dL_law_585 dL_law_586 dL_law_587 dL_law_588 ?_
  refine lw_ld C hS hl e3 hi ⟨by decide, by decide⟩ dL_law_589 dL_law_590 dL_law_591 dL_law_592 dL_law_593 ?_
  refine z_vSi C.1 hP (As := [.int (iI x1), .int (iI x2), .int (iI x3)]) lk_L_78 (c_X8_oneBeat hI σ x1 x2 x3 r1 r2 r3 (pj_hrb hR) (pj_hse hR) (pj_hnm hR) (pj_hrd hR) (pj_hch hR) (pj_htl hR)) ob_100 rfl rfl rfl hl.1 rfl (Nat.le_of_ble_eq_true rfl) ⟨Nat.le_of_ble_eq_true rfl, Nat.le_of_ble_eq_true rfl⟩ hN dL_law_594 ?_
  refine lw_same C (iq_oneBeat hJ x1 x2 x3) 1115 dL_law_597 (by decide) ?_
  exact K _ _ _ hJ hP hS
set_option maxRecDepth 20000 in
set_option maxHeartbeats 2000000 in
theorem lw_c15 {p : Program} {l : Launch} {e : Env} {s : State} {m : MethodId} {below : List Frame} {meth : Method} {c : Code} {H : Heap} {locs : List Loc} {Q : State → Prop} {ls : Array Slot} {D : va_G} {Y : Nat → ClassId} {a : Int → Nat} {b L : Nat} {xs : Nat → Int32} {σ : zS} {i : Int} (C : lwC p s m c D Y a b L xs) (hl : lv_has ls 4 (lwV a b i)) (hi : 0 ≤ i ∧ i + 6 ≤ L) (hJ : jInv σ) (hP : GP D Y a σ H) (hS : va_S (inA a) s.heap H locs) (K : ∀ (σ1 : zS) (H1 : Heap) (locs1 : List Loc), jInv σ1 → GP D Y a σ1 H1 → va_S (inA a) s.heap H1 locs1 → W p l e room_1 s m #[Value.ref b] below meth c H1 locs1 600000 7302250 Q (F0 m 1115 ls [])) : W p l e room_1 s m #[Value.ref b] below meth c H locs 600000 7302250 Q (F0 m 602 ls []) := by
  have hI := C.1.2.2.2.2.2.2.1
  have hN : 600000 ≤ room_1.cells ∧ 7302250 ≤ room_1.slots := ⟨Nat.le_of_ble_eq_true rfl, Nat.le_of_ble_eq_true rfl⟩
  obtain ⟨x1, e1⟩ : ∃ z, z = lx xs (i + 1) := ⟨_, rfl⟩
  have r1 : R3 x1 := by rw [e1]; exact lx_r _ _
  obtain ⟨x2, e2⟩ : ∃ z, z = lx xs (i + 2) := ⟨_, rfl⟩
  have r2 : R3 x2 := by rw [e2]; exact lx_r _ _
  refine z_aload_n C.1 hl 2 rfl dL_law_602 ?_
  refine lw_ld C hS hl e1 hi ⟨by decide, by decide⟩ dL_law_603 dL_law_604 dL_law_605 dL_law_606 dL_law_607 ?_
  refine lw_ld C hS hl e2 hi ⟨by decide, by decide⟩ dL_law_608 dL_law_609 dL_law_610 dL_law_611 dL_law_612 ?_
  refine z_vSi C.1 hP (As := [.int (iI x1), .int (iI x2)]) lk_L_79 (c_X7_single hI σ x1 x2 r1 r2 (pk_hth hJ) (pk_hrd hJ) (pk_hn hJ) (pk_hg hJ)) ob_0 rfl rfl rfl hl.1 rfl (Nat.le_of_ble_eq_true rfl) ⟨Nat.le_of_ble_eq_true rfl, Nat.le_of_ble_eq_true rfl⟩ hN dL_law_613 ?_
  have hR := jInv_R hJ
  refine z_aload_n C.1 hl 1 rfl dL_law_616 ?_
  refine lw_ld C hS hl e1 hi ⟨by decide, by decide⟩ dL_law_617 dL_law_618 dL_law_619 dL_law_620 dL_law_621 ?_
  refine lw_ld C hS hl e2 hi ⟨by decide, by decide⟩ dL_law_622 dL_law_623 dL_law_624 dL_law_625 dL_law_626 ?_
  refine z_vSi C.1 hP (As := [.int (iI x1), .int (iI x2)]) lk_L_82 (c_X8_single hI σ x1 x2 r1 r2 (pj_hrb hR) (pj_hnm hR) (pj_hrd hR) (pj_hch hR) (pj_htl hR)) ob_100 rfl rfl rfl hl.1 rfl (Nat.le_of_ble_eq_true rfl) ⟨Nat.le_of_ble_eq_true rfl, Nat.le_of_ble_eq_true rfl⟩ hN dL_law_627 ?_
  refine lw_same C (iq_single hJ x1 x2) 1115 dL_law_630 (by decide) ?_
  exact K _ _ _ hJ hP hS
set_option maxRecDepth 20000 in
set_option maxHeartbeats 2000000 in
theorem lw_c16 {p : Program} {l : Launch} {e : Env} {s : State} {m : MethodId} {below : List Frame} {meth : Method} {c : Code} {H : Heap} {locs : List Loc} {Q : State → Prop} {ls : Array Slot} {D : va_G} {Y : Nat → ClassId} {a : Int → Nat} {b L : Nat} {xs : Nat → Int32} {σ : zS} {i : Int} (C : lwC p s m c D Y a b L xs) (hl : lv_has ls 4 (lwV a b i)) (hi : 0 ≤ i ∧ i + 6 ≤ L) (hJ : jInv σ) (hP : GP D Y a σ H) (hS : va_S (inA a) s.heap H locs) (K : ∀ (σ1 : zS) (H1 : Heap) (locs1 : List Loc), jInv σ1 → GP D Y a σ1 H1 → va_S (inA a) s.heap H1 locs1 → W p l e room_1 s m #[Value.ref b] below meth c H1 locs1 600000 7302250 Q (F0 m 1115 ls [])) : W p l e room_1 s m #[Value.ref b] below meth c H locs 600000 7302250 Q (F0 m 635 ls []) := by
  have hI := C.1.2.2.2.2.2.2.1
  have hN : 600000 ≤ room_1.cells ∧ 7302250 ≤ room_1.slots := ⟨Nat.le_of_ble_eq_true rfl, Nat.le_of_ble_eq_true rfl⟩
  obtain ⟨x1, e1⟩ : ∃ z, z = lx xs (i + 1) := ⟨_, rfl⟩
  have r1 : R3 x1 := by rw [e1]; exact lx_r _ _
  refine z_aload_n C.1 hl 2 rfl dL_law_635 ?_
  refine lw_ld C hS hl e1 hi ⟨by decide, by decide⟩ dL_law_636 dL_law_637 dL_law_638 dL_law_639 dL_law_640 ?_
  refine z_vSi C.1 hP (As := [.int (iI x1)]) lk_L_83 (c_X7_sorts hI σ x1 r1 (pk_hth hJ) (pk_hse hJ) (pk_hrd hJ)) ob_0 rfl rfl rfl hl.1 rfl (Nat.le_of_ble_eq_true rfl) ⟨Nat.le_of_ble_eq_true rfl, Nat.le_of_ble_eq_true rfl⟩ hN dL_law_641 ?_
  have hR := jInv_R hJ
  refine z_aload_n C.1 hl 1 rfl dL_law_644 ?_
  refine lw_ld C hS hl e1 hi ⟨by decide, by decide⟩ dL_law_645 dL_law_646 dL_law_647 dL_law_648 dL_law_649 ?_
  refine z_vQi hS C.1 hP (As := [.int (iI x1)]) lk_L_86 (c_X8_sorts hI σ x1 r1 (pj_hrb hR) (pj_hse hR) (pj_hrd hR) (pj_htl hR)) ob_100 rfl rfl rfl hl.1 rfl (Nat.le_of_ble_eq_true rfl) ⟨Nat.le_of_ble_eq_true rfl, Nat.le_of_ble_eq_true rfl⟩ hN dL_law_650 (fun rb σb H locs pb hP hS => ?_)
  obtain ⟨hE, hJ2⟩ := st_sorts hJ x1 pb
  refine lw_same C hE 1115 dL_law_653 (by decide) ?_
  exact K _ _ _ hJ2 hP hS
set_option maxRecDepth 20000 in
set_option maxHeartbeats 2000000 in
theorem lw_c17 {p : Program} {l : Launch} {e : Env} {s : State} {m : MethodId} {below : List Frame} {meth : Method} {c : Code} {H : Heap} {locs : List Loc} {Q : State → Prop} {ls : Array Slot} {D : va_G} {Y : Nat → ClassId} {a : Int → Nat} {b L : Nat} {xs : Nat → Int32} {σ : zS} {i : Int} (C : lwC p s m c D Y a b L xs) (hl : lv_has ls 4 (lwV a b i)) (hi : 0 ≤ i ∧ i + 6 ≤ L) (hJ : jInv σ) (hP : GP D Y a σ H) (hS : va_S (inA a) s.heap H locs) (K : ∀ (σ1 : zS) (H1 : Heap) (locs1 : List Loc), jInv σ1 → GP D Y a σ1 H1 → va_S (inA a) s.heap H1 locs1 → W p l e room_1 s m #[Value.ref b] below meth c H1 locs1 600000 7302250 Q (F0 m 1115 ls [])) : W p l e room_1 s m #[Value.ref b] below meth c H locs 600000 7302250 Q (F0 m 658 ls []) := by
  have hI := C.1.2.2.2.2.2.2.1
  have hN : 600000 ≤ room_1.cells ∧ 7302250 ≤ room_1.slots := ⟨Nat.le_of_ble_eq_true rfl, Nat.le_of_ble_eq_true rfl⟩
  obtain ⟨x1, e1⟩ : ∃ z, z = lx xs (i + 1) := ⟨_, rfl⟩
  have r1 : R3 x1 := by rw [e1]; exact lx_r _ _
  obtain ⟨x2, e2⟩ : ∃ z, z = lx xs (i + 2) := ⟨_, rfl⟩
  have r2 : R3 x2 := by rw [e2]; exact lx_r _ _
  obtain ⟨x3, e3⟩ : ∃ z, z = lx xs (i + 3) := ⟨_, rfl⟩
  have r3 : R3 x3 := by rw [e3]; exact lx_r _ _
  refine z_aload_n C.1 hl 2 rfl dL_law_658 ?_
  refine lw_ld C hS hl e1 hi ⟨by decide, by decide⟩ dL_law_659 dL_law_660 dL_law_661 dL_law_662 dL_law_663 ?_
  refine lw_ld C hS hl e2 hi ⟨by decide, by decide⟩ dL_law_664 dL_law_665 dL_law_666 dL_law_667 dL_law_668 ?_
  refine lw_ld C hS hl e3 hi ⟨by decide, by decide⟩ dL_law_669 dL_law_670 dL_law_671 dL_law_672 dL_law_673 ?_
  refine z_vSi C.1 hP (As := [.int (iI x1), .int (iI x2), .int (iI x3)]) lk_L_87 (c_X7_uneven hI σ x1 x2 x3 r1 r2 r3 (pk_hth hJ) (pk_hse hJ) (pk_hrd hJ)) ob_0 rfl rfl rfl hl.1 rfl (Nat.le_of_ble_eq_true rfl) ⟨Nat.le_of_ble_eq_true rfl, Nat.le_of_ble_eq_true rfl⟩ hN dL_law_674 ?_
  have hR := jInv_R hJ
  refine z_aload_n C.1 hl 1 rfl dL_law_677 ?_
  refine lw_ld C hS hl e1 hi ⟨by decide, by decide⟩ dL_law_678 dL_law_679 dL_law_680 dL_law_681 dL_law_682 ?_
  refine lw_ld C hS hl e2 hi ⟨by decide, by decide⟩ dL_law_683 dL_law_684 dL_law_685 dL_law_686 dL_law_687 ?_
  refine lw_ld C hS hl e3 hi ⟨by decide, by decide⟩ dL_law_688 dL_law_689 dL_law_690 dL_law_691 dL_law_692 ?_
  refine z_vSi C.1 hP (As := [.int (iI x1), .int (iI x2), .int (iI x3)]) lk_L_90 (c_X8_uneven hI σ x1 x2 x3 r1 r2 r3 (pj_hrb hR) (pj_hse hR) (pj_hrd hR)) ob_100 rfl rfl rfl hl.1 rfl (Nat.le_of_ble_eq_true rfl) ⟨Nat.le_of_ble_eq_true rfl, Nat.le_of_ble_eq_true rfl⟩ hN dL_law_693 ?_
  refine lw_same C (iq_uneven hJ x1 x2 x3) 1115 dL_law_696 (by decide) ?_
  exact K _ _ _ hJ hP hS
set_option maxRecDepth 20000 in
set_option maxHeartbeats 2000000 in
theorem lw_c18 {p : Program} {l : Launch} {e : Env} {s : State} {m : MethodId} {below : List Frame} {meth : Method} {c : Code} {H : Heap} {locs : List Loc} {Q : State → Prop} {ls : Array Slot} {D : va_G} {Y : Nat → ClassId} {a : Int → Nat} {b L : Nat} {xs : Nat → Int32} {σ : zS} {i : Int} (C : lwC p s m c D Y a b L xs) (hl : lv_has ls 4 (lwV a b i)) (hi : 0 ≤ i ∧ i + 6 ≤ L) (hJ : jInv σ) (hP : GP D Y a σ H) (hS : va_S (inA a) s.heap H locs) (K : ∀ (σ1 : zS) (H1 : Heap) (locs1 : List Loc), jInv σ1 → GP D Y a σ1 H1 → va_S (inA a) s.heap H1 locs1 → W p l e room_1 s m #[Value.ref b] below meth c H1 locs1 600000 7302250 Q (F0 m 1115 ls [])) : W p l e room_1 s m #[Value.ref b] below meth c H locs 600000 7302250 Q (F0 m 701 ls []) := by
  have hI := C.1.2.2.2.2.2.2.1
  have hN : 600000 ≤ room_1.cells ∧ 7302250 ≤ room_1.slots := ⟨Nat.le_of_ble_eq_true rfl, Nat.le_of_ble_eq_true rfl⟩
  obtain ⟨x1, e1⟩ : ∃ z, z = lx xs (i + 1) := ⟨_, rfl⟩
  have r1 : R3 x1 := by rw [e1]; exact lx_r _ _
  obtain ⟨x2, e2⟩ : ∃ z, z = lx xs (i + 2) := ⟨_, rfl⟩
  have r2 : R3 x2 := by rw [e2]; exact lx_r _ _
  refine z_aload_n C.1 hl 2 rfl dL_law_701 ?_
  refine lw_ld C hS hl e1 hi ⟨by decide, by decide⟩ dL_law_702 dL_law_703 dL_law_704 dL_law_705 dL_law_706 ?_
  refine lw_ld C hS hl e2 hi ⟨by decide, by decide⟩ dL_law_707 dL_law_708 dL_law_709 dL_law_710 dL_law_711 ?_
  refine z_vSi C.1 hP (As := [.int (iI x1), .int (iI x2)]) lk_L_91 (c_X7_evenest hI σ x1 x2 r1 r2 (pk_hth hJ) (pk_hse hJ) (pk_hrd hJ)) ob_0 rfl rfl rfl hl.1 rfl (Nat.le_of_ble_eq_true rfl) ⟨Nat.le_of_ble_eq_true rfl, Nat.le_of_ble_eq_true rfl⟩ hN dL_law_712 ?_
  have hR := jInv_R hJ
  refine z_aload_n C.1 hl 1 rfl dL_law_715 ?_
  refine lw_ld C hS hl e1 hi ⟨by decide, by decide⟩ dL_law_716 dL_law_717 dL_law_718 dL_law_719 dL_law_720 ?_
  refine lw_ld C hS hl e2 hi ⟨by decide, by decide⟩ dL_law_721 dL_law_722 dL_law_723 dL_law_724 dL_law_725 ?_
  refine z_vSi C.1 hP (As := [.int (iI x1), .int (iI x2)]) lk_L_94 (c_X8_evenest hI σ x1 x2 r1 r2 (pj_hrb hR) (pj_hse hR) (pj_hrd hR)) ob_100 rfl rfl rfl hl.1 rfl (Nat.le_of_ble_eq_true rfl) ⟨Nat.le_of_ble_eq_true rfl, Nat.le_of_ble_eq_true rfl⟩ hN dL_law_726 ?_
  refine lw_same C (iq_evenest hJ x1 x2) 1115 dL_law_729 (by decide) ?_
  exact K _ _ _ hJ hP hS
set_option maxRecDepth 20000 in
set_option maxHeartbeats 2000000 in
theorem lw_c19 {p : Program} {l : Launch} {e : Env} {s : State} {m : MethodId} {below : List Frame} {meth : Method} {c : Code} {H : Heap} {locs : List Loc} {Q : State → Prop} {ls : Array Slot} {D : va_G} {Y : Nat → ClassId} {a : Int → Nat} {b L : Nat} {xs : Nat → Int32} {σ : zS} {i : Int} (C : lwC p s m c D Y a b L xs) (hl : lv_has ls 4 (lwV a b i)) (hi : 0 ≤ i ∧ i + 6 ≤ L) (hJ : jInv σ) (hP : GP D Y a σ H) (hS : va_S (inA a) s.heap H locs) (K : ∀ (σ1 : zS) (H1 : Heap) (locs1 : List Loc), jInv σ1 → GP D Y a σ1 H1 → va_S (inA a) s.heap H1 locs1 → W p l e room_1 s m #[Value.ref b] below meth c H1 locs1 600000 7302250 Q (F0 m 1115 ls [])) : W p l e room_1 s m #[Value.ref b] below meth c H locs 600000 7302250 Q (F0 m 734 ls []) := by
  have hI := C.1.2.2.2.2.2.2.1
  have hN : 600000 ≤ room_1.cells ∧ 7302250 ≤ room_1.slots := ⟨Nat.le_of_ble_eq_true rfl, Nat.le_of_ble_eq_true rfl⟩
  obtain ⟨x1, e1⟩ : ∃ z, z = lx xs (i + 1) := ⟨_, rfl⟩
  have r1 : R3 x1 := by rw [e1]; exact lx_r _ _
  obtain ⟨x2, e2⟩ : ∃ z, z = lx xs (i + 2) := ⟨_, rfl⟩
  have r2 : R3 x2 := by rw [e2]; exact lx_r _ _
  refine z_aload_n C.1 hl 2 rfl dL_law_734 ?_
  refine lw_ld C hS hl e1 hi ⟨by decide, by decide⟩ dL_law_735 dL_law_736 dL_law_737 dL_law_738 dL_law_739 ?_
  refine lw_ld C hS hl e2 hi ⟨by decide, by decide⟩ dL_law_740 dL_law_741 dL_law_742 dL_law_743 dL_law_744 ?_
  refine z_vQi hS C.1 hP (As := [.int (iI x1), .int (iI x2)]) lk_L_95 (c_X7_calls hI σ x1 x2 r1 r2 (pk_hn hJ) (pk_hg hJ) (pk_hcf hJ)) ob_0 rfl rfl rfl hl.1 rfl (Nat.le_of_ble_eq_true rfl) ⟨Nat.le_of_ble_eq_true rfl, Nat.le_of_ble_eq_true rfl⟩ hN dL_law_745 (fun ra σa H locs pa hP hS => ?_)
  have hR := jR_c (jInv_R hJ) (fr_X7_calls pa)
  refine z_aload_n C.1 hl 1 rfl dL_law_748 ?_
  refine lw_ld C hS hl e1 hi ⟨by decide, by decide⟩ dL_law_749 dL_law_750 dL_law_751 dL_law_752 dL_law_753 ?_
  refine lw_ld C hS hl e2 hi ⟨by decide, by decide⟩ dL_law_754 dL_law_755 dL_law_756 dL_law_757 dL_law_758 ?_
  refine z_vQi hS C.1 hP (As := [.int (iI x1), .int (iI x2)]) lk_L_98 (c_X8_calls hI σa x1 x2 r1 r2 (pj_hnm hR) (pj_hch hR)) ob_100 rfl rfl rfl hl.1 rfl (Nat.le_of_ble_eq_true rfl) ⟨Nat.le_of_ble_eq_true rfl, Nat.le_of_ble_eq_true rfl⟩ hN dL_law_759 (fun rb σb H locs pb hP hS => ?_)
  obtain ⟨hE, hJ2⟩ := st_calls hJ x1 x2 pa pb
  refine lw_same C hE 1115 dL_law_762 (by decide) ?_
  exact K _ _ _ hJ2 hP hS
set_option maxRecDepth 20000 in
set_option maxHeartbeats 2000000 in
theorem lw_c20 {p : Program} {l : Launch} {e : Env} {s : State} {m : MethodId} {below : List Frame} {meth : Method} {c : Code} {H : Heap} {locs : List Loc} {Q : State → Prop} {ls : Array Slot} {D : va_G} {Y : Nat → ClassId} {a : Int → Nat} {b L : Nat} {xs : Nat → Int32} {σ : zS} {i : Int} (C : lwC p s m c D Y a b L xs) (hl : lv_has ls 4 (lwV a b i)) (hi : 0 ≤ i ∧ i + 6 ≤ L) (hJ : jInv σ) (hP : GP D Y a σ H) (hS : va_S (inA a) s.heap H locs) (K : ∀ (σ1 : zS) (H1 : Heap) (locs1 : List Loc), jInv σ1 → GP D Y a σ1 H1 → va_S (inA a) s.heap H1 locs1 → W p l e room_1 s m #[Value.ref b] below meth c H1 locs1 600000 7302250 Q (F0 m 1115 ls [])) : W p l e room_1 s m #[Value.ref b] below meth c H locs 600000 7302250 Q (F0 m 767 ls []) := by
  have hI := C.1.2.2.2.2.2.2.1
  have hN : 600000 ≤ room_1.cells ∧ 7302250 ≤ room_1.slots := ⟨Nat.le_of_ble_eq_true rfl, Nat.le_of_ble_eq_true rfl⟩
  refine z_aload_n C.1 hl 2 rfl dL_law_767 ?_
  refine z_vQi hS C.1 hP (As := []) lk_L_99 (c_X7_worth hI σ (pk_hth hJ) (pk_hn hJ) (pk_hg hJ) (pk_hse hJ) (pk_hrd hJ) (pk_hho hJ) (pk_hpz hJ) (pk_hp hJ) (pk_hq hJ)) ob_0 rfl rfl rfl hl.1 rfl (Nat.le_of_ble_eq_true rfl) ⟨Nat.le_of_ble_eq_true rfl, Nat.le_of_ble_eq_true rfl⟩ hN dL_law_768 (fun ra σa H locs pa hP hS => ?_)
  have hR := jR_c (jInv_R hJ) (fr_X7_worth pa)
  refine z_aload_n C.1 hl 1 rfl dL_law_771 ?_
  refine z_vQi hS C.1 hP (As := []) lk_L_102 (c_X8_worth hI σa (pj_hrb hR) (pj_hse hR) (pj_hnm hR) (pj_hpm hR) (pj_hpq hR) (pj_hrd hR) (pj_hho hR) (pj_hpz hR) (pj_hch hR)) ob_100 rfl rfl rfl hl.1 rfl (Nat.le_of_ble_eq_true rfl) ⟨Nat.le_of_ble_eq_true rfl, Nat.le_of_ble_eq_true rfl⟩ hN dL_law_772 (fun rb σb H locs pb hP hS => ?_)
  obtain ⟨hE, hJ2⟩ := st_worth hJ pa pb
  refine lw_same C hE 1115 dL_law_775 (by decide) ?_
  exact K _ _ _ hJ2 hP hS
set_option maxRecDepth 20000 in
set_option maxHeartbeats 2000000 in
theorem lw_c21 {p : Program} {l : Launch} {e : Env} {s : State} {m : MethodId} {below : List Frame} {meth : Method} {c : Code} {H : Heap} {locs : List Loc} {Q : State → Prop} {ls : Array Slot} {D : va_G} {Y : Nat → ClassId} {a : Int → Nat} {b L : Nat} {xs : Nat → Int32} {σ : zS} {i : Int} (C : lwC p s m c D Y a b L xs) (hl : lv_has ls 4 (lwV a b i)) (hi : 0 ≤ i ∧ i + 6 ≤ L) (hJ : jInv σ) (hP : GP D Y a σ H) (hS : va_S (inA a) s.heap H locs) (K : ∀ (σ1 : zS) (H1 : Heap) (locs1 : List Loc), jInv σ1 → GP D Y a σ1 H1 → va_S (inA a) s.heap H1 locs1 → W p l e room_1 s m #[Value.ref b] below meth c H1 locs1 600000 7302250 Q (F0 m 1115 ls [])) : W p l e room_1 s m #[Value.ref b] below meth c H locs 600000 7302250 Q (F0 m 780 ls []) := by
  have hI := C.1.2.2.2.2.2.2.1
  have hN : 600000 ≤ room_1.cells ∧ 7302250 ≤ room_1.slots := ⟨Nat.le_of_ble_eq_true rfl, Nat.le_of_ble_eq_true rfl⟩
  obtain ⟨x1, e1⟩ : ∃ z, z = lx xs (i + 1) := ⟨_, rfl⟩
  have r1 : R3 x1 := by rw [e1]; exact lx_r _ _
  refine z_aload_n C.1 hl 2 rfl dL_law_780 ?_
  refine lw_ld C hS hl e1 hi ⟨by decide, by decide⟩ dL_law_781 dL_law_782 dL_law_783 dL_law_784 dL_law_785 ?_
  refine z_vQi hS C.1 hP (As := [.int (iI x1)]) lk_L_103 (c_X7_bestPair hI σ x1 r1 (pk_hth hJ) (pk_hrd hJ) (pk_hn hJ) (pk_hg hJ) (pk_hho hJ) (pk_hpz hJ) (pk_hbf hJ)) ob_0 rfl rfl rfl hl.1 rfl (Nat.le_of_ble_eq_true rfl) ⟨Nat.le_of_ble_eq_true rfl, Nat.le_of_ble_eq_true rfl⟩ hN dL_law_786 (fun ra σa H locs pa hP hS => ?_)
  have hR := jR_c (jInv_R hJ) (fr_X7_bestPair pa)
  refine z_aload_n C.1 hl 1 rfl dL_law_789 ?_
  refine lw_ld C hS hl e1 hi ⟨by decide, by decide⟩ dL_law_790 dL_law_791 dL_law_792 dL_law_793 dL_law_794 ?_
  refine z_vQi hS C.1 hP (As := [.int (iI x1)]) lk_L_106 (c_X8_bestPair hI σa x1 r1 (pj_hrb hR) (pj_hnm hR) (pj_hrd hR) (pj_hho hR) (pj_hpz hR) (pj_hch hR) (pj_h115 hR)) ob_100 rfl rfl rfl hl.1 rfl (Nat.le_of_ble_eq_true rfl) ⟨Nat.le_of_ble_eq_true rfl, Nat.le_of_ble_eq_true rfl⟩ hN dL_law_795 (fun rb σb H locs pb hP hS => ?_)
  obtain ⟨hE, hJ2⟩ := st_bestPair hJ x1 pa pb
  refine lw_same C hE 1115 dL_law_798 (by decide) ?_
  exact K _ _ _ hJ2 hP hS
set_option maxRecDepth 20000 in
set_option maxHeartbeats 2000000 in
theorem lw_c22 {p : Program} {l : Launch} {e : Env} {s : State} {m : MethodId} {below : List Frame} {meth : Method} {c : Code} {H : Heap} {locs : List Loc} {Q : State → Prop} {ls : Array Slot} {D : va_G} {Y : Nat → ClassId} {a : Int → Nat} {b L : Nat} {xs : Nat → Int32} {σ : zS} {i : Int} (C : lwC p s m c D Y a b L xs) (hl : lv_has ls 4 (lwV a b i)) (hi : 0 ≤ i ∧ i + 6 ≤ L) (hJ : jInv σ) (hP : GP D Y a σ H) (hS : va_S (inA a) s.heap H locs) (K : ∀ (σ1 : zS) (H1 : Heap) (locs1 : List Loc), jInv σ1 → GP D Y a σ1 H1 → va_S (inA a) s.heap H1 locs1 → W p l e room_1 s m #[Value.ref b] below meth c H1 locs1 600000 7302250 Q (F0 m 1115 ls [])) : W p l e room_1 s m #[Value.ref b] below meth c H locs 600000 7302250 Q (F0 m 803 ls []) := by
  have hI := C.1.2.2.2.2.2.2.1
  have hN : 600000 ≤ room_1.cells ∧ 7302250 ≤ room_1.slots := ⟨Nat.le_of_ble_eq_true rfl, Nat.le_of_ble_eq_true rfl⟩
  obtain ⟨x1, e1⟩ : ∃ z, z = lx xs (i + 1) := ⟨_, rfl⟩
  have r1 : R3 x1 := by rw [e1]; exact lx_r _ _
  refine z_aload_n C.1 hl 2 rfl dL_law_803 ?_
  refine lw_ld C hS hl e1 hi ⟨by decide, by decide⟩ dL_law_804 dL_law_805 dL_law_806 dL_law_807 dL_law_808 ?_
  refine z_vQi hS C.1 hP (As := [.int (iI x1)]) lk_L_107 (c_X7_quarrel hI σ x1 r1 (pk_hca hJ) (pk_hth hJ) (pk_hn hJ) (pk_hg hJ) (pk_hse hJ) (pk_hrd hJ) (pk_hho hJ) (pk_hpz hJ) (pk_hp hJ) (pk_hq hJ)) ob_0 rfl rfl rfl hl.1 rfl (Nat.le_of_ble_eq_true rfl) ⟨Nat.le_of_ble_eq_true rfl, Nat.le_of_ble_eq_true rfl⟩ hN dL_law_809 (fun ra σa H locs pa hP hS => ?_)
  have hR := jR_c (jInv_R hJ) (fr_X7_quarrel pa)
  refine z_aload_n C.1 hl 1 rfl dL_law_812 ?_
  refine lw_ld C hS hl e1 hi ⟨by decide, by decide⟩ dL_law_813 dL_law_814 dL_law_815 dL_law_816 dL_law_817 ?_
  refine z_vQi hS C.1 hP (As := [.int (iI x1)]) lk_L_110 (c_X8_quarrel hI σa x1 r1 (pj_hca hR) (pj_htk hR) (pj_hrb hR) (pj_hse hR) (pj_hnm hR) (pj_hpm hR) (pj_hpq hR) (pj_hrd hR) (pj_hho hR) (pj_hpz hR) (pj_hch hR)) ob_100 rfl rfl rfl hl.1 rfl (Nat.le_of_ble_eq_true rfl) ⟨Nat.le_of_ble_eq_true rfl, Nat.le_of_ble_eq_true rfl⟩ hN dL_law_818 (fun rb σb H locs pb hP hS => ?_)
  obtain ⟨hE, hJ2⟩ := st_quarrel hJ x1 pa pb
  refine lw_same C hE 1115 dL_law_821 (by decide) ?_
  exact K _ _ _ hJ2 hP hS
set_option maxRecDepth 20000 in
set_option maxHeartbeats 2000000 in
theorem lw_c23 {p : Program} {l : Launch} {e : Env} {s : State} {m : MethodId} {below : List Frame} {meth : Method} {c : Code} {H : Heap} {locs : List Loc} {Q : State → Prop} {ls : Array Slot} {D : va_G} {Y : Nat → ClassId} {a : Int → Nat} {b L : Nat} {xs : Nat → Int32} {σ : zS} {i : Int} (C : lwC p s m c D Y a b L xs) (hl : lv_has ls 4 (lwV a b i)) (hi : 0 ≤ i ∧ i + 6 ≤ L) (hJ : jInv σ) (hP : GP D Y a σ H) (hS : va_S (inA a) s.heap H locs) (K : ∀ (σ1 : zS) (H1 : Heap) (locs1 : List Loc), jInv σ1 → GP D Y a σ1 H1 → va_S (inA a) s.heap H1 locs1 → W p l e room_1 s m #[Value.ref b] below meth c H1 locs1 600000 7302250 Q (F0 m 1115 ls [])) : W p l e room_1 s m #[Value.ref b] below meth c H locs 600000 7302250 Q (F0 m 826 ls []) := by
  have hI := C.1.2.2.2.2.2.2.1
  have hN : 600000 ≤ room_1.cells ∧ 7302250 ≤ room_1.slots := ⟨Nat.le_of_ble_eq_true rfl, Nat.le_of_ble_eq_true rfl⟩
  obtain ⟨x1, e1⟩ : ∃ z, z = lx xs (i + 1) := ⟨_, rfl⟩
  have r1 : R3 x1 := by rw [e1]; exact lx_r _ _
  obtain ⟨x2, e2⟩ : ∃ z, z = lx xs (i + 2) := ⟨_, rfl⟩
  have r2 : R3 x2 := by rw [e2]; exact lx_r _ _
  obtain ⟨x3, e3⟩ : ∃ z, z = lx xs (i + 3) := ⟨_, rfl⟩
  have r3 : R3 x3 := by rw [e3]; exact lx_r _ _
  refine z_aload_n C.1 hl 2 rfl dL_law_826 ?_
  refine lw_ld C hS hl e1 hi ⟨by decide, by decide⟩ dL_law_827 dL_law_828 dL_law_829 dL_law_830 dL_law_831 ?_
  refine lw_ld C hS hl e2 hi ⟨by decide, by decide⟩ dL_law_832 dL_law_833 dL_law_834 dL_law_835 dL_law_836 ?_
  refine lw_ld C hS hl e3 hi ⟨by decide, by decide⟩ dL_law_837 dL_law_838 dL_law_839 dL_law_840 dL_law_841 ?_
  refine z_vQl hS C.1 hP (As := [.int (iI x1), .int (iI x2), .int (iI x3)]) lk_L_111 (c_X7_home hI σ x1 x2 x3 r1 r2 r3 (pk_hth hJ) (pk_hn hJ) (pk_hg hJ) (pk_hse hJ) (pk_hrd hJ) (pk_hho hJ) (pk_hpz hJ) (pk_hp hJ) (pk_hq hJ)) ob_0 rfl rfl rfl hl.1 rfl (Nat.le_of_ble_eq_true rfl) ⟨Nat.le_of_ble_eq_true rfl, Nat.le_of_ble_eq_true rfl⟩ hN dL_law_842 (fun ra σa H locs pa hP hS => ?_)
  have hR := jR_c (jInv_R hJ) (fr_X7_home pa)
  refine z_aload_n C.1 hl 1 rfl dL_law_845 ?_
  refine lw_ld C hS hl e1 hi ⟨by decide, by decide⟩ dL_law_846 dL_law_847 dL_law_848 dL_law_849 dL_law_850 ?_
  refine lw_ld C hS hl e2 hi ⟨by decide, by decide⟩ dL_law_851 dL_law_852 dL_law_853 dL_law_854 dL_law_855 ?_
  refine lw_ld C hS hl e3 hi ⟨by decide, by decide⟩ dL_law_856 dL_law_857 dL_law_858 dL_law_859 dL_law_860 ?_
  refine z_vQl hS C.1 hP (As := [.int (iI x1), .int (iI x2), .int (iI x3)]) lk_L_115 (c_X8_home hI σa x1 x2 x3 r1 r2 r3 (pj_hrb hR) (pj_hse hR) (pj_hnm hR) (pj_hpm hR) (pj_hpq hR) (pj_hrd hR) (pj_hho hR) (pj_hpz hR) (pj_hch hR)) ob_100 rfl rfl rfl hl.1 rfl (Nat.le_of_ble_eq_true rfl) ⟨Nat.le_of_ble_eq_true rfl, Nat.le_of_ble_eq_true rfl⟩ hN dL_law_861 (fun rb σb H locs pb hP hS => ?_)
  obtain ⟨hE, hJ2⟩ := st_home hJ x1 x2 x3 pa pb
  refine lw_sameL C hE 1115 dL_law_864 dL_law_865 (by decide) ?_
  exact K _ _ _ hJ2 hP hS
set_option maxRecDepth 20000 in
set_option maxHeartbeats 2000000 in
theorem lw_c24 {p : Program} {l : Launch} {e : Env} {s : State} {m : MethodId} {below : List Frame} {meth : Method} {c : Code} {H : Heap} {locs : List Loc} {Q : State → Prop} {ls : Array Slot} {D : va_G} {Y : Nat → ClassId} {a : Int → Nat} {b L : Nat} {xs : Nat → Int32} {σ : zS} {i : Int} (C : lwC p s m c D Y a b L xs) (hl : lv_has ls 4 (lwV a b i)) (hi : 0 ≤ i ∧ i + 6 ≤ L) (hJ : jInv σ) (hP : GP D Y a σ H) (hS : va_S (inA a) s.heap H locs) (K : ∀ (σ1 : zS) (H1 : Heap) (locs1 : List Loc), jInv σ1 → GP D Y a σ1 H1 → va_S (inA a) s.heap H1 locs1 → W p l e room_1 s m #[Value.ref b] below meth c H1 locs1 600000 7302250 Q (F0 m 1115 ls [])) : W p l e room_1 s m #[Value.ref b] below meth c H locs 600000 7302250 Q (F0 m 870 ls []) := by
  have hI := C.1.2.2.2.2.2.2.1
  have hN : 600000 ≤ room_1.cells ∧ 7302250 ≤ room_1.slots := ⟨Nat.le_of_ble_eq_true rfl, Nat.le_of_ble_eq_true rfl⟩
  obtain ⟨x1, e1⟩ : ∃ z, z = lx xs (i + 1) := ⟨_, rfl⟩
  have r1 : R3 x1 := by rw [e1]; exact lx_r _ _
  obtain ⟨x2, e2⟩ : ∃ z, z = lx xs (i + 2) := ⟨_, rfl⟩
  have r2 : R3 x2 := by rw [e2]; exact lx_r _ _
  refine z_aload_n C.1 hl 2 rfl dL_law_870 ?_
  refine lw_ld C hS hl e1 hi ⟨by decide, by decide⟩ dL_law_871 dL_law_872 dL_law_873 dL_law_874 dL_law_875 ?_
  refine lw_ld C hS hl e2 hi ⟨by decide, by decide⟩ dL_law_876 dL_law_877 dL_law_878 dL_law_879 dL_law_880 ?_
  refine z_vQl hS C.1 hP (As := [.int (iI x1), .int (iI x2)]) lk_L_116 (c_X7_mean hI σ x1 x2 r1 r2 (pk_hth hJ) (pk_hn hJ) (pk_hg hJ) (pk_hse hJ) (pk_hrd hJ) (pk_hho hJ) (pk_hpz hJ) (pk_hp hJ) (pk_hq hJ)) ob_0 rfl rfl rfl hl.1 rfl (Nat.le_of_ble_eq_true rfl) ⟨Nat.le_of_ble_eq_true rfl, Nat.le_of_ble_eq_true rfl⟩ hN dL_law_881 (fun ra σa H locs pa hP hS => ?_)
  have hR := jR_c (jInv_R hJ) (fr_X7_mean pa)
  refine z_aload_n C.1 hl 1 rfl dL_law_884 ?_
  refine lw_ld C hS hl e1 hi ⟨by decide, by decide⟩ dL_law_885 dL_law_886 dL_law_887 dL_law_888 dL_law_889 ?_
  refine lw_ld C hS hl e2 hi ⟨by decide, by decide⟩ dL_law_890 dL_law_891 dL_law_892 dL_law_893 dL_law_894 ?_
  refine z_vQl hS C.1 hP (As := [.int (iI x1), .int (iI x2)]) lk_L_120 (c_X8_mean hI σa x1 x2 r1 r2 (pj_hrb hR) (pj_hse hR) (pj_hnm hR) (pj_hpm hR) (pj_hpq hR) (pj_hrd hR) (pj_hho hR) (pj_hpz hR) (pj_hch hR)) ob_100 rfl rfl rfl hl.1 rfl (Nat.le_of_ble_eq_true rfl) ⟨Nat.le_of_ble_eq_true rfl, Nat.le_of_ble_eq_true rfl⟩ hN dL_law_895 (fun rb σb H locs pb hP hS => ?_)
  obtain ⟨hE, hJ2⟩ := st_mean hJ x1 x2 pa pb
  refine lw_sameL C hE 1115 dL_law_898 dL_law_899 (by decide) ?_
  exact K _ _ _ hJ2 hP hS
set_option maxRecDepth 20000 in
set_option maxHeartbeats 2000000 in
theorem lw_c25 {p : Program} {l : Launch} {e : Env} {s : State} {m : MethodId} {below : List Frame} {meth : Method} {c : Code} {H : Heap} {locs : List Loc} {Q : State → Prop} {ls : Array Slot} {D : va_G} {Y : Nat → ClassId} {a : Int → Nat} {b L : Nat} {xs : Nat → Int32} {σ : zS} {i : Int} (C : lwC p s m c D Y a b L xs) (hl : lv_has ls 4 (lwV a b i)) (hi : 0 ≤ i ∧ i + 6 ≤ L) (hJ : jInv σ) (hP : GP D Y a σ H) (hS : va_S (inA a) s.heap H locs) (K : ∀ (σ1 : zS) (H1 : Heap) (locs1 : List Loc), jInv σ1 → GP D Y a σ1 H1 → va_S (inA a) s.heap H1 locs1 → W p l e room_1 s m #[Value.ref b] below meth c H1 locs1 600000 7302250 Q (F0 m 1115 ls [])) : W p l e room_1 s m #[Value.ref b] below meth c H locs 600000 7302250 Q (F0 m 904 ls []) := by
  have hI := C.1.2.2.2.2.2.2.1
  have hN : 600000 ≤ room_1.cells ∧ 7302250 ≤ room_1.slots := ⟨Nat.le_of_ble_eq_true rfl, Nat.le_of_ble_eq_true rfl⟩
  obtain ⟨x1, e1⟩ : ∃ z, z = lx xs (i + 1) := ⟨_, rfl⟩
  have r1 : R3 x1 := by rw [e1]; exact lx_r _ _
  obtain ⟨x2, e2⟩ : ∃ z, z = lx xs (i + 2) := ⟨_, rfl⟩
  have r2 : R3 x2 := by rw [e2]; exact lx_r _ _
  obtain ⟨x3, e3⟩ : ∃ z, z = lx xs (i + 3) := ⟨_, rfl⟩
  have r3 : R3 x3 := by rw [e3]; exact lx_r _ _
  obtain ⟨x4, e4⟩ : ∃ z, z = lx xs (i + 4) := ⟨_, rfl⟩
  have r4 : R3 x4 := by rw [e4]; exact lx_r _ _
  refine z_aload_n C.1 hl 2 rfl dL_law_904 ?_
  refine lw_ld C hS hl e1 hi ⟨by decide, by decide⟩ dL_law_905 dL_law_906 dL_law_907 dL_law_908 dL_law_909 ?_
  refine lw_ld C hS hl e2 hi ⟨by decide, by decide⟩ dL_law_910 dL_law_911 dL_law_912 dL_law_913 dL_law_914 ?_
  refine lw_ld C hS hl e3 hi ⟨by decide, by decide⟩ dL_law_915 dL_law_916 dL_law_917 dL_law_918 dL_law_919 ?_
  refine lw_ld C hS hl e4 hi ⟨by decide, by decide⟩ dL_law_920 dL_law_921 dL_law_922 dL_law_923 dL_law_924 ?_
  refine z_vQi hS C.1 hP (As := [.int (iI x1), .int (iI x2), .int (iI x3), .int (iI x4)]) lk_L_121 (c_X7_time hI σ x1 x2 x3 x4 r1 r2 r3 r4 (pk_hth hJ) (pk_htm hJ)) ob_0 rfl rfl rfl hl.1 rfl (Nat.le_of_ble_eq_true rfl) ⟨Nat.le_of_ble_eq_true rfl, Nat.le_of_ble_eq_true rfl⟩ hN dL_law_925 (fun ra σa H locs pa hP hS => ?_)
  have hR := jR_c (jInv_R hJ) (fr_X7_time pa)
  refine z_aload_n C.1 hl 1 rfl dL_law_928 ?_
  refine lw_ld C hS hl e1 hi ⟨by decide, by decide⟩ dL_law_929 dL_law_930 dL_law_931 dL_law_932 dL_law_933 ?_
  refine lw_ld C hS hl e2 hi ⟨by decide, by decide⟩ dL_law_934 dL_law_935 dL_law_936 dL_law_937 dL_law_938 ?_
  refine lw_ld C hS hl e3 hi ⟨by decide, by decide⟩ dL_law_939 dL_law_940 dL_law_941 dL_law_942 dL_law_943 ?_
  refine lw_ld C hS hl e4 hi ⟨by decide, by decide⟩ dL_law_944 dL_law_945 dL_law_946 dL_law_947 dL_law_948 ?_
  refine z_vQi hS C.1 hP (As := [.int (iI x1), .int (iI x2), .int (iI x3), .int (iI x4)]) lk_L_125 (c_X8_time hI σa x1 x2 x3 x4 r1 r2 r3 r4 (pj_hrb hR) (pj_htm hR)) ob_100 rfl rfl rfl hl.1 rfl (Nat.le_of_ble_eq_true rfl) ⟨Nat.le_of_ble_eq_true rfl, Nat.le_of_ble_eq_true rfl⟩ hN dL_law_949 (fun rb σb H locs pb hP hS => ?_)
  obtain ⟨hE, hJ2⟩ := st_time hJ x1 x2 x3 x4 pa pb
  refine lw_same C hE 1115 dL_law_952 (by decide) ?_
  exact K _ _ _ hJ2 hP hS
set_option maxRecDepth 20000 in
set_option maxHeartbeats 2000000 in
theorem lw_c26 {p : Program} {l : Launch} {e : Env} {s : State} {m : MethodId} {below : List Frame} {meth : Method} {c : Code} {H : Heap} {locs : List Loc} {Q : State → Prop} {ls : Array Slot} {D : va_G} {Y : Nat → ClassId} {a : Int → Nat} {b L : Nat} {xs : Nat → Int32} {σ : zS} {i : Int} (C : lwC p s m c D Y a b L xs) (hl : lv_has ls 4 (lwV a b i)) (hi : 0 ≤ i ∧ i + 6 ≤ L) (hJ : jInv σ) (hP : GP D Y a σ H) (hS : va_S (inA a) s.heap H locs) (K : ∀ (σ1 : zS) (H1 : Heap) (locs1 : List Loc), jInv σ1 → GP D Y a σ1 H1 → va_S (inA a) s.heap H1 locs1 → W p l e room_1 s m #[Value.ref b] below meth c H1 locs1 600000 7302250 Q (F0 m 1115 ls [])) : W p l e room_1 s m #[Value.ref b] below meth c H locs 600000 7302250 Q (F0 m 957 ls []) := by
  have hI := C.1.2.2.2.2.2.2.1
  have hN : 600000 ≤ room_1.cells ∧ 7302250 ≤ room_1.slots := ⟨Nat.le_of_ble_eq_true rfl, Nat.le_of_ble_eq_true rfl⟩
  refine z_aload_n C.1 hl 2 rfl dL_law_957 ?_
  refine z_vQi hS C.1 hP (As := []) lk_L_126 (c_X7_forget hI σ) ob_0 rfl rfl rfl hl.1 rfl (Nat.le_of_ble_eq_true rfl) ⟨Nat.le_of_ble_eq_true rfl, Nat.le_of_ble_eq_true rfl⟩ hN dL_law_958 (fun ra σa H locs pa hP hS => ?_)
  have hR := jR_c (jInv_R hJ) (fr_X7_forget pa)
  refine z_aload_n C.1 hl 1 rfl dL_law_961 ?_
  refine z_vQi hS C.1 hP (As := []) lk_L_129 (c_X8_forget hI σa) ob_100 rfl rfl rfl hl.1 rfl (Nat.le_of_ble_eq_true rfl) ⟨Nat.le_of_ble_eq_true rfl, Nat.le_of_ble_eq_true rfl⟩ hN dL_law_962 (fun rb σb H locs pb hP hS => ?_)
  obtain ⟨hE, hJ2⟩ := st_forget hJ pa pb
  refine lw_same C hE 1115 dL_law_965 (by decide) ?_
  exact K _ _ _ hJ2 hP hS
set_option maxRecDepth 20000 in
set_option maxHeartbeats 2000000 in
theorem lw_c27 {p : Program} {l : Launch} {e : Env} {s : State} {m : MethodId} {below : List Frame} {meth : Method} {c : Code} {H : Heap} {locs : List Loc} {Q : State → Prop} {ls : Array Slot} {D : va_G} {Y : Nat → ClassId} {a : Int → Nat} {b L : Nat} {xs : Nat → Int32} {σ : zS} {i : Int} (C : lwC p s m c D Y a b L xs) (hl : lv_has ls 4 (lwV a b i)) (hi : 0 ≤ i ∧ i + 6 ≤ L) (hJ : jInv σ) (hP : GP D Y a σ H) (hS : va_S (inA a) s.heap H locs) (K : ∀ (σ1 : zS) (H1 : Heap) (locs1 : List Loc), jInv σ1 → GP D Y a σ1 H1 → va_S (inA a) s.heap H1 locs1 → W p l e room_1 s m #[Value.ref b] below meth c H1 locs1 600000 7302250 Q (F0 m 1115 ls [])) : W p l e room_1 s m #[Value.ref b] below meth c H locs 600000 7302250 Q (F0 m 970 ls []) := by
  have hI := C.1.2.2.2.2.2.2.1
  have hN : 600000 ≤ room_1.cells ∧ 7302250 ≤ room_1.slots := ⟨Nat.le_of_ble_eq_true rfl, Nat.le_of_ble_eq_true rfl⟩
  obtain ⟨x1, e1⟩ : ∃ z, z = lx xs (i + 1) := ⟨_, rfl⟩
  have r1 : R3 x1 := by rw [e1]; exact lx_r _ _
  obtain ⟨x2, e2⟩ : ∃ z, z = lx xs (i + 2) := ⟨_, rfl⟩
  have r2 : R3 x2 := by rw [e2]; exact lx_r _ _
  refine z_aload_n C.1 hl 2 rfl dL_law_970 ?_
  refine lw_ld C hS hl e1 hi ⟨by decide, by decide⟩ dL_law_971 dL_law_972 dL_law_973 dL_law_974 dL_law_975 ?_
  refine lw_ld C hS hl e2 hi ⟨by decide, by decide⟩ dL_law_976 dL_law_977 dL_law_978 dL_law_979 dL_law_980 ?_
  refine z_vSi C.1 hP (As := [.int (iI x1), .int (iI x2)]) lk_L_130 (c_X7_strong hI σ x1 x2 r1 r2 (pk_hth hJ) (pk_htm hJ) (pk_hti hJ)) ob_0 rfl rfl rfl hl.1 rfl (Nat.le_of_ble_eq_true rfl) ⟨Nat.le_of_ble_eq_true rfl, Nat.le_of_ble_eq_true rfl⟩ hN dL_law_981 ?_
  have hR := jInv_R hJ
  refine z_aload_n C.1 hl 1 rfl dL_law_984 ?_
  refine lw_ld C hS hl e1 hi ⟨by decide, by decide⟩ dL_law_985 dL_law_986 dL_law_987 dL_law_988 dL_law_989 ?_
  refine lw_ld C hS hl e2 hi ⟨by decide, by decide⟩ dL_law_990 dL_law_991 dL_law_992 dL_law_993 dL_law_994 ?_
  refine z_vSi C.1 hP (As := [.int (iI x1), .int (iI x2)]) lk_L_133 (c_X8_strong hI σ x1 x2 r1 r2 (pj_hrb hR) (pj_htm hR) (pj_hti hR)) ob_100 rfl rfl rfl hl.1 rfl (Nat.le_of_ble_eq_true rfl) ⟨Nat.le_of_ble_eq_true rfl, Nat.le_of_ble_eq_true rfl⟩ hN dL_law_995 ?_
  refine lw_same C (iq_strong hJ x1 x2) 1115 dL_law_998 (by decide) ?_
  exact K _ _ _ hJ hP hS
set_option maxRecDepth 20000 in
set_option maxHeartbeats 2000000 in
theorem lw_c28 {p : Program} {l : Launch} {e : Env} {s : State} {m : MethodId} {below : List Frame} {meth : Method} {c : Code} {H : Heap} {locs : List Loc} {Q : State → Prop} {ls : Array Slot} {D : va_G} {Y : Nat → ClassId} {a : Int → Nat} {b L : Nat} {xs : Nat → Int32} {σ : zS} {i : Int} (C : lwC p s m c D Y a b L xs) (hl : lv_has ls 4 (lwV a b i)) (hi : 0 ≤ i ∧ i + 6 ≤ L) (hJ : jInv σ) (hP : GP D Y a σ H) (hS : va_S (inA a) s.heap H locs) (K : ∀ (σ1 : zS) (H1 : Heap) (locs1 : List Loc), jInv σ1 → GP D Y a σ1 H1 → va_S (inA a) s.heap H1 locs1 → W p l e room_1 s m #[Value.ref b] below meth c H1 locs1 600000 7302250 Q (F0 m 1115 ls [])) : W p l e room_1 s m #[Value.ref b] below meth c H locs 600000 7302250 Q (F0 m 1003 ls []) := by
  have hI := C.1.2.2.2.2.2.2.1
  have hN : 600000 ≤ room_1.cells ∧ 7302250 ≤ room_1.slots := ⟨Nat.le_of_ble_eq_true rfl, Nat.le_of_ble_eq_true rfl⟩
  obtain ⟨x1, e1⟩ : ∃ z, z = lx xs (i + 1) := ⟨_, rfl⟩
  have r1 : R3 x1 := by rw [e1]; exact lx_r _ _
  obtain ⟨x2, e2⟩ : ∃ z, z = lx xs (i + 2) := ⟨_, rfl⟩
  have r2 : R3 x2 := by rw [e2]; exact lx_r _ _
  obtain ⟨x3, e3⟩ : ∃ z, z = lx xs (i + 3) := ⟨_, rfl⟩
  have r3 : R3 x3 := by rw [e3]; exact lx_r _ _
  refine z_aload_n C.1 hl 2 rfl dL_law_1003 ?_
  refine lw_ld C hS hl e1 hi ⟨by decide, by decide⟩ dL_law_1004 dL_law_1005 dL_law_1006 dL_law_1007 dL_law_1008 ?_
  refine lw_ld C hS hl e2 hi ⟨by decide, by decide⟩ dL_law_1009 dL_law_1010 dL_law_1011 dL_law_1012 dL_law_1013 ?_
  refine lw_ld C hS hl e3 hi ⟨by decide, by decide⟩ dL_law_1014 dL_law_1015 dL_law_1016 dL_law_1017 dL_law_1018 ?_
  refine z_vSi C.1 hP (As := [.int (iI x1), .int (iI x2), .int (iI x3)]) lk_L_134 (c_X7_year hI σ x1 x2 x3 r1 r2 r3 (pk_hth hJ) (pk_hse hJ) (pk_hrd hJ) (pk_hn hJ) (pk_hg hJ)) ob_0 rfl rfl rfl hl.1 rfl (Nat.le_of_ble_eq_true rfl) ⟨Nat.le_of_ble_eq_true rfl, Nat.le_of_ble_eq_true rfl⟩ hN dL_law_1019 ?_
  have hR := jInv_R hJ
  refine z_aload_n C.1 hl 1 rfl dL_law_1022 ?_
  refine lw_ld C hS hl e1 hi ⟨by decide, by decide⟩ dL_law_1023 dL_law_1024 dL_law_1025 dL_law_1026 dL_law_1027 ?_
  refine lw_ld C hS hl e2 hi ⟨by decide, by decide⟩ dL_law_1028 dL_law_1029 dL_law_1030 dL_law_1031 dL_law_1032 ?_
  refine lw_ld C hS hl e3 hi ⟨by decide, by decide⟩ dL_law_1033 dL_law_1034 dL_law_1035 dL_law_1036 dL_law_1037 ?_
  refine z_vSi C.1 hP (As := [.int (iI x1), .int (iI x2), .int (iI x3)]) lk_L_137 (c_X8_year hI σ x1 x2 x3 r1 r2 r3 (pj_hrb hR) (pj_hse hR) (pj_hnm hR) (pj_hrd hR) (pj_hch hR)) ob_100 rfl rfl rfl hl.1 rfl (Nat.le_of_ble_eq_true rfl) ⟨Nat.le_of_ble_eq_true rfl, Nat.le_of_ble_eq_true rfl⟩ hN dL_law_1038 ?_
  refine lw_same C (iq_year hJ x1 x2 x3) 1115 dL_law_1041 (by decide) ?_
  exact K _ _ _ hJ hP hS
set_option maxRecDepth 20000 in
set_option maxHeartbeats 2000000 in
theorem lw_c29_0 {p : Program} {l : Launch} {e : Env} {s : State} {m : MethodId} {below : List Frame} {meth : Method} {c : Code} {H : Heap} {locs : List Loc} {Q : State → Prop} {ls : Array Slot} {D : va_G} {Y : Nat → ClassId} {a : Int → Nat} {b L : Nat} {xs : Nat → Int32} {σ : zS} {i : Int} (C : lwC p s m c D Y a b L xs) (hl : lv_has ls 4 (lwV a b i)) (hi : 0 ≤ i ∧ i + 6 ≤ L) (n1 : lx xs (i + 1) = 0) (hJ : jInv σ) (hP : GP D Y a σ H) (hS : va_S (inA a) s.heap H locs) (K : ∀ (σ1 : zS) (H1 : Heap) (locs1 : List Loc), jInv σ1 → GP D Y a σ1 H1 → va_S (inA a) s.heap H1 locs1 → W p l e room_1 s m #[Value.ref b] below meth c H1 locs1 600000 7302250 Q (F0 m 1115 ls [])) : W p l e room_1 s m #[Value.ref b] below meth c H locs 600000 7302250 Q (F0 m 1046 ls []) := by
  have hI := C.1.2.2.2.2.2.2.1
  have hN : 600000 ≤ room_1.cells ∧ 7302250 ≤ room_1.slots := ⟨Nat.le_of_ble_eq_true rfl, Nat.le_of_ble_eq_true rfl⟩
  have e1 : 0 = lx xs (i + 1) := n1.symm
  refine z_aload_n C.1 hl 2 rfl dL_law_1046 ?_
  refine lw_ld C hS hl e1 hi ⟨by decide, by decide⟩ dL_law_1047 dL_law_1048 dL_law_1049 dL_law_1050 dL_law_1051 ?_
  refine z_vQi hS C.1 hP (As := [.int (iI 0)]) lk_L_138 (c_X7_image_0 hI σ (pk_h01 hJ)) ob_0 rfl rfl rfl hl.1 rfl (Nat.le_of_ble_eq_true rfl) ⟨Nat.le_of_ble_eq_true rfl, Nat.le_of_ble_eq_true rfl⟩ hN dL_law_1052 (fun ra σa H locs pa hP hS => ?_)
  have hR := jR_c (jInv_R hJ) (fr_X7_image_0 pa)
  refine z_aload_n C.1 hl 1 rfl dL_law_1055 ?_
  refine lw_ld C hS hl e1 hi ⟨by decide, by decide⟩ dL_law_1056 dL_law_1057 dL_law_1058 dL_law_1059 dL_law_1060 ?_
  refine z_vQi hS C.1 hP (As := [.int (iI 0)]) lk_L_141 (c_X8_image_0 hI σa) ob_100 rfl rfl rfl hl.1 rfl (Nat.le_of_ble_eq_true rfl) ⟨Nat.le_of_ble_eq_true rfl, Nat.le_of_ble_eq_true rfl⟩ hN dL_law_1061 (fun rb σb H locs pb hP hS => ?_)
  obtain ⟨hE, hJ2⟩ := st_image_0 hJ pa pb
  refine lw_same C hE 1115 dL_law_1064 (by decide) ?_
  exact K _ _ _ hJ2 hP hS
set_option maxRecDepth 20000 in
set_option maxHeartbeats 2000000 in
theorem lw_c29_1 {p : Program} {l : Launch} {e : Env} {s : State} {m : MethodId} {below : List Frame} {meth : Method} {c : Code} {H : Heap} {locs : List Loc} {Q : State → Prop} {ls : Array Slot} {D : va_G} {Y : Nat → ClassId} {a : Int → Nat} {b L : Nat} {xs : Nat → Int32} {σ : zS} {i : Int} (C : lwC p s m c D Y a b L xs) (hl : lv_has ls 4 (lwV a b i)) (hi : 0 ≤ i ∧ i + 6 ≤ L) (n1 : lx xs (i + 1) = 1) (hJ : jInv σ) (hP : GP D Y a σ H) (hS : va_S (inA a) s.heap H locs) (K : ∀ (σ1 : zS) (H1 : Heap) (locs1 : List Loc), jInv σ1 → GP D Y a σ1 H1 → va_S (inA a) s.heap H1 locs1 → W p l e room_1 s m #[Value.ref b] below meth c H1 locs1 600000 7302250 Q (F0 m 1115 ls [])) : W p l e room_1 s m #[Value.ref b] below meth c H locs 600000 7302250 Q (F0 m 1046 ls []) := by
  have hI := C.1.2.2.2.2.2.2.1
  have hN : 600000 ≤ room_1.cells ∧ 7302250 ≤ room_1.slots := ⟨Nat.le_of_ble_eq_true rfl, Nat.le_of_ble_eq_true rfl⟩
  have e1 : 1 = lx xs (i + 1) := n1.symm
  refine z_aload_n C.1 hl 2 rfl dL_law_1046 ?_
  refine lw_ld C hS hl e1 hi ⟨by decide, by decide⟩ dL_law_1047 dL_law_1048 dL_law_1049 dL_law_1050 dL_law_1051 ?_
  refine z_vQi hS C.1 hP (As := [.int (iI 1)]) lk_L_138 (c_X7_image_1 hI σ (pk_h01 hJ)) ob_0 rfl rfl rfl hl.1 rfl (Nat.le_of_ble_eq_true rfl) ⟨Nat.le_of_ble_eq_true rfl, Nat.le_of_ble_eq_true rfl⟩ hN dL_law_1052 (fun ra σa H locs pa hP hS => ?_)
  have hR := jR_c (jInv_R hJ) (fr_X7_image_1 pa)
  refine z_aload_n C.1 hl 1 rfl dL_law_1055 ?_
  refine lw_ld C hS hl e1 hi ⟨by decide, by decide⟩ dL_law_1056 dL_law_1057 dL_law_1058 dL_law_1059 dL_law_1060 ?_
  refine z_vQi hS C.1 hP (As := [.int (iI 1)]) lk_L_141 (c_X8_image_1 hI σa) ob_100 rfl rfl rfl hl.1 rfl (Nat.le_of_ble_eq_true rfl) ⟨Nat.le_of_ble_eq_true rfl, Nat.le_of_ble_eq_true rfl⟩ hN dL_law_1061 (fun rb σb H locs pb hP hS => ?_)
  obtain ⟨hE, hJ2⟩ := st_image_1 hJ pa pb
  refine lw_same C hE 1115 dL_law_1064 (by decide) ?_
  exact K _ _ _ hJ2 hP hS
set_option maxRecDepth 20000 in
set_option maxHeartbeats 2000000 in
theorem lw_c29_o {p : Program} {l : Launch} {e : Env} {s : State} {m : MethodId} {below : List Frame} {meth : Method} {c : Code} {H : Heap} {locs : List Loc} {Q : State → Prop} {ls : Array Slot} {D : va_G} {Y : Nat → ClassId} {a : Int → Nat} {b L : Nat} {xs : Nat → Int32} {σ : zS} {i : Int} (C : lwC p s m c D Y a b L xs) (hl : lv_has ls 4 (lwV a b i)) (hi : 0 ≤ i ∧ i + 6 ≤ L) (ro : ¬ (0 ≤ lx xs (i + 1) ∧ lx xs (i + 1) ≤ 1)) (hJ : jInv σ) (hP : GP D Y a σ H) (hS : va_S (inA a) s.heap H locs) (K : ∀ (σ1 : zS) (H1 : Heap) (locs1 : List Loc), jInv σ1 → GP D Y a σ1 H1 → va_S (inA a) s.heap H1 locs1 → W p l e room_1 s m #[Value.ref b] below meth c H1 locs1 600000 7302250 Q (F0 m 1115 ls [])) : W p l e room_1 s m #[Value.ref b] below meth c H locs 600000 7302250 Q (F0 m 1046 ls []) := by
  have hI := C.1.2.2.2.2.2.2.1
  have hN : 600000 ≤ room_1.cells ∧ 7302250 ≤ room_1.slots := ⟨Nat.le_of_ble_eq_true rfl, Nat.le_of_ble_eq_true rfl⟩
  obtain ⟨x1, e1⟩ : ∃ z, z = lx xs (i + 1) := ⟨_, rfl⟩
  have r1 : R3 x1 := by rw [e1]; exact lx_r _ _
  rw [← e1] at ro
  refine z_aload_n C.1 hl 2 rfl dL_law_1046 ?_
  refine lw_ld C hS hl e1 hi ⟨by decide, by decide⟩ dL_law_1047 dL_law_1048 dL_law_1049 dL_law_1050 dL_law_1051 ?_
  refine z_vQi hS C.1 hP (As := [.int (iI x1)]) lk_L_138 (c_X7_image_o hI σ x1 r1 ro) ob_0 rfl rfl rfl hl.1 rfl (Nat.le_of_ble_eq_true rfl) ⟨Nat.le_of_ble_eq_true rfl, Nat.le_of_ble_eq_true rfl⟩ hN dL_law_1052 (fun ra σa H locs pa hP hS => ?_)
  have hR := jR_c (jInv_R hJ) (fr_X7_image_o (n0 := x1) pa)
  refine z_aload_n C.1 hl 1 rfl dL_law_1055 ?_
  refine lw_ld C hS hl e1 hi ⟨by decide, by decide⟩ dL_law_1056 dL_law_1057 dL_law_1058 dL_law_1059 dL_law_1060 ?_
  refine z_vQi hS C.1 hP (As := [.int (iI x1)]) lk_L_141 (c_X8_image_o hI σa x1 r1 ro) ob_100 rfl rfl rfl hl.1 rfl (Nat.le_of_ble_eq_true rfl) ⟨Nat.le_of_ble_eq_true rfl, Nat.le_of_ble_eq_true rfl⟩ hN dL_law_1061 (fun rb σb H locs pb hP hS => ?_)
  obtain ⟨ea, eb⟩ := pa
  obtain ⟨ec, ed⟩ := pb
  rw [eb] at ed
  rw [ed] at hP
  refine lw_same C (by rw [ea, ec]) 1115 dL_law_1064 (by decide) ?_
  exact K _ _ _ hJ hP hS
theorem lw_c29 {p : Program} {l : Launch} {e : Env} {s : State} {m : MethodId} {below : List Frame} {meth : Method} {c : Code} {H : Heap} {locs : List Loc} {Q : State → Prop} {ls : Array Slot} {D : va_G} {Y : Nat → ClassId} {a : Int → Nat} {b L : Nat} {xs : Nat → Int32} {σ : zS} {i : Int} (C : lwC p s m c D Y a b L xs) (hl : lv_has ls 4 (lwV a b i)) (hi : 0 ≤ i ∧ i + 6 ≤ L) (hJ : jInv σ) (hP : GP D Y a σ H) (hS : va_S (inA a) s.heap H locs) (K : ∀ (σ1 : zS) (H1 : Heap) (locs1 : List Loc), jInv σ1 → GP D Y a σ1 H1 → va_S (inA a) s.heap H1 locs1 → W p l e room_1 s m #[Value.ref b] below meth c H1 locs1 600000 7302250 Q (F0 m 1115 ls [])) : W p l e room_1 s m #[Value.ref b] below meth c H locs 600000 7302250 Q (F0 m 1046 ls []) := by
  by_cases n0 : lx xs (i + 1) = 0
  · exact lw_c29_0 C hl hi n0 hJ hP hS K
  by_cases n1 : lx xs (i + 1) = 1
  · exact lw_c29_1 C hl hi n1 hJ hP hS K
  exact lw_c29_o C hl hi (by omega) hJ hP hS K
set_option maxRecDepth 20000 in
set_option maxHeartbeats 2000000 in
theorem lw_c30_0 {p : Program} {l : Launch} {e : Env} {s : State} {m : MethodId} {below : List Frame} {meth : Method} {c : Code} {H : Heap} {locs : List Loc} {Q : State → Prop} {ls : Array Slot} {D : va_G} {Y : Nat → ClassId} {a : Int → Nat} {b L : Nat} {xs : Nat → Int32} {σ : zS} {i : Int} (C : lwC p s m c D Y a b L xs) (hl : lv_has ls 4 (lwV a b i)) (hi : 0 ≤ i ∧ i + 6 ≤ L) (n1 : lx xs (i + 1) = 0) (hJ : jInv σ) (hP : GP D Y a σ H) (hS : va_S (inA a) s.heap H locs) (K : ∀ (σ1 : zS) (H1 : Heap) (locs1 : List Loc), jInv σ1 → GP D Y a σ1 H1 → va_S (inA a) s.heap H1 locs1 → W p l e room_1 s m #[Value.ref b] below meth c H1 locs1 600000 7302250 Q (F0 m 1115 ls [])) : W p l e room_1 s m #[Value.ref b] below meth c H locs 600000 7302250 Q (F0 m 1069 ls []) := by
  have hI := C.1.2.2.2.2.2.2.1
  have hN : 600000 ≤ room_1.cells ∧ 7302250 ≤ room_1.slots := ⟨Nat.le_of_ble_eq_true rfl, Nat.le_of_ble_eq_true rfl⟩
  have e1 : 0 = lx xs (i + 1) := n1.symm
  refine z_aload_n C.1 hl 2 rfl dL_law_1069 ?_
  refine lw_ld C hS hl e1 hi ⟨by decide, by decide⟩ dL_law_1070 dL_law_1071 dL_law_1072 dL_law_1073 dL_law_1074 ?_
  refine z_vQi hS C.1 hP (As := [.int (iI 0)]) lk_L_142 (c_X7_restore_0 hI σ (pk_i0 hJ).2.1 (pk_i0 hJ).1) ob_0 rfl rfl rfl hl.1 rfl (Nat.le_of_ble_eq_true rfl) ⟨Nat.le_of_ble_eq_true rfl, Nat.le_of_ble_eq_true rfl⟩ hN dL_law_1075 (fun ra σa H locs pa hP hS => ?_)
  have hR := jR_c (jInv_R hJ) (fr_X7_restore_0 (pk_i0 hJ).1 pa)
  refine z_aload_n C.1 hl 1 rfl dL_law_1078 ?_
  refine lw_ld C hS hl e1 hi ⟨by decide, by decide⟩ dL_law_1079 dL_law_1080 dL_law_1081 dL_law_1082 dL_law_1083 ?_
  refine z_vQi hS C.1 hP (As := [.int (iI 0)]) lk_L_145 (c_X8_restore_0 hI σa (pj_k hR).1) ob_100 rfl rfl rfl hl.1 rfl (Nat.le_of_ble_eq_true rfl) ⟨Nat.le_of_ble_eq_true rfl, Nat.le_of_ble_eq_true rfl⟩ hN dL_law_1084 (fun rb σb H locs pb hP hS => ?_)
  obtain ⟨hE, hJ2⟩ := st_restore_0 hJ pa pb
  refine lw_same C hE 1115 dL_law_1087 (by decide) ?_
  exact K _ _ _ hJ2 hP hS
set_option maxRecDepth 20000 in
set_option maxHeartbeats 2000000 in
theorem lw_c30_1 {p : Program} {l : Launch} {e : Env} {s : State} {m : MethodId} {below : List Frame} {meth : Method} {c : Code} {H : Heap} {locs : List Loc} {Q : State → Prop} {ls : Array Slot} {D : va_G} {Y : Nat → ClassId} {a : Int → Nat} {b L : Nat} {xs : Nat → Int32} {σ : zS} {i : Int} (C : lwC p s m c D Y a b L xs) (hl : lv_has ls 4 (lwV a b i)) (hi : 0 ≤ i ∧ i + 6 ≤ L) (n1 : lx xs (i + 1) = 1) (hJ : jInv σ) (hP : GP D Y a σ H) (hS : va_S (inA a) s.heap H locs) (K : ∀ (σ1 : zS) (H1 : Heap) (locs1 : List Loc), jInv σ1 → GP D Y a σ1 H1 → va_S (inA a) s.heap H1 locs1 → W p l e room_1 s m #[Value.ref b] below meth c H1 locs1 600000 7302250 Q (F0 m 1115 ls [])) : W p l e room_1 s m #[Value.ref b] below meth c H locs 600000 7302250 Q (F0 m 1069 ls []) := by
  have hI := C.1.2.2.2.2.2.2.1
  have hN : 600000 ≤ room_1.cells ∧ 7302250 ≤ room_1.slots := ⟨Nat.le_of_ble_eq_true rfl, Nat.le_of_ble_eq_true rfl⟩
  have e1 : 1 = lx xs (i + 1) := n1.symm
  refine z_aload_n C.1 hl 2 rfl dL_law_1069 ?_
  refine lw_ld C hS hl e1 hi ⟨by decide, by decide⟩ dL_law_1070 dL_law_1071 dL_law_1072 dL_law_1073 dL_law_1074 ?_
  refine z_vQi hS C.1 hP (As := [.int (iI 1)]) lk_L_142 (c_X7_restore_1 hI σ (pk_i1 hJ).2.1 (pk_i1 hJ).1) ob_0 rfl rfl rfl hl.1 rfl (Nat.le_of_ble_eq_true rfl) ⟨Nat.le_of_ble_eq_true rfl, Nat.le_of_ble_eq_true rfl⟩ hN dL_law_1075 (fun ra σa H locs pa hP hS => ?_)
  have hR := jR_c (jInv_R hJ) (fr_X7_restore_1 (pk_i1 hJ).1 pa)
  refine z_aload_n C.1 hl 1 rfl dL_law_1078 ?_
  refine lw_ld C hS hl e1 hi ⟨by decide, by decide⟩ dL_law_1079 dL_law_1080 dL_law_1081 dL_law_1082 dL_law_1083 ?_
  refine z_vQi hS C.1 hP (As := [.int (iI 1)]) lk_L_145 (c_X8_restore_1 hI σa (pj_k hR).2) ob_100 rfl rfl rfl hl.1 rfl (Nat.le_of_ble_eq_true rfl) ⟨Nat.le_of_ble_eq_true rfl, Nat.le_of_ble_eq_true rfl⟩ hN dL_law_1084 (fun rb σb H locs pb hP hS => ?_)
  obtain ⟨hE, hJ2⟩ := st_restore_1 hJ pa pb
  refine lw_same C hE 1115 dL_law_1087 (by decide) ?_
  exact K _ _ _ hJ2 hP hS
set_option maxRecDepth 20000 in
set_option maxHeartbeats 2000000 in
theorem lw_c30_o {p : Program} {l : Launch} {e : Env} {s : State} {m : MethodId} {below : List Frame} {meth : Method} {c : Code} {H : Heap} {locs : List Loc} {Q : State → Prop} {ls : Array Slot} {D : va_G} {Y : Nat → ClassId} {a : Int → Nat} {b L : Nat} {xs : Nat → Int32} {σ : zS} {i : Int} (C : lwC p s m c D Y a b L xs) (hl : lv_has ls 4 (lwV a b i)) (hi : 0 ≤ i ∧ i + 6 ≤ L) (ro : ¬ (0 ≤ lx xs (i + 1) ∧ lx xs (i + 1) ≤ 1)) (hJ : jInv σ) (hP : GP D Y a σ H) (hS : va_S (inA a) s.heap H locs) (K : ∀ (σ1 : zS) (H1 : Heap) (locs1 : List Loc), jInv σ1 → GP D Y a σ1 H1 → va_S (inA a) s.heap H1 locs1 → W p l e room_1 s m #[Value.ref b] below meth c H1 locs1 600000 7302250 Q (F0 m 1115 ls [])) : W p l e room_1 s m #[Value.ref b] below meth c H locs 600000 7302250 Q (F0 m 1069 ls []) := by
  have hI := C.1.2.2.2.2.2.2.1
  have hN : 600000 ≤ room_1.cells ∧ 7302250 ≤ room_1.slots := ⟨Nat.le_of_ble_eq_true rfl, Nat.le_of_ble_eq_true rfl⟩
  obtain ⟨x1, e1⟩ : ∃ z, z = lx xs (i + 1) := ⟨_, rfl⟩
  have r1 : R3 x1 := by rw [e1]; exact lx_r _ _
  rw [← e1] at ro
  refine z_aload_n C.1 hl 2 rfl dL_law_1069 ?_
  refine lw_ld C hS hl e1 hi ⟨by decide, by decide⟩ dL_law_1070 dL_law_1071 dL_law_1072 dL_law_1073 dL_law_1074 ?_
  refine z_vQi hS C.1 hP (As := [.int (iI x1)]) lk_L_142 (c_X7_restore_o hI σ x1 r1 ro) ob_0 rfl rfl rfl hl.1 rfl (Nat.le_of_ble_eq_true rfl) ⟨Nat.le_of_ble_eq_true rfl, Nat.le_of_ble_eq_true rfl⟩ hN dL_law_1075 (fun ra σa H locs pa hP hS => ?_)
  have hR := jR_c (jInv_R hJ) (fr_X7_restore_o (n0 := x1) pa)
  refine z_aload_n C.1 hl 1 rfl dL_law_1078 ?_
  refine lw_ld C hS hl e1 hi ⟨by decide, by decide⟩ dL_law_1079 dL_law_1080 dL_law_1081 dL_law_1082 dL_law_1083 ?_
  refine z_vQi hS C.1 hP (As := [.int (iI x1)]) lk_L_145 (c_X8_restore_o hI σa x1 r1 ro) ob_100 rfl rfl rfl hl.1 rfl (Nat.le_of_ble_eq_true rfl) ⟨Nat.le_of_ble_eq_true rfl, Nat.le_of_ble_eq_true rfl⟩ hN dL_law_1084 (fun rb σb H locs pb hP hS => ?_)
  obtain ⟨ea, eb⟩ := pa
  obtain ⟨ec, ed⟩ := pb
  rw [eb] at ed
  rw [ed] at hP
  refine lw_same C (by rw [ea, ec]) 1115 dL_law_1087 (by decide) ?_
  exact K _ _ _ hJ hP hS
theorem lw_c30 {p : Program} {l : Launch} {e : Env} {s : State} {m : MethodId} {below : List Frame} {meth : Method} {c : Code} {H : Heap} {locs : List Loc} {Q : State → Prop} {ls : Array Slot} {D : va_G} {Y : Nat → ClassId} {a : Int → Nat} {b L : Nat} {xs : Nat → Int32} {σ : zS} {i : Int} (C : lwC p s m c D Y a b L xs) (hl : lv_has ls 4 (lwV a b i)) (hi : 0 ≤ i ∧ i + 6 ≤ L) (hJ : jInv σ) (hP : GP D Y a σ H) (hS : va_S (inA a) s.heap H locs) (K : ∀ (σ1 : zS) (H1 : Heap) (locs1 : List Loc), jInv σ1 → GP D Y a σ1 H1 → va_S (inA a) s.heap H1 locs1 → W p l e room_1 s m #[Value.ref b] below meth c H1 locs1 600000 7302250 Q (F0 m 1115 ls [])) : W p l e room_1 s m #[Value.ref b] below meth c H locs 600000 7302250 Q (F0 m 1069 ls []) := by
  by_cases n0 : lx xs (i + 1) = 0
  · exact lw_c30_0 C hl hi n0 hJ hP hS K
  by_cases n1 : lx xs (i + 1) = 1
  · exact lw_c30_1 C hl hi n1 hJ hP hS K
  exact lw_c30_o C hl hi (by omega) hJ hP hS K
set_option maxRecDepth 20000 in
set_option maxHeartbeats 2000000 in
theorem lw_c31 {p : Program} {l : Launch} {e : Env} {s : State} {m : MethodId} {below : List Frame} {meth : Method} {c : Code} {H : Heap} {locs : List Loc} {Q : State → Prop} {ls : Array Slot} {D : va_G} {Y : Nat → ClassId} {a : Int → Nat} {b L : Nat} {xs : Nat → Int32} {σ : zS} {i : Int} (C : lwC p s m c D Y a b L xs) (hl : lv_has ls 4 (lwV a b i)) (hi : 0 ≤ i ∧ i + 6 ≤ L) (hJ : jInv σ) (hP : GP D Y a σ H) (hS : va_S (inA a) s.heap H locs) (K : ∀ (σ1 : zS) (H1 : Heap) (locs1 : List Loc), jInv σ1 → GP D Y a σ1 H1 → va_S (inA a) s.heap H1 locs1 → W p l e room_1 s m #[Value.ref b] below meth c H1 locs1 600000 7302250 Q (F0 m 1115 ls [])) : W p l e room_1 s m #[Value.ref b] below meth c H locs 600000 7302250 Q (F0 m 1092 ls []) := by
  have hI := C.1.2.2.2.2.2.2.1
  have hN : 600000 ≤ room_1.cells ∧ 7302250 ≤ room_1.slots := ⟨Nat.le_of_ble_eq_true rfl, Nat.le_of_ble_eq_true rfl⟩
  obtain ⟨x1, e1⟩ : ∃ z, z = lx xs (i + 1) := ⟨_, rfl⟩
  have r1 : R3 x1 := by rw [e1]; exact lx_r _ _
  refine z_aload_n C.1 hl 2 rfl dL_law_1092 ?_
  refine lw_ld C hS hl e1 hi ⟨by decide, by decide⟩ dL_law_1093 dL_law_1094 dL_law_1095 dL_law_1096 dL_law_1097 ?_
  refine z_vSi C.1 hP (As := [.int (iI x1)]) lk_L_146 (c_X7_told hI σ x1 r1 (pk_hth hJ) (pk_hn hJ)) ob_0 rfl rfl rfl hl.1 rfl (Nat.le_of_ble_eq_true rfl) ⟨Nat.le_of_ble_eq_true rfl, Nat.le_of_ble_eq_true rfl⟩ hN dL_law_1098 ?_
  have hR := jInv_R hJ
  refine z_aload_n C.1 hl 1 rfl dL_law_1101 ?_
  refine lw_ld C hS hl e1 hi ⟨by decide, by decide⟩ dL_law_1102 dL_law_1103 dL_law_1104 dL_law_1105 dL_law_1106 ?_
  refine z_vSi C.1 hP (As := [.int (iI x1)]) lk_L_149 (c_X8_told hI σ x1 r1 (pj_hrb hR) (pj_hnm hR)) ob_100 rfl rfl rfl hl.1 rfl (Nat.le_of_ble_eq_true rfl) ⟨Nat.le_of_ble_eq_true rfl, Nat.le_of_ble_eq_true rfl⟩ hN dL_law_1107 ?_
  refine lw_same C (iq_told hJ x1) 1115 dL_law_1110 (by decide) ?_
  exact K _ _ _ hJ hP hS
