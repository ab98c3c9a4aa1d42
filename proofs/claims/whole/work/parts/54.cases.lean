/-! the 26 cases of the law's switch -/
section LAWC
variable {p : Program} {l : Launch} {e : Env} {s : State} {m : MethodId} {args : Array Value} {below : List Frame} {meth : Method} {c : Code} {D : va_G} {ad : Nat → Nat} {cA : ClassId} {h0 L : Nat} {xs : Nat → Int32} {Q0 : State → Prop}
theorem L_0 {i : Nat} {x0 : mj_X} (h : LB p s m meth c D ad cA h0 L xs) (hi : i + 5 ≤ L) (hI : Inv x0) (nx : ∀ z : mj_X, Inv z → gW p l e room_1 s m args below meth c D ad cA h0 Q0 4 (g_of z (shX ++ shM)) 55 4589 900 (lawls i) []) : gW p l e room_1 s m args below meth c D ad cA h0 Q0 4 (g_of x0 (shX ++ shM)) 55 4589 152 (lawls i) [] := by
  refine g_aldn (M := mLaw) h.1 dL_law_152 rfl ?_
  refine g_arg (j := 1) h (by omega) (by decide) dL_law_153 dL_law_154 dL_law_155 dL_law_156 dL_law_157 ?_
  refine g_callV (M := mLaw) (K := mX6_write) (sh := (shX ++ shM)) (x := x0) (c0 := 0) (As := [.int (xs (i + 1))]) (st := []) h.1 (by decide) (i_write hI _) ckX6_write lkL_13 ⟨Nat.le_of_ble_eq_true rfl, Nat.le_of_ble_eq_true rfl⟩ ⟨Nat.le_of_ble_eq_true rfl, Nat.le_of_ble_eq_true rfl⟩ rfl dL_law_158 rfl rfl (Nat.le_of_ble_eq_true rfl) (fun r y q => ?_)
  obtain ⟨z, rfl, q2⟩ := q
  refine g_aldn (M := mLaw) h.1 dL_law_161 rfl ?_
  refine g_arg (j := 1) h (by omega) (by decide) dL_law_162 dL_law_163 dL_law_164 dL_law_165 dL_law_166 ?_
  refine g_callV (M := mLaw) (K := mX7_write) (sh := (shX ++ shM)) (x := y) (c0 := 37) (As := [.int (xs (i + 1))]) (st := [.int z]) h.1 (by decide) q2 ckX7_write lkL_17 ⟨Nat.le_of_ble_eq_true rfl, Nat.le_of_ble_eq_true rfl⟩ ⟨Nat.le_of_ble_eq_true rfl, Nat.le_of_ble_eq_true rfl⟩ rfl dL_law_167 rfl rfl (Nat.le_of_ble_eq_true rfl) (fun r w q => ?_)
  obtain ⟨z', rfl, q3, q4⟩ := q
  subst q3
  exact g_ic_eq (M := mLaw) (tgt := 900) h.1 dL_law_170 rfl (fun _ => nx w q4) (fun q => absurd rfl q)
theorem L_1 {i : Nat} {x0 : mj_X} (h : LB p s m meth c D ad cA h0 L xs) (hi : i + 5 ≤ L) (hI : Inv x0) (nx : ∀ z : mj_X, Inv z → gW p l e room_1 s m args below meth c D ad cA h0 Q0 4 (g_of z (shX ++ shM)) 55 4589 900 (lawls i) []) : gW p l e room_1 s m args below meth c D ad cA h0 Q0 4 (g_of x0 (shX ++ shM)) 55 4589 175 (lawls i) [] := by
  refine g_aldn (M := mLaw) h.1 dL_law_175 rfl ?_
  refine g_callV (M := mLaw) (K := mX6_wipe) (sh := (shX ++ shM)) (x := x0) (c0 := 0) (As := []) (st := []) h.1 (by decide) (i_wipe hI) ckX6_wipe lkL_18 ⟨Nat.le_of_ble_eq_true rfl, Nat.le_of_ble_eq_true rfl⟩ ⟨Nat.le_of_ble_eq_true rfl, Nat.le_of_ble_eq_true rfl⟩ rfl dL_law_176 rfl rfl (Nat.le_of_ble_eq_true rfl) (fun r y q => ?_)
  obtain ⟨z, rfl, q2⟩ := q
  refine g_aldn (M := mLaw) h.1 dL_law_179 rfl ?_
  refine g_callV (M := mLaw) (K := mX7_wipe) (sh := (shX ++ shM)) (x := y) (c0 := 37) (As := []) (st := [.int z]) h.1 (by decide) q2 ckX7_wipe lkL_22 ⟨Nat.le_of_ble_eq_true rfl, Nat.le_of_ble_eq_true rfl⟩ ⟨Nat.le_of_ble_eq_true rfl, Nat.le_of_ble_eq_true rfl⟩ rfl dL_law_180 rfl rfl (Nat.le_of_ble_eq_true rfl) (fun r w q => ?_)
  obtain ⟨z', rfl, q3, q4⟩ := q
  subst q3
  exact g_ic_eq (M := mLaw) (tgt := 900) h.1 dL_law_183 rfl (fun _ => nx w q4) (fun q => absurd rfl q)
theorem L_2 {i : Nat} {x0 : mj_X} (h : LB p s m meth c D ad cA h0 L xs) (hi : i + 5 ≤ L) (hI : Inv x0) (nx : ∀ z : mj_X, Inv z → gW p l e room_1 s m args below meth c D ad cA h0 Q0 4 (g_of z (shX ++ shM)) 55 4589 900 (lawls i) []) : gW p l e room_1 s m args below meth c D ad cA h0 Q0 4 (g_of x0 (shX ++ shM)) 55 4589 188 (lawls i) [] := by
  refine g_aldn (M := mLaw) h.1 dL_law_188 rfl ?_
  refine g_callV (M := mLaw) (K := mX6_fault) (sh := (shX ++ shM)) (x := x0) (c0 := 0) (As := []) (st := []) h.1 (by decide) (i_fault hI) ckX6_fault lkL_23 ⟨Nat.le_of_ble_eq_true rfl, Nat.le_of_ble_eq_true rfl⟩ ⟨Nat.le_of_ble_eq_true rfl, Nat.le_of_ble_eq_true rfl⟩ rfl dL_law_189 rfl rfl (Nat.le_of_ble_eq_true rfl) (fun r y q => ?_)
  obtain ⟨z, rfl, q2⟩ := q
  refine g_aldn (M := mLaw) h.1 dL_law_192 rfl ?_
  refine g_callV (M := mLaw) (K := mX7_fault) (sh := (shX ++ shM)) (x := y) (c0 := 37) (As := []) (st := [.int z]) h.1 (by decide) q2 ckX7_fault lkL_26 ⟨Nat.le_of_ble_eq_true rfl, Nat.le_of_ble_eq_true rfl⟩ ⟨Nat.le_of_ble_eq_true rfl, Nat.le_of_ble_eq_true rfl⟩ rfl dL_law_193 rfl rfl (Nat.le_of_ble_eq_true rfl) (fun r w q => ?_)
  obtain ⟨z', rfl, q3, q4⟩ := q
  subst q3
  exact g_ic_eq (M := mLaw) (tgt := 900) h.1 dL_law_196 rfl (fun _ => nx w q4) (fun q => absurd rfl q)
theorem L_3 {i : Nat} {x0 : mj_X} (h : LB p s m meth c D ad cA h0 L xs) (hi : i + 5 ≤ L) (hI : Inv x0) (nx : ∀ z : mj_X, Inv z → gW p l e room_1 s m args below meth c D ad cA h0 Q0 4 (g_of z (shX ++ shM)) 55 4589 900 (lawls i) []) : gW p l e room_1 s m args below meth c D ad cA h0 Q0 4 (g_of x0 (shX ++ shM)) 55 4589 201 (lawls i) [] := by
  refine g_aldn (M := mLaw) h.1 dL_law_201 rfl ?_
  refine g_callV (M := mLaw) (K := mX6_reason) (sh := (shX ++ shM)) (x := x0) (c0 := 0) (As := []) (st := []) h.1 (by decide) (i_reason hI) ckX6_reason lkL_27 ⟨Nat.le_of_ble_eq_true rfl, Nat.le_of_ble_eq_true rfl⟩ ⟨Nat.le_of_ble_eq_true rfl, Nat.le_of_ble_eq_true rfl⟩ rfl dL_law_202 rfl rfl (Nat.le_of_ble_eq_true rfl) (fun r y q => ?_)
  obtain ⟨z, rfl, q2⟩ := q
  refine g_aldn (M := mLaw) h.1 dL_law_205 rfl ?_
  refine g_callV (M := mLaw) (K := mX7_reason) (sh := (shX ++ shM)) (x := y) (c0 := 37) (As := []) (st := [.int z]) h.1 (by decide) q2 ckX7_reason lkL_30 ⟨Nat.le_of_ble_eq_true rfl, Nat.le_of_ble_eq_true rfl⟩ ⟨Nat.le_of_ble_eq_true rfl, Nat.le_of_ble_eq_true rfl⟩ rfl dL_law_206 rfl rfl (Nat.le_of_ble_eq_true rfl) (fun r w q => ?_)
  obtain ⟨z', rfl, q3, q4⟩ := q
  subst q3
  exact g_ic_eq (M := mLaw) (tgt := 900) h.1 dL_law_209 rfl (fun _ => nx w q4) (fun q => absurd rfl q)
theorem L_4 {i : Nat} {x0 : mj_X} (h : LB p s m meth c D ad cA h0 L xs) (hi : i + 5 ≤ L) (hI : Inv x0) (nx : ∀ z : mj_X, Inv z → gW p l e room_1 s m args below meth c D ad cA h0 Q0 4 (g_of z (shX ++ shM)) 55 4589 900 (lawls i) []) : gW p l e room_1 s m args below meth c D ad cA h0 Q0 4 (g_of x0 (shX ++ shM)) 55 4589 214 (lawls i) [] := by
  refine g_aldn (M := mLaw) h.1 dL_law_214 rfl ?_
  refine g_callV (M := mLaw) (K := mX6_lay) (sh := (shX ++ shM)) (x := x0) (c0 := 0) (As := []) (st := []) h.1 (by decide) (i_lay hI) ckX6_lay lkL_31 ⟨Nat.le_of_ble_eq_true rfl, Nat.le_of_ble_eq_true rfl⟩ ⟨Nat.le_of_ble_eq_true rfl, Nat.le_of_ble_eq_true rfl⟩ rfl dL_law_215 rfl rfl (Nat.le_of_ble_eq_true rfl) (fun r y q => ?_)
  obtain ⟨z, rfl, q2⟩ := q
  refine g_aldn (M := mLaw) h.1 dL_law_218 rfl ?_
  refine g_callV (M := mLaw) (K := mX7_lay) (sh := (shX ++ shM)) (x := y) (c0 := 37) (As := []) (st := [.int z]) h.1 (by decide) q2 ckX7_lay lkL_34 ⟨Nat.le_of_ble_eq_true rfl, Nat.le_of_ble_eq_true rfl⟩ ⟨Nat.le_of_ble_eq_true rfl, Nat.le_of_ble_eq_true rfl⟩ rfl dL_law_219 rfl rfl (Nat.le_of_ble_eq_true rfl) (fun r w q => ?_)
  obtain ⟨z', rfl, q3, q4⟩ := q
  subst q3
  exact g_ic_eq (M := mLaw) (tgt := 900) h.1 dL_law_222 rfl (fun _ => nx w q4) (fun q => absurd rfl q)
theorem L_5 {i : Nat} {x0 : mj_X} (h : LB p s m meth c D ad cA h0 L xs) (hi : i + 5 ≤ L) (hI : Inv x0) (nx : ∀ z : mj_X, Inv z → gW p l e room_1 s m args below meth c D ad cA h0 Q0 4 (g_of z (shX ++ shM)) 55 4589 900 (lawls i) []) : gW p l e room_1 s m args below meth c D ad cA h0 Q0 4 (g_of x0 (shX ++ shM)) 55 4589 227 (lawls i) [] := by
  refine g_aldn (M := mLaw) h.1 dL_law_227 rfl ?_
  refine g_arg (j := 1) h (by omega) (by decide) dL_law_228 dL_law_229 dL_law_230 dL_law_231 dL_law_232 ?_
  refine g_arg (j := 2) h (by omega) (by decide) dL_law_233 dL_law_234 dL_law_235 dL_law_236 dL_law_237 ?_
  refine g_callV (M := mLaw) (K := mX6_rule) (sh := (shX ++ shM)) (x := x0) (c0 := 0) (As := [.int (xs (i + 1)), .int (xs (i + 2))]) (st := []) h.1 (by decide) (i_rule hI _ _) ckX6_rule lkL_35 ⟨Nat.le_of_ble_eq_true rfl, Nat.le_of_ble_eq_true rfl⟩ ⟨Nat.le_of_ble_eq_true rfl, Nat.le_of_ble_eq_true rfl⟩ rfl dL_law_238 rfl rfl (Nat.le_of_ble_eq_true rfl) (fun r y q => ?_)
  obtain ⟨z, rfl, q2⟩ := q
  refine g_aldn (M := mLaw) h.1 dL_law_241 rfl ?_
  refine g_arg (j := 1) h (by omega) (by decide) dL_law_242 dL_law_243 dL_law_244 dL_law_245 dL_law_246 ?_
  refine g_arg (j := 2) h (by omega) (by decide) dL_law_247 dL_law_248 dL_law_249 dL_law_250 dL_law_251 ?_
  refine g_callV (M := mLaw) (K := mX7_rule) (sh := (shX ++ shM)) (x := y) (c0 := 37) (As := [.int (xs (i + 1)), .int (xs (i + 2))]) (st := [.int z]) h.1 (by decide) q2 ckX7_rule lkL_39 ⟨Nat.le_of_ble_eq_true rfl, Nat.le_of_ble_eq_true rfl⟩ ⟨Nat.le_of_ble_eq_true rfl, Nat.le_of_ble_eq_true rfl⟩ rfl dL_law_252 rfl rfl (Nat.le_of_ble_eq_true rfl) (fun r w q => ?_)
  obtain ⟨z', rfl, q3, q4⟩ := q
  subst q3
  exact g_ic_eq (M := mLaw) (tgt := 900) h.1 dL_law_255 rfl (fun _ => nx w q4) (fun q => absurd rfl q)
theorem L_6 {i : Nat} {x0 : mj_X} (h : LB p s m meth c D ad cA h0 L xs) (hi : i + 5 ≤ L) (hI : Inv x0) (nx : ∀ z : mj_X, Inv z → gW p l e room_1 s m args below meth c D ad cA h0 Q0 4 (g_of z (shX ++ shM)) 55 4589 900 (lawls i) []) : gW p l e room_1 s m args below meth c D ad cA h0 Q0 4 (g_of x0 (shX ++ shM)) 55 4589 260 (lawls i) [] := by
  refine g_aldn (M := mLaw) h.1 dL_law_260 rfl ?_
  refine g_arg (j := 1) h (by omega) (by decide) dL_law_261 dL_law_262 dL_law_263 dL_law_264 dL_law_265 ?_
  refine g_arg (j := 2) h (by omega) (by decide) dL_law_266 dL_law_267 dL_law_268 dL_law_269 dL_law_270 ?_
  refine g_callV (M := mLaw) (K := mX6_code) (sh := (shX ++ shM)) (x := x0) (c0 := 0) (As := [.int (xs (i + 1)), .int (xs (i + 2))]) (st := []) h.1 (by decide) (i_code hI _ _) ckX6_code lkL_40 ⟨Nat.le_of_ble_eq_true rfl, Nat.le_of_ble_eq_true rfl⟩ ⟨Nat.le_of_ble_eq_true rfl, Nat.le_of_ble_eq_true rfl⟩ rfl dL_law_271 rfl rfl (Nat.le_of_ble_eq_true rfl) (fun r y q => ?_)
  obtain ⟨z, rfl, q2⟩ := q
  refine g_aldn (M := mLaw) h.1 dL_law_274 rfl ?_
  refine g_arg (j := 1) h (by omega) (by decide) dL_law_275 dL_law_276 dL_law_277 dL_law_278 dL_law_279 ?_
  refine g_arg (j := 2) h (by omega) (by decide) dL_law_280 dL_law_281 dL_law_282 dL_law_283 dL_law_284 ?_
  refine g_callV (M := mLaw) (K := mX7_code) (sh := (shX ++ shM)) (x := y) (c0 := 37) (As := [.int (xs (i + 1)), .int (xs (i + 2))]) (st := [.int z]) h.1 (by decide) q2 ckX7_code lkL_43 ⟨Nat.le_of_ble_eq_true rfl, Nat.le_of_ble_eq_true rfl⟩ ⟨Nat.le_of_ble_eq_true rfl, Nat.le_of_ble_eq_true rfl⟩ rfl dL_law_285 rfl rfl (Nat.le_of_ble_eq_true rfl) (fun r w q => ?_)
  obtain ⟨z', rfl, q3, q4⟩ := q
  subst q3
  exact g_ic_eq (M := mLaw) (tgt := 900) h.1 dL_law_288 rfl (fun _ => nx w q4) (fun q => absurd rfl q)
theorem L_7 {i : Nat} {x0 : mj_X} (h : LB p s m meth c D ad cA h0 L xs) (hi : i + 5 ≤ L) (hI : Inv x0) (nx : ∀ z : mj_X, Inv z → gW p l e room_1 s m args below meth c D ad cA h0 Q0 4 (g_of z (shX ++ shM)) 55 4589 900 (lawls i) []) : gW p l e room_1 s m args below meth c D ad cA h0 Q0 4 (g_of x0 (shX ++ shM)) 55 4589 293 (lawls i) [] := by
  refine g_aldn (M := mLaw) h.1 dL_law_293 rfl ?_
  refine g_arg (j := 1) h (by omega) (by decide) dL_law_294 dL_law_295 dL_law_296 dL_law_297 dL_law_298 ?_
  refine g_callV (M := mLaw) (K := mX6_pass) (sh := (shX ++ shM)) (x := x0) (c0 := 0) (As := [.int (xs (i + 1))]) (st := []) h.1 (by decide) (i_pass hI _) ckX6_pass lkL_44 ⟨Nat.le_of_ble_eq_true rfl, Nat.le_of_ble_eq_true rfl⟩ ⟨Nat.le_of_ble_eq_true rfl, Nat.le_of_ble_eq_true rfl⟩ rfl dL_law_299 rfl rfl (Nat.le_of_ble_eq_true rfl) (fun r y q => ?_)
  obtain ⟨z, rfl, q2⟩ := q
  refine g_aldn (M := mLaw) h.1 dL_law_302 rfl ?_
  refine g_arg (j := 1) h (by omega) (by decide) dL_law_303 dL_law_304 dL_law_305 dL_law_306 dL_law_307 ?_
  refine g_callV (M := mLaw) (K := mX7_pass) (sh := (shX ++ shM)) (x := y) (c0 := 37) (As := [.int (xs (i + 1))]) (st := [.int z]) h.1 (by decide) q2 ckX7_pass lkL_47 ⟨Nat.le_of_ble_eq_true rfl, Nat.le_of_ble_eq_true rfl⟩ ⟨Nat.le_of_ble_eq_true rfl, Nat.le_of_ble_eq_true rfl⟩ rfl dL_law_308 rfl rfl (Nat.le_of_ble_eq_true rfl) (fun r w q => ?_)
  obtain ⟨z', rfl, q3, q4⟩ := q
  subst q3
  exact g_ic_eq (M := mLaw) (tgt := 900) h.1 dL_law_311 rfl (fun _ => nx w q4) (fun q => absurd rfl q)
theorem L_8 {i : Nat} {x0 : mj_X} (h : LB p s m meth c D ad cA h0 L xs) (hi : i + 5 ≤ L) (hI : Inv x0) (nx : ∀ z : mj_X, Inv z → gW p l e room_1 s m args below meth c D ad cA h0 Q0 4 (g_of z (shX ++ shM)) 55 4589 900 (lawls i) []) : gW p l e room_1 s m args below meth c D ad cA h0 Q0 4 (g_of x0 (shX ++ shM)) 55 4589 316 (lawls i) [] := by
  refine g_aldn (M := mLaw) h.1 dL_law_316 rfl ?_
  refine g_arg (j := 1) h (by omega) (by decide) dL_law_317 dL_law_318 dL_law_319 dL_law_320 dL_law_321 ?_
  refine g_arg (j := 2) h (by omega) (by decide) dL_law_322 dL_law_323 dL_law_324 dL_law_325 dL_law_326 ?_
  refine g_arg (j := 3) h (by omega) (by decide) dL_law_327 dL_law_328 dL_law_329 dL_law_330 dL_law_331 ?_
  refine g_arg (j := 4) h (by omega) (by decide) dL_law_332 dL_law_333 dL_law_334 dL_law_335 dL_law_336 ?_
  refine g_callV (M := mLaw) (K := mX6_convict) (sh := (shX ++ shM)) (x := x0) (c0 := 0) (As := [.int (xs (i + 1)), .int (xs (i + 2)), .int (xs (i + 3)), .int (xs (i + 4))]) (st := []) h.1 (by decide) (i_convict hI _ _ _ _) ckX6_convict lkL_48 ⟨Nat.le_of_ble_eq_true rfl, Nat.le_of_ble_eq_true rfl⟩ ⟨Nat.le_of_ble_eq_true rfl, Nat.le_of_ble_eq_true rfl⟩ rfl dL_law_337 rfl rfl (Nat.le_of_ble_eq_true rfl) (fun r y q => ?_)
  obtain ⟨z, rfl, q2⟩ := q
  refine g_aldn (M := mLaw) h.1 dL_law_340 rfl ?_
  refine g_arg (j := 1) h (by omega) (by decide) dL_law_341 dL_law_342 dL_law_343 dL_law_344 dL_law_345 ?_
  refine g_arg (j := 2) h (by omega) (by decide) dL_law_346 dL_law_347 dL_law_348 dL_law_349 dL_law_350 ?_
  refine g_arg (j := 3) h (by omega) (by decide) dL_law_351 dL_law_352 dL_law_353 dL_law_354 dL_law_355 ?_
  refine g_arg (j := 4) h (by omega) (by decide) dL_law_356 dL_law_357 dL_law_358 dL_law_359 dL_law_360 ?_
  refine g_callV (M := mLaw) (K := mX7_convict) (sh := (shX ++ shM)) (x := y) (c0 := 37) (As := [.int (xs (i + 1)), .int (xs (i + 2)), .int (xs (i + 3)), .int (xs (i + 4))]) (st := [.int z]) h.1 (by decide) q2 ckX7_convict lkL_52 ⟨Nat.le_of_ble_eq_true rfl, Nat.le_of_ble_eq_true rfl⟩ ⟨Nat.le_of_ble_eq_true rfl, Nat.le_of_ble_eq_true rfl⟩ rfl dL_law_361 rfl rfl (Nat.le_of_ble_eq_true rfl) (fun r w q => ?_)
  obtain ⟨z', rfl, q3, q4⟩ := q
  subst q3
  exact g_ic_eq (M := mLaw) (tgt := 900) h.1 dL_law_364 rfl (fun _ => nx w q4) (fun q => absurd rfl q)
theorem L_9 {i : Nat} {x0 : mj_X} (h : LB p s m meth c D ad cA h0 L xs) (hi : i + 5 ≤ L) (hI : Inv x0) (nx : ∀ z : mj_X, Inv z → gW p l e room_1 s m args below meth c D ad cA h0 Q0 4 (g_of z (shX ++ shM)) 55 4589 900 (lawls i) []) : gW p l e room_1 s m args below meth c D ad cA h0 Q0 4 (g_of x0 (shX ++ shM)) 55 4589 369 (lawls i) [] := by
  refine g_aldn (M := mLaw) h.1 dL_law_369 rfl ?_
  refine g_arg (j := 1) h (by omega) (by decide) dL_law_370 dL_law_371 dL_law_372 dL_law_373 dL_law_374 ?_
  refine g_arg (j := 2) h (by omega) (by decide) dL_law_375 dL_law_376 dL_law_377 dL_law_378 dL_law_379 ?_
  refine g_callV (M := mLaw) (K := mX6_course) (sh := (shX ++ shM)) (x := x0) (c0 := 0) (As := [.int (xs (i + 1)), .int (xs (i + 2))]) (st := []) h.1 (by decide) (i_course hI _ _) ckX6_course lkL_53 ⟨Nat.le_of_ble_eq_true rfl, Nat.le_of_ble_eq_true rfl⟩ ⟨Nat.le_of_ble_eq_true rfl, Nat.le_of_ble_eq_true rfl⟩ rfl dL_law_380 rfl rfl (Nat.le_of_ble_eq_true rfl) (fun r y q => ?_)
  obtain ⟨z, rfl, q2⟩ := q
  refine g_aldn (M := mLaw) h.1 dL_law_383 rfl ?_
  refine g_arg (j := 1) h (by omega) (by decide) dL_law_384 dL_law_385 dL_law_386 dL_law_387 dL_law_388 ?_
  refine g_arg (j := 2) h (by omega) (by decide) dL_law_389 dL_law_390 dL_law_391 dL_law_392 dL_law_393 ?_
  refine g_callV (M := mLaw) (K := mX7_course) (sh := (shX ++ shM)) (x := y) (c0 := 37) (As := [.int (xs (i + 1)), .int (xs (i + 2))]) (st := [.int z]) h.1 (by decide) q2 ckX7_course lkL_56 ⟨Nat.le_of_ble_eq_true rfl, Nat.le_of_ble_eq_true rfl⟩ ⟨Nat.le_of_ble_eq_true rfl, Nat.le_of_ble_eq_true rfl⟩ rfl dL_law_394 rfl rfl (Nat.le_of_ble_eq_true rfl) (fun r w q => ?_)
  obtain ⟨z', rfl, q3, q4⟩ := q
  subst q3
  exact g_ic_eq (M := mLaw) (tgt := 900) h.1 dL_law_397 rfl (fun _ => nx w q4) (fun q => absurd rfl q)
theorem L_10 {i : Nat} {x0 : mj_X} (h : LB p s m meth c D ad cA h0 L xs) (hi : i + 5 ≤ L) (hI : Inv x0) (nx : ∀ z : mj_X, Inv z → gW p l e room_1 s m args below meth c D ad cA h0 Q0 4 (g_of z (shX ++ shM)) 55 4589 900 (lawls i) []) : gW p l e room_1 s m args below meth c D ad cA h0 Q0 4 (g_of x0 (shX ++ shM)) 55 4589 402 (lawls i) [] := by
  refine g_aldn (M := mLaw) h.1 dL_law_402 rfl ?_
  refine g_arg (j := 1) h (by omega) (by decide) dL_law_403 dL_law_404 dL_law_405 dL_law_406 dL_law_407 ?_
  refine g_callV (M := mLaw) (K := mX6_strike) (sh := (shX ++ shM)) (x := x0) (c0 := 0) (As := [.int (xs (i + 1))]) (st := []) h.1 (by decide) (i_strike hI _) ckX6_strike lkL_57 ⟨Nat.le_of_ble_eq_true rfl, Nat.le_of_ble_eq_true rfl⟩ ⟨Nat.le_of_ble_eq_true rfl, Nat.le_of_ble_eq_true rfl⟩ rfl dL_law_408 rfl rfl (Nat.le_of_ble_eq_true rfl) (fun r y q => ?_)
  obtain ⟨z, rfl, q2⟩ := q
  refine g_aldn (M := mLaw) h.1 dL_law_411 rfl ?_
  refine g_arg (j := 1) h (by omega) (by decide) dL_law_412 dL_law_413 dL_law_414 dL_law_415 dL_law_416 ?_
  refine g_callV (M := mLaw) (K := mX7_strike) (sh := (shX ++ shM)) (x := y) (c0 := 37) (As := [.int (xs (i + 1))]) (st := [.int z]) h.1 (by decide) q2 ckX7_strike lkL_60 ⟨Nat.le_of_ble_eq_true rfl, Nat.le_of_ble_eq_true rfl⟩ ⟨Nat.le_of_ble_eq_true rfl, Nat.le_of_ble_eq_true rfl⟩ rfl dL_law_417 rfl rfl (Nat.le_of_ble_eq_true rfl) (fun r w q => ?_)
  obtain ⟨z', rfl, q3, q4⟩ := q
  subst q3
  exact g_ic_eq (M := mLaw) (tgt := 900) h.1 dL_law_420 rfl (fun _ => nx w q4) (fun q => absurd rfl q)
theorem L_11 {i : Nat} {x0 : mj_X} (h : LB p s m meth c D ad cA h0 L xs) (hi : i + 5 ≤ L) (hI : Inv x0) (nx : ∀ z : mj_X, Inv z → gW p l e room_1 s m args below meth c D ad cA h0 Q0 4 (g_of z (shX ++ shM)) 55 4589 900 (lawls i) []) : gW p l e room_1 s m args below meth c D ad cA h0 Q0 4 (g_of x0 (shX ++ shM)) 55 4589 425 (lawls i) [] := by
  refine g_aldn (M := mLaw) h.1 dL_law_425 rfl ?_
  refine g_arg (j := 1) h (by omega) (by decide) dL_law_426 dL_law_427 dL_law_428 dL_law_429 dL_law_430 ?_
  refine g_arg (j := 2) h (by omega) (by decide) dL_law_431 dL_law_432 dL_law_433 dL_law_434 dL_law_435 ?_
  refine g_callV (M := mLaw) (K := mX6_lower) (sh := (shX ++ shM)) (x := x0) (c0 := 0) (As := [.int (xs (i + 1)), .int (xs (i + 2))]) (st := []) h.1 (by decide) (i_lower hI _ _) ckX6_lower lkL_61 ⟨Nat.le_of_ble_eq_true rfl, Nat.le_of_ble_eq_true rfl⟩ ⟨Nat.le_of_ble_eq_true rfl, Nat.le_of_ble_eq_true rfl⟩ rfl dL_law_436 rfl rfl (Nat.le_of_ble_eq_true rfl) (fun r y q => ?_)
  obtain ⟨z, rfl, q2⟩ := q
  refine g_aldn (M := mLaw) h.1 dL_law_439 rfl ?_
  refine g_arg (j := 1) h (by omega) (by decide) dL_law_440 dL_law_441 dL_law_442 dL_law_443 dL_law_444 ?_
  refine g_arg (j := 2) h (by omega) (by decide) dL_law_445 dL_law_446 dL_law_447 dL_law_448 dL_law_449 ?_
  refine g_callV (M := mLaw) (K := mX7_lower) (sh := (shX ++ shM)) (x := y) (c0 := 37) (As := [.int (xs (i + 1)), .int (xs (i + 2))]) (st := [.int z]) h.1 (by decide) q2 ckX7_lower lkL_64 ⟨Nat.le_of_ble_eq_true rfl, Nat.le_of_ble_eq_true rfl⟩ ⟨Nat.le_of_ble_eq_true rfl, Nat.le_of_ble_eq_true rfl⟩ rfl dL_law_450 rfl rfl (Nat.le_of_ble_eq_true rfl) (fun r w q => ?_)
  obtain ⟨z', rfl, q3, q4⟩ := q
  subst q3
  exact g_ic_eq (M := mLaw) (tgt := 900) h.1 dL_law_453 rfl (fun _ => nx w q4) (fun q => absurd rfl q)
theorem L_12 {i : Nat} {x0 : mj_X} (h : LB p s m meth c D ad cA h0 L xs) (hi : i + 5 ≤ L) (hI : Inv x0) (nx : ∀ z : mj_X, Inv z → gW p l e room_1 s m args below meth c D ad cA h0 Q0 4 (g_of z (shX ++ shM)) 55 4589 900 (lawls i) []) : gW p l e room_1 s m args below meth c D ad cA h0 Q0 4 (g_of x0 (shX ++ shM)) 55 4589 458 (lawls i) [] := by
  refine g_aldn (M := mLaw) h.1 dL_law_458 rfl ?_
  refine g_arg (j := 1) h (by omega) (by decide) dL_law_459 dL_law_460 dL_law_461 dL_law_462 dL_law_463 ?_
  refine g_arg (j := 2) h (by omega) (by decide) dL_law_464 dL_law_465 dL_law_466 dL_law_467 dL_law_468 ?_
  refine g_callV (M := mLaw) (K := mX6_redate) (sh := (shX ++ shM)) (x := x0) (c0 := 0) (As := [.int (xs (i + 1)), .int (xs (i + 2))]) (st := []) h.1 (by decide) (i_redate hI _ _) ckX6_redate lkL_65 ⟨Nat.le_of_ble_eq_true rfl, Nat.le_of_ble_eq_true rfl⟩ ⟨Nat.le_of_ble_eq_true rfl, Nat.le_of_ble_eq_true rfl⟩ rfl dL_law_469 rfl rfl (Nat.le_of_ble_eq_true rfl) (fun r y q => ?_)
  obtain ⟨z, rfl, q2⟩ := q
  refine g_aldn (M := mLaw) h.1 dL_law_472 rfl ?_
  refine g_arg (j := 1) h (by omega) (by decide) dL_law_473 dL_law_474 dL_law_475 dL_law_476 dL_law_477 ?_
  refine g_arg (j := 2) h (by omega) (by decide) dL_law_478 dL_law_479 dL_law_480 dL_law_481 dL_law_482 ?_
  refine g_callV (M := mLaw) (K := mX7_redate) (sh := (shX ++ shM)) (x := y) (c0 := 37) (As := [.int (xs (i + 1)), .int (xs (i + 2))]) (st := [.int z]) h.1 (by decide) q2 ckX7_redate lkL_68 ⟨Nat.le_of_ble_eq_true rfl, Nat.le_of_ble_eq_true rfl⟩ ⟨Nat.le_of_ble_eq_true rfl, Nat.le_of_ble_eq_true rfl⟩ rfl dL_law_483 rfl rfl (Nat.le_of_ble_eq_true rfl) (fun r w q => ?_)
  obtain ⟨z', rfl, q3, q4⟩ := q
  subst q3
  exact g_ic_eq (M := mLaw) (tgt := 900) h.1 dL_law_486 rfl (fun _ => nx w q4) (fun q => absurd rfl q)
theorem L_13 {i : Nat} {x0 : mj_X} (h : LB p s m meth c D ad cA h0 L xs) (hi : i + 5 ≤ L) (hI : Inv x0) (nx : ∀ z : mj_X, Inv z → gW p l e room_1 s m args below meth c D ad cA h0 Q0 4 (g_of z (shX ++ shM)) 55 4589 900 (lawls i) []) : gW p l e room_1 s m args below meth c D ad cA h0 Q0 4 (g_of x0 (shX ++ shM)) 55 4589 491 (lawls i) [] := by
  refine g_aldn (M := mLaw) h.1 dL_law_491 rfl ?_
  refine g_arg (j := 1) h (by omega) (by decide) dL_law_492 dL_law_493 dL_law_494 dL_law_495 dL_law_496 ?_
  refine g_callV (M := mLaw) (K := mX6_excuse) (sh := (shX ++ shM)) (x := x0) (c0 := 0) (As := [.int (xs (i + 1))]) (st := []) h.1 (by decide) (i_excuse hI _) ckX6_excuse lkL_69 ⟨Nat.le_of_ble_eq_true rfl, Nat.le_of_ble_eq_true rfl⟩ ⟨Nat.le_of_ble_eq_true rfl, Nat.le_of_ble_eq_true rfl⟩ rfl dL_law_497 rfl rfl (Nat.le_of_ble_eq_true rfl) (fun r y q => ?_)
  obtain ⟨z, rfl, q2⟩ := q
  refine g_aldn (M := mLaw) h.1 dL_law_500 rfl ?_
  refine g_arg (j := 1) h (by omega) (by decide) dL_law_501 dL_law_502 dL_law_503 dL_law_504 dL_law_505 ?_
  refine g_callV (M := mLaw) (K := mX7_excuse) (sh := (shX ++ shM)) (x := y) (c0 := 37) (As := [.int (xs (i + 1))]) (st := [.int z]) h.1 (by decide) q2 ckX7_excuse lkL_72 ⟨Nat.le_of_ble_eq_true rfl, Nat.le_of_ble_eq_true rfl⟩ ⟨Nat.le_of_ble_eq_true rfl, Nat.le_of_ble_eq_true rfl⟩ rfl dL_law_506 rfl rfl (Nat.le_of_ble_eq_true rfl) (fun r w q => ?_)
  obtain ⟨z', rfl, q3, q4⟩ := q
  subst q3
  exact g_ic_eq (M := mLaw) (tgt := 900) h.1 dL_law_509 rfl (fun _ => nx w q4) (fun q => absurd rfl q)
theorem L_14 {i : Nat} {x0 : mj_X} (h : LB p s m meth c D ad cA h0 L xs) (hi : i + 5 ≤ L) (hI : Inv x0) (nx : ∀ z : mj_X, Inv z → gW p l e room_1 s m args below meth c D ad cA h0 Q0 4 (g_of z (shX ++ shM)) 55 4589 900 (lawls i) []) : gW p l e room_1 s m args below meth c D ad cA h0 Q0 4 (g_of x0 (shX ++ shM)) 55 4589 514 (lawls i) [] := by
  refine g_aldn (M := mLaw) h.1 dL_law_514 rfl ?_
  refine g_callV (M := mLaw) (K := mX6_undo) (sh := (shX ++ shM)) (x := x0) (c0 := 0) (As := []) (st := []) h.1 (by decide) (i_undo hI) ckX6_undo lkL_73 ⟨Nat.le_of_ble_eq_true rfl, Nat.le_of_ble_eq_true rfl⟩ ⟨Nat.le_of_ble_eq_true rfl, Nat.le_of_ble_eq_true rfl⟩ rfl dL_law_515 rfl rfl (Nat.le_of_ble_eq_true rfl) (fun r y q => ?_)
  obtain ⟨z, rfl, q2⟩ := q
  refine g_aldn (M := mLaw) h.1 dL_law_518 rfl ?_
  refine g_callV (M := mLaw) (K := mX7_undo) (sh := (shX ++ shM)) (x := y) (c0 := 37) (As := []) (st := [.int z]) h.1 (by decide) q2 ckX7_undo lkL_76 ⟨Nat.le_of_ble_eq_true rfl, Nat.le_of_ble_eq_true rfl⟩ ⟨Nat.le_of_ble_eq_true rfl, Nat.le_of_ble_eq_true rfl⟩ rfl dL_law_519 rfl rfl (Nat.le_of_ble_eq_true rfl) (fun r w q => ?_)
  obtain ⟨z', rfl, q3, q4⟩ := q
  subst q3
  exact g_ic_eq (M := mLaw) (tgt := 900) h.1 dL_law_522 rfl (fun _ => nx w q4) (fun q => absurd rfl q)
theorem L_15 {i : Nat} {x0 : mj_X} (h : LB p s m meth c D ad cA h0 L xs) (hi : i + 5 ≤ L) (hI : Inv x0) (nx : ∀ z : mj_X, Inv z → gW p l e room_1 s m args below meth c D ad cA h0 Q0 4 (g_of z (shX ++ shM)) 55 4589 900 (lawls i) []) : gW p l e room_1 s m args below meth c D ad cA h0 Q0 4 (g_of x0 (shX ++ shM)) 55 4589 527 (lawls i) [] := by
  refine g_aldn (M := mLaw) h.1 dL_law_527 rfl ?_
  refine g_arg (j := 1) h (by omega) (by decide) dL_law_528 dL_law_529 dL_law_530 dL_law_531 dL_law_532 ?_
  refine g_arg (j := 2) h (by omega) (by decide) dL_law_533 dL_law_534 dL_law_535 dL_law_536 dL_law_537 ?_
  refine g_callV (M := mLaw) (K := mX6_year) (sh := (shX ++ shM)) (x := x0) (c0 := 0) (As := [.int (xs (i + 1)), .int (xs (i + 2))]) (st := []) h.1 (by decide) (i_year hI _ _) ckX6_year lkL_77 ⟨Nat.le_of_ble_eq_true rfl, Nat.le_of_ble_eq_true rfl⟩ ⟨Nat.le_of_ble_eq_true rfl, Nat.le_of_ble_eq_true rfl⟩ rfl dL_law_538 rfl rfl (Nat.le_of_ble_eq_true rfl) (fun r y q => ?_)
  obtain ⟨z, rfl, q2⟩ := q
  refine g_aldn (M := mLaw) h.1 dL_law_541 rfl ?_
  refine g_arg (j := 1) h (by omega) (by decide) dL_law_542 dL_law_543 dL_law_544 dL_law_545 dL_law_546 ?_
  refine g_arg (j := 2) h (by omega) (by decide) dL_law_547 dL_law_548 dL_law_549 dL_law_550 dL_law_551 ?_
  refine g_callV (M := mLaw) (K := mX7_year) (sh := (shX ++ shM)) (x := y) (c0 := 37) (As := [.int (xs (i + 1)), .int (xs (i + 2))]) (st := [.int z]) h.1 (by decide) q2 ckX7_year lkL_80 ⟨Nat.le_of_ble_eq_true rfl, Nat.le_of_ble_eq_true rfl⟩ ⟨Nat.le_of_ble_eq_true rfl, Nat.le_of_ble_eq_true rfl⟩ rfl dL_law_552 rfl rfl (Nat.le_of_ble_eq_true rfl) (fun r w q => ?_)
  obtain ⟨z', rfl, q3, q4⟩ := q
  subst q3
  exact g_ic_eq (M := mLaw) (tgt := 900) h.1 dL_law_555 rfl (fun _ => nx w q4) (fun q => absurd rfl q)
theorem L_16 {i : Nat} {x0 : mj_X} (h : LB p s m meth c D ad cA h0 L xs) (hi : i + 5 ≤ L) (hI : Inv x0) (nx : ∀ z : mj_X, Inv z → gW p l e room_1 s m args below meth c D ad cA h0 Q0 4 (g_of z (shX ++ shM)) 55 4589 900 (lawls i) []) : gW p l e room_1 s m args below meth c D ad cA h0 Q0 4 (g_of x0 (shX ++ shM)) 55 4589 560 (lawls i) [] := by
  refine g_aldn (M := mLaw) h.1 dL_law_560 rfl ?_
  refine g_arg (j := 1) h (by omega) (by decide) dL_law_561 dL_law_562 dL_law_563 dL_law_564 dL_law_565 ?_
  refine g_arg (j := 2) h (by omega) (by decide) dL_law_566 dL_law_567 dL_law_568 dL_law_569 dL_law_570 ?_
  refine g_callV (M := mLaw) (K := mX6_event) (sh := (shX ++ shM)) (x := x0) (c0 := 0) (As := [.int (xs (i + 1)), .int (xs (i + 2))]) (st := []) h.1 (by decide) (i_event hI _ _) ckX6_event lkL_81 ⟨Nat.le_of_ble_eq_true rfl, Nat.le_of_ble_eq_true rfl⟩ ⟨Nat.le_of_ble_eq_true rfl, Nat.le_of_ble_eq_true rfl⟩ rfl dL_law_571 rfl rfl (Nat.le_of_ble_eq_true rfl) (fun r y q => ?_)
  obtain ⟨z, rfl, q2⟩ := q
  refine g_aldn (M := mLaw) h.1 dL_law_574 rfl ?_
  refine g_arg (j := 1) h (by omega) (by decide) dL_law_575 dL_law_576 dL_law_577 dL_law_578 dL_law_579 ?_
  refine g_arg (j := 2) h (by omega) (by decide) dL_law_580 dL_law_581 dL_law_582 dL_law_583 dL_law_584 ?_
  refine g_callV (M := mLaw) (K := mX7_event) (sh := (shX ++ shM)) (x := y) (c0 := 37) (As := [.int (xs (i + 1)), .int (xs (i + 2))]) (st := [.int z]) h.1 (by decide) q2 ckX7_event lkL_84 ⟨Nat.le_of_ble_eq_true rfl, Nat.le_of_ble_eq_true rfl⟩ ⟨Nat.le_of_ble_eq_true rfl, Nat.le_of_ble_eq_true rfl⟩ rfl dL_law_585 rfl rfl (Nat.le_of_ble_eq_true rfl) (fun r w q => ?_)
  obtain ⟨z', rfl, q3, q4⟩ := q
  subst q3
  exact g_ic_eq (M := mLaw) (tgt := 900) h.1 dL_law_588 rfl (fun _ => nx w q4) (fun q => absurd rfl q)
theorem L_17 {i : Nat} {x0 : mj_X} (h : LB p s m meth c D ad cA h0 L xs) (hi : i + 5 ≤ L) (hI : Inv x0) (nx : ∀ z : mj_X, Inv z → gW p l e room_1 s m args below meth c D ad cA h0 Q0 4 (g_of z (shX ++ shM)) 55 4589 900 (lawls i) []) : gW p l e room_1 s m args below meth c D ad cA h0 Q0 4 (g_of x0 (shX ++ shM)) 55 4589 593 (lawls i) [] := by
  refine g_aldn (M := mLaw) h.1 dL_law_593 rfl ?_
  refine g_arg (j := 1) h (by omega) (by decide) dL_law_594 dL_law_595 dL_law_596 dL_law_597 dL_law_598 ?_
  refine g_arg (j := 2) h (by omega) (by decide) dL_law_599 dL_law_600 dL_law_601 dL_law_602 dL_law_603 ?_
  refine g_callV (M := mLaw) (K := mX6_sum) (sh := (shX ++ shM)) (x := x0) (c0 := 0) (As := [.int (xs (i + 1)), .int (xs (i + 2))]) (st := []) h.1 (by decide) (i_sum hI _ _) ckX6_sum lkL_85 ⟨Nat.le_of_ble_eq_true rfl, Nat.le_of_ble_eq_true rfl⟩ ⟨Nat.le_of_ble_eq_true rfl, Nat.le_of_ble_eq_true rfl⟩ rfl dL_law_604 rfl rfl (Nat.le_of_ble_eq_true rfl) (fun r y q => ?_)
  obtain ⟨z, rfl, q2⟩ := q
  refine g_aldn (M := mLaw) h.1 dL_law_607 rfl ?_
  refine g_arg (j := 1) h (by omega) (by decide) dL_law_608 dL_law_609 dL_law_610 dL_law_611 dL_law_612 ?_
  refine g_arg (j := 2) h (by omega) (by decide) dL_law_613 dL_law_614 dL_law_615 dL_law_616 dL_law_617 ?_
  refine g_callV (M := mLaw) (K := mX7_sum) (sh := (shX ++ shM)) (x := y) (c0 := 37) (As := [.int (xs (i + 1)), .int (xs (i + 2))]) (st := [.int z]) h.1 (by decide) q2 ckX7_sum lkL_88 ⟨Nat.le_of_ble_eq_true rfl, Nat.le_of_ble_eq_true rfl⟩ ⟨Nat.le_of_ble_eq_true rfl, Nat.le_of_ble_eq_true rfl⟩ rfl dL_law_618 rfl rfl (Nat.le_of_ble_eq_true rfl) (fun r w q => ?_)
  obtain ⟨z', rfl, q3, q4⟩ := q
  subst q3
  exact g_ic_eq (M := mLaw) (tgt := 900) h.1 dL_law_621 rfl (fun _ => nx w q4) (fun q => absurd rfl q)
theorem L_18 {i : Nat} {x0 : mj_X} (h : LB p s m meth c D ad cA h0 L xs) (hi : i + 5 ≤ L) (hI : Inv x0) (nx : ∀ z : mj_X, Inv z → gW p l e room_1 s m args below meth c D ad cA h0 Q0 4 (g_of z (shX ++ shM)) 55 4589 900 (lawls i) []) : gW p l e room_1 s m args below meth c D ad cA h0 Q0 4 (g_of x0 (shX ++ shM)) 55 4589 626 (lawls i) [] := by
  refine g_aldn (M := mLaw) h.1 dL_law_626 rfl ?_
  refine g_arg (j := 1) h (by omega) (by decide) dL_law_627 dL_law_628 dL_law_629 dL_law_630 dL_law_631 ?_
  refine g_callV (M := mLaw) (K := mX6_need) (sh := (shX ++ shM)) (x := x0) (c0 := 0) (As := [.int (xs (i + 1))]) (st := []) h.1 (by decide) (i_need hI _) ckX6_need lkL_89 ⟨Nat.le_of_ble_eq_true rfl, Nat.le_of_ble_eq_true rfl⟩ ⟨Nat.le_of_ble_eq_true rfl, Nat.le_of_ble_eq_true rfl⟩ rfl dL_law_632 rfl rfl (Nat.le_of_ble_eq_true rfl) (fun r y q => ?_)
  obtain ⟨z, rfl, q2⟩ := q
  refine g_aldn (M := mLaw) h.1 dL_law_635 rfl ?_
  refine g_arg (j := 1) h (by omega) (by decide) dL_law_636 dL_law_637 dL_law_638 dL_law_639 dL_law_640 ?_
  refine g_callV (M := mLaw) (K := mX7_need) (sh := (shX ++ shM)) (x := y) (c0 := 37) (As := [.int (xs (i + 1))]) (st := [.int z]) h.1 (by decide) q2 ckX7_need lkL_92 ⟨Nat.le_of_ble_eq_true rfl, Nat.le_of_ble_eq_true rfl⟩ ⟨Nat.le_of_ble_eq_true rfl, Nat.le_of_ble_eq_true rfl⟩ rfl dL_law_641 rfl rfl (Nat.le_of_ble_eq_true rfl) (fun r w q => ?_)
  obtain ⟨z', rfl, q3, q4⟩ := q
  subst q3
  exact g_ic_eq (M := mLaw) (tgt := 900) h.1 dL_law_644 rfl (fun _ => nx w q4) (fun q => absurd rfl q)
theorem L_19 {i : Nat} {x0 : mj_X} (h : LB p s m meth c D ad cA h0 L xs) (hi : i + 5 ≤ L) (hI : Inv x0) (nx : ∀ z : mj_X, Inv z → gW p l e room_1 s m args below meth c D ad cA h0 Q0 4 (g_of z (shX ++ shM)) 55 4589 900 (lawls i) []) : gW p l e room_1 s m args below meth c D ad cA h0 Q0 4 (g_of x0 (shX ++ shM)) 55 4589 649 (lawls i) [] := by
  refine g_aldn (M := mLaw) h.1 dL_law_649 rfl ?_
  refine g_arg (j := 1) h (by omega) (by decide) dL_law_650 dL_law_651 dL_law_652 dL_law_653 dL_law_654 ?_
  refine g_arg (j := 2) h (by omega) (by decide) dL_law_655 dL_law_656 dL_law_657 dL_law_658 dL_law_659 ?_
  refine g_arg (j := 3) h (by omega) (by decide) dL_law_660 dL_law_661 dL_law_662 dL_law_663 dL_law_664 ?_
  refine g_callV (M := mLaw) (K := mX6_would) (sh := (shX ++ shM)) (x := x0) (c0 := 0) (As := [.int (xs (i + 1)), .int (xs (i + 2)), .int (xs (i + 3))]) (st := []) h.1 (by decide) (i_would hI _ _ _) ckX6_would lkL_93 ⟨Nat.le_of_ble_eq_true rfl, Nat.le_of_ble_eq_true rfl⟩ ⟨Nat.le_of_ble_eq_true rfl, Nat.le_of_ble_eq_true rfl⟩ rfl dL_law_665 rfl rfl (Nat.le_of_ble_eq_true rfl) (fun r y q => ?_)
  obtain ⟨z, rfl, q2⟩ := q
  refine g_aldn (M := mLaw) h.1 dL_law_668 rfl ?_
  refine g_arg (j := 1) h (by omega) (by decide) dL_law_669 dL_law_670 dL_law_671 dL_law_672 dL_law_673 ?_
  refine g_arg (j := 2) h (by omega) (by decide) dL_law_674 dL_law_675 dL_law_676 dL_law_677 dL_law_678 ?_
  refine g_arg (j := 3) h (by omega) (by decide) dL_law_679 dL_law_680 dL_law_681 dL_law_682 dL_law_683 ?_
  refine g_callV (M := mLaw) (K := mX7_would) (sh := (shX ++ shM)) (x := y) (c0 := 37) (As := [.int (xs (i + 1)), .int (xs (i + 2)), .int (xs (i + 3))]) (st := [.int z]) h.1 (by decide) q2 ckX7_would lkL_97 ⟨Nat.le_of_ble_eq_true rfl, Nat.le_of_ble_eq_true rfl⟩ ⟨Nat.le_of_ble_eq_true rfl, Nat.le_of_ble_eq_true rfl⟩ rfl dL_law_684 rfl rfl (Nat.le_of_ble_eq_true rfl) (fun r w q => ?_)
  obtain ⟨z', rfl, q3, q4⟩ := q
  subst q3
  exact g_ic_eq (M := mLaw) (tgt := 900) h.1 dL_law_687 rfl (fun _ => nx w q4) (fun q => absurd rfl q)
theorem L_20 {i : Nat} {x0 : mj_X} (h : LB p s m meth c D ad cA h0 L xs) (hi : i + 5 ≤ L) (hI : Inv x0) (nx : ∀ z : mj_X, Inv z → gW p l e room_1 s m args below meth c D ad cA h0 Q0 4 (g_of z (shX ++ shM)) 55 4589 900 (lawls i) []) : gW p l e room_1 s m args below meth c D ad cA h0 Q0 4 (g_of x0 (shX ++ shM)) 55 4589 692 (lawls i) [] := by
  refine g_aldn (M := mLaw) h.1 dL_law_692 rfl ?_
  refine g_arg (j := 1) h (by omega) (by decide) dL_law_693 dL_law_694 dL_law_695 dL_law_696 dL_law_697 ?_
  refine g_arg (j := 2) h (by omega) (by decide) dL_law_698 dL_law_699 dL_law_700 dL_law_701 dL_law_702 ?_
  refine g_callV (M := mLaw) (K := mX6_banned) (sh := (shX ++ shM)) (x := x0) (c0 := 0) (As := [.int (xs (i + 1)), .int (xs (i + 2))]) (st := []) h.1 (by decide) (i_banned hI _ _) ckX6_banned lkL_98 ⟨Nat.le_of_ble_eq_true rfl, Nat.le_of_ble_eq_true rfl⟩ ⟨Nat.le_of_ble_eq_true rfl, Nat.le_of_ble_eq_true rfl⟩ rfl dL_law_703 rfl rfl (Nat.le_of_ble_eq_true rfl) (fun r y q => ?_)
  obtain ⟨z, rfl, q2⟩ := q
  refine g_aldn (M := mLaw) h.1 dL_law_706 rfl ?_
  refine g_arg (j := 1) h (by omega) (by decide) dL_law_707 dL_law_708 dL_law_709 dL_law_710 dL_law_711 ?_
  refine g_arg (j := 2) h (by omega) (by decide) dL_law_712 dL_law_713 dL_law_714 dL_law_715 dL_law_716 ?_
  refine g_callV (M := mLaw) (K := mX7_banned) (sh := (shX ++ shM)) (x := y) (c0 := 37) (As := [.int (xs (i + 1)), .int (xs (i + 2))]) (st := [.int z]) h.1 (by decide) q2 ckX7_banned lkL_101 ⟨Nat.le_of_ble_eq_true rfl, Nat.le_of_ble_eq_true rfl⟩ ⟨Nat.le_of_ble_eq_true rfl, Nat.le_of_ble_eq_true rfl⟩ rfl dL_law_717 rfl rfl (Nat.le_of_ble_eq_true rfl) (fun r w q => ?_)
  obtain ⟨z', rfl, q3, q4⟩ := q
  subst q3
  exact g_ic_eq (M := mLaw) (tgt := 900) h.1 dL_law_720 rfl (fun _ => nx w q4) (fun q => absurd rfl q)
theorem L_21 {i : Nat} {x0 : mj_X} (h : LB p s m meth c D ad cA h0 L xs) (hi : i + 5 ≤ L) (hI : Inv x0) (nx : ∀ z : mj_X, Inv z → gW p l e room_1 s m args below meth c D ad cA h0 Q0 4 (g_of z (shX ++ shM)) 55 4589 900 (lawls i) []) : gW p l e room_1 s m args below meth c D ad cA h0 Q0 4 (g_of x0 (shX ++ shM)) 55 4589 725 (lawls i) [] := by
  refine g_aldn (M := mLaw) h.1 dL_law_725 rfl ?_
  refine g_arg (j := 1) h (by omega) (by decide) dL_law_726 dL_law_727 dL_law_728 dL_law_729 dL_law_730 ?_
  refine g_arg (j := 2) h (by omega) (by decide) dL_law_731 dL_law_732 dL_law_733 dL_law_734 dL_law_735 ?_
  refine g_arg (j := 3) h (by omega) (by decide) dL_law_736 dL_law_737 dL_law_738 dL_law_739 dL_law_740 ?_
  refine g_callV (M := mLaw) (K := mX6_days) (sh := (shX ++ shM)) (x := x0) (c0 := 0) (As := [.int (xs (i + 1)), .int (xs (i + 2)), .int (xs (i + 3))]) (st := []) h.1 (by decide) (i_days hI _ _ _) ckX6_days lkL_102 ⟨Nat.le_of_ble_eq_true rfl, Nat.le_of_ble_eq_true rfl⟩ ⟨Nat.le_of_ble_eq_true rfl, Nat.le_of_ble_eq_true rfl⟩ rfl dL_law_741 rfl rfl (Nat.le_of_ble_eq_true rfl) (fun r y q => ?_)
  obtain ⟨z, rfl, q2⟩ := q
  refine g_aldn (M := mLaw) h.1 dL_law_744 rfl ?_
  refine g_arg (j := 1) h (by omega) (by decide) dL_law_745 dL_law_746 dL_law_747 dL_law_748 dL_law_749 ?_
  refine g_arg (j := 2) h (by omega) (by decide) dL_law_750 dL_law_751 dL_law_752 dL_law_753 dL_law_754 ?_
  refine g_arg (j := 3) h (by omega) (by decide) dL_law_755 dL_law_756 dL_law_757 dL_law_758 dL_law_759 ?_
  refine g_callV (M := mLaw) (K := mX7_days) (sh := (shX ++ shM)) (x := y) (c0 := 37) (As := [.int (xs (i + 1)), .int (xs (i + 2)), .int (xs (i + 3))]) (st := [.int z]) h.1 (by decide) q2 ckX7_days lkL_105 ⟨Nat.le_of_ble_eq_true rfl, Nat.le_of_ble_eq_true rfl⟩ ⟨Nat.le_of_ble_eq_true rfl, Nat.le_of_ble_eq_true rfl⟩ rfl dL_law_760 rfl rfl (Nat.le_of_ble_eq_true rfl) (fun r w q => ?_)
  obtain ⟨z', rfl, q3, q4⟩ := q
  subst q3
  exact g_ic_eq (M := mLaw) (tgt := 900) h.1 dL_law_763 rfl (fun _ => nx w q4) (fun q => absurd rfl q)
theorem L_22 {i : Nat} {x0 : mj_X} (h : LB p s m meth c D ad cA h0 L xs) (hi : i + 5 ≤ L) (hI : Inv x0) (nx : ∀ z : mj_X, Inv z → gW p l e room_1 s m args below meth c D ad cA h0 Q0 4 (g_of z (shX ++ shM)) 55 4589 900 (lawls i) []) : gW p l e room_1 s m args below meth c D ad cA h0 Q0 4 (g_of x0 (shX ++ shM)) 55 4589 768 (lawls i) [] := by
  refine g_aldn (M := mLaw) h.1 dL_law_768 rfl ?_
  refine g_arg (j := 1) h (by omega) (by decide) dL_law_769 dL_law_770 dL_law_771 dL_law_772 dL_law_773 ?_
  refine g_callV (M := mLaw) (K := mX6_free) (sh := (shX ++ shM)) (x := x0) (c0 := 0) (As := [.int (xs (i + 1))]) (st := []) h.1 (by decide) (i_free hI _) ckX6_free lkL_106 ⟨Nat.le_of_ble_eq_true rfl, Nat.le_of_ble_eq_true rfl⟩ ⟨Nat.le_of_ble_eq_true rfl, Nat.le_of_ble_eq_true rfl⟩ rfl dL_law_774 rfl rfl (Nat.le_of_ble_eq_true rfl) (fun r y q => ?_)
  obtain ⟨z, rfl, q2⟩ := q
  refine g_aldn (M := mLaw) h.1 dL_law_777 rfl ?_
  refine g_arg (j := 1) h (by omega) (by decide) dL_law_778 dL_law_779 dL_law_780 dL_law_781 dL_law_782 ?_
  refine g_callV (M := mLaw) (K := mX7_free) (sh := (shX ++ shM)) (x := y) (c0 := 37) (As := [.int (xs (i + 1))]) (st := [.int z]) h.1 (by decide) q2 ckX7_free lkL_109 ⟨Nat.le_of_ble_eq_true rfl, Nat.le_of_ble_eq_true rfl⟩ ⟨Nat.le_of_ble_eq_true rfl, Nat.le_of_ble_eq_true rfl⟩ rfl dL_law_783 rfl rfl (Nat.le_of_ble_eq_true rfl) (fun r w q => ?_)
  obtain ⟨z', rfl, q3, q4⟩ := q
  subst q3
  exact g_ic_eq (M := mLaw) (tgt := 900) h.1 dL_law_786 rfl (fun _ => nx w q4) (fun q => absurd rfl q)
theorem L_23 {i : Nat} {x0 : mj_X} (h : LB p s m meth c D ad cA h0 L xs) (hi : i + 5 ≤ L) (hI : Inv x0) (nx : ∀ z : mj_X, Inv z → gW p l e room_1 s m args below meth c D ad cA h0 Q0 4 (g_of z (shX ++ shM)) 55 4589 900 (lawls i) []) : gW p l e room_1 s m args below meth c D ad cA h0 Q0 4 (g_of x0 (shX ++ shM)) 55 4589 791 (lawls i) [] := by
  refine g_aldn (M := mLaw) h.1 dL_law_791 rfl ?_
  refine g_arg (j := 1) h (by omega) (by decide) dL_law_792 dL_law_793 dL_law_794 dL_law_795 dL_law_796 ?_
  refine g_arg (j := 2) h (by omega) (by decide) dL_law_797 dL_law_798 dL_law_799 dL_law_800 dL_law_801 ?_
  refine g_arg (j := 3) h (by omega) (by decide) dL_law_802 dL_law_803 dL_law_804 dL_law_805 dL_law_806 ?_
  refine g_callV (M := mLaw) (K := mX6_ban) (sh := (shX ++ shM)) (x := x0) (c0 := 0) (As := [.int (xs (i + 1)), .int (xs (i + 2)), .int (xs (i + 3))]) (st := []) h.1 (by decide) (i_ban hI _ _ _) ckX6_ban lkL_110 ⟨Nat.le_of_ble_eq_true rfl, Nat.le_of_ble_eq_true rfl⟩ ⟨Nat.le_of_ble_eq_true rfl, Nat.le_of_ble_eq_true rfl⟩ rfl dL_law_807 rfl rfl (Nat.le_of_ble_eq_true rfl) (fun r y q => ?_)
  obtain ⟨z, rfl, q2⟩ := q
  refine g_aldn (M := mLaw) h.1 dL_law_810 rfl ?_
  refine g_arg (j := 1) h (by omega) (by decide) dL_law_811 dL_law_812 dL_law_813 dL_law_814 dL_law_815 ?_
  refine g_arg (j := 2) h (by omega) (by decide) dL_law_816 dL_law_817 dL_law_818 dL_law_819 dL_law_820 ?_
  refine g_arg (j := 3) h (by omega) (by decide) dL_law_821 dL_law_822 dL_law_823 dL_law_824 dL_law_825 ?_
  refine g_callV (M := mLaw) (K := mX7_ban) (sh := (shX ++ shM)) (x := y) (c0 := 37) (As := [.int (xs (i + 1)), .int (xs (i + 2)), .int (xs (i + 3))]) (st := [.int z]) h.1 (by decide) q2 ckX7_ban lkL_113 ⟨Nat.le_of_ble_eq_true rfl, Nat.le_of_ble_eq_true rfl⟩ ⟨Nat.le_of_ble_eq_true rfl, Nat.le_of_ble_eq_true rfl⟩ rfl dL_law_826 rfl rfl (Nat.le_of_ble_eq_true rfl) (fun r w q => ?_)
  obtain ⟨z', rfl, q3, q4⟩ := q
  subst q3
  exact g_ic_eq (M := mLaw) (tgt := 900) h.1 dL_law_829 rfl (fun _ => nx w q4) (fun q => absurd rfl q)
theorem L_24 {i : Nat} {x0 : mj_X} (h : LB p s m meth c D ad cA h0 L xs) (hi : i + 5 ≤ L) (hI : Inv x0) (nx : ∀ z : mj_X, Inv z → gW p l e room_1 s m args below meth c D ad cA h0 Q0 4 (g_of z (shX ++ shM)) 55 4589 900 (lawls i) []) : gW p l e room_1 s m args below meth c D ad cA h0 Q0 4 (g_of x0 (shX ++ shM)) 55 4589 834 (lawls i) [] := by
  refine g_aldn (M := mLaw) h.1 dL_law_834 rfl ?_
  refine g_arg (j := 1) h (by omega) (by decide) dL_law_835 dL_law_836 dL_law_837 dL_law_838 dL_law_839 ?_
  refine g_arg (j := 2) h (by omega) (by decide) dL_law_840 dL_law_841 dL_law_842 dL_law_843 dL_law_844 ?_
  refine g_arg (j := 3) h (by omega) (by decide) dL_law_845 dL_law_846 dL_law_847 dL_law_848 dL_law_849 ?_
  refine g_callV (M := mLaw) (K := mX6_seen) (sh := (shX ++ shM)) (x := x0) (c0 := 0) (As := [.int (xs (i + 1)), .int (xs (i + 2)), .int (xs (i + 3))]) (st := []) h.1 (by decide) (i_seen hI _ _ _) ckX6_seen lkL_114 ⟨Nat.le_of_ble_eq_true rfl, Nat.le_of_ble_eq_true rfl⟩ ⟨Nat.le_of_ble_eq_true rfl, Nat.le_of_ble_eq_true rfl⟩ rfl dL_law_850 rfl rfl (Nat.le_of_ble_eq_true rfl) (fun r y q => ?_)
  obtain ⟨z, rfl, q2⟩ := q
  refine g_aldn (M := mLaw) h.1 dL_law_853 rfl ?_
  refine g_arg (j := 1) h (by omega) (by decide) dL_law_854 dL_law_855 dL_law_856 dL_law_857 dL_law_858 ?_
  refine g_arg (j := 2) h (by omega) (by decide) dL_law_859 dL_law_860 dL_law_861 dL_law_862 dL_law_863 ?_
  refine g_arg (j := 3) h (by omega) (by decide) dL_law_864 dL_law_865 dL_law_866 dL_law_867 dL_law_868 ?_
  refine g_callV (M := mLaw) (K := mX7_seen) (sh := (shX ++ shM)) (x := y) (c0 := 37) (As := [.int (xs (i + 1)), .int (xs (i + 2)), .int (xs (i + 3))]) (st := [.int z]) h.1 (by decide) q2 ckX7_seen lkL_117 ⟨Nat.le_of_ble_eq_true rfl, Nat.le_of_ble_eq_true rfl⟩ ⟨Nat.le_of_ble_eq_true rfl, Nat.le_of_ble_eq_true rfl⟩ rfl dL_law_869 rfl rfl (Nat.le_of_ble_eq_true rfl) (fun r w q => ?_)
  obtain ⟨z', rfl, q3, q4⟩ := q
  subst q3
  exact g_ic_eq (M := mLaw) (tgt := 900) h.1 dL_law_872 rfl (fun _ => nx w q4) (fun q => absurd rfl q)
theorem L_25 {i : Nat} {x0 : mj_X} (h : LB p s m meth c D ad cA h0 L xs) (hi : i + 5 ≤ L) (hI : Inv x0) (nx : ∀ z : mj_X, Inv z → gW p l e room_1 s m args below meth c D ad cA h0 Q0 4 (g_of z (shX ++ shM)) 55 4589 900 (lawls i) []) : gW p l e room_1 s m args below meth c D ad cA h0 Q0 4 (g_of x0 (shX ++ shM)) 55 4589 877 (lawls i) [] := by
  refine g_aldn (M := mLaw) h.1 dL_law_877 rfl ?_
  refine g_arg (j := 1) h (by omega) (by decide) dL_law_878 dL_law_879 dL_law_880 dL_law_881 dL_law_882 ?_
  refine g_callV (M := mLaw) (K := mX6_count) (sh := (shX ++ shM)) (x := x0) (c0 := 0) (As := [.int (xs (i + 1))]) (st := []) h.1 (by decide) (i_count hI _) ckX6_count lkL_118 ⟨Nat.le_of_ble_eq_true rfl, Nat.le_of_ble_eq_true rfl⟩ ⟨Nat.le_of_ble_eq_true rfl, Nat.le_of_ble_eq_true rfl⟩ rfl dL_law_883 rfl rfl (Nat.le_of_ble_eq_true rfl) (fun r y q => ?_)
  obtain ⟨z, rfl, q2⟩ := q
  refine g_aldn (M := mLaw) h.1 dL_law_886 rfl ?_
  refine g_arg (j := 1) h (by omega) (by decide) dL_law_887 dL_law_888 dL_law_889 dL_law_890 dL_law_891 ?_
  refine g_callV (M := mLaw) (K := mX7_count) (sh := (shX ++ shM)) (x := y) (c0 := 37) (As := [.int (xs (i + 1))]) (st := [.int z]) h.1 (by decide) q2 ckX7_count lkL_121 ⟨Nat.le_of_ble_eq_true rfl, Nat.le_of_ble_eq_true rfl⟩ ⟨Nat.le_of_ble_eq_true rfl, Nat.le_of_ble_eq_true rfl⟩ rfl dL_law_892 rfl rfl (Nat.le_of_ble_eq_true rfl) (fun r w q => ?_)
  obtain ⟨z', rfl, q3, q4⟩ := q
  subst q3
  exact g_ic_eq (M := mLaw) (tgt := 900) h.1 dL_law_895 rfl (fun _ => nx w q4) (fun q => absurd rfl q)
end LAWC
