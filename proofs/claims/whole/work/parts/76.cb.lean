section CSLC
variable {p : Program} {l : Launch} {e : Env} {s : State} {m : MethodId} {b : Nat} {below : List Frame} {meth : Method} {c : Code} {Q : State → Prop} {L : Nat} {xs : Nat → Int32} {D : va_G} {cy : Nat → ClassId}
set_option maxHeartbeats 4000000 in
set_option maxRecDepth 100000 in
theorem lw_c_define (hlf : l.stackTraces = false) (C0 : cs_C p l s m c b L xs D cy) {i a0 cells slots : Nat} {S : cs_St} {th : Int32} {ad bd : Nat → Nat} {o9 : Nat} {f : Nat → Int64} {H : Heap} {locs : List Loc} {ls : Array Slot} (hi : i + 7 ≤ L) (hc : cells + 5 ≤ 601024) (hs : slots + 32 ≤ 7293034) (hok : cs_okk S) (had : ad 0 = a0) (hLS : cs_LS D s H locs S th ad bd o9 f cy) (hl : lv_has ls 7 [(0, .ref b), (1, .ref a0), (2, .ref (bd 0)), (3, .ref o9), (4, .int (nI i))]) (kk : cs_KK p l e s m b below meth c Q D cy bd o9 a0 i (cells + 5) (slots + 32)) : W p l e room_1 s m #[.ref b] below meth c H locs cells slots Q (F0 m 152 ls []) := by
  have hS := hok.1
  have C1 := C0
  obtain ⟨hx, hb, hml, -, hown, hts, -, -, -, hE, hn, hz0, hK⟩ := C1
  subst had
  obtain ⟨hP, hD, hS9⟩ := hLS
  have hPl : va_P D vwCl (cs_O o9 f S ad cy) H := cs_PL hP
  have hDl : va_D (fun q => s.heap.size ≤ q) (cs_O o9 f S ad cy) := cs_DL hD
  have hF : ∀ q, va_A (cs_O o9 f S ad cy) H.size q → (fun q => s.heap.size ≤ q) q := cs_inL hD hS9 (fun _ h => h)
  have hz : cs_zz (va_A (cs_O o9 f S ad cy) H.size) s H := (hz0.kept (fun a h1 h2 => hS9.2.1 a h1 h2)).narrow hF
  refine lv_aload_n hx hb dL_law_152 rfl (lv_at hl 1 rfl) ?_
  refine cs_rd C0 hS9 hl 0 4 rfl rfl 1 (jj := 1) hi (by decide) (by decide) dL_law_153 dL_law_154 dL_law_156 dL_law_157 dL_law_158 ?_
  refine cs_rd C0 hS9 hl 0 4 rfl rfl 2 (jj := 2) hi (by decide) (by decide) dL_law_159 dL_law_160 dL_law_162 dL_law_163 dL_law_164 ?_
  refine cs_rd C0 hS9 hl 0 4 rfl rfl 3 (jj := 3) hi (by decide) (by decide) dL_law_165 dL_law_166 dL_law_168 dL_law_169 dL_law_170 ?_
  refine cs_rdz C0 hS9 hl 0 4 rfl rfl 4 (jj := 4) hi (by decide) (by decide) dL_law_171 dL_law_172 dL_law_174 dL_law_175 dL_law_176 dL_law_177 dL_law_180 dL_law_181 dL_law_184 ?_
  refine cs_rdz C0 hS9 hl 0 4 rfl rfl 5 (jj := 5) hi (by decide) (by decide) dL_law_185 dL_law_186 dL_law_188 dL_law_189 dL_law_190 dL_law_191 dL_law_194 dL_law_195 dL_law_198 ?_
  refine cs_rd6 C0 hS9 hl 0 4 rfl rfl 6 (jj := 6) hi (by decide) (by decide) dL_law_199 dL_law_200 dL_law_202 dL_law_204 dL_law_205 ?_
  refine lv_aload_n hx hb dL_law_206 rfl (lv_at hl 3 rfl) ?_
  refine cs_wcalli (vx_runSW (As := [.ref (ad 0), .int (xs (i + 1)), .int (xs (i + 2)), .int (xs (i + 3)), .int (cs_z (decide (xs (i + 4) ≠ 0))), .int (cs_z (decide (xs (i + 5) ≠ 0))), .int (xs (i + 6)), .ref o9]) (rest := []) ⟨hx, hb, hml, hown, hts⟩ (k_L_define l hlf D S ad cy o9 f H.size hS (xs (i + 1)) (xs (i + 2)) (xs (i + 3)) (decide (xs (i + 4) ≠ 0)) (decide (xs (i + 5) ≠ 0)) (xs (i + 6))) (vx_cwSW 8 hts gL_law_L_define rfl rfl rfl (by decide +kernel) ⟨(Nat.le_of_ble_eq_true rfl), (Nat.le_of_ble_eq_true rfl)⟩) ⟨cs_Bl.blind, cs_Bl.at hn hE hz hPl hK hDl⟩ rfl rfl hl.1 rfl (lv_room (Nat.le_of_ble_eq_true rfl)) dL_law_207 ⟨by show cells + 5 ≤ 601024; omega, by show slots + 32 ≤ 7293034; omega⟩) hS9 hF (fun r9 u9 H locs hp hP1 hD1 hz1 hk1 hS9 => ?_)
  obtain ⟨⟨rfl, hv⟩, hu⟩ := hp
  obtain ⟨hP, hD⟩ := cs_joinL hP hD hk1 hF hP1 hD1
  refine lv_istore (lv' := [(5, .int (cs_kDef S (xs (i + 1)) (xs (i + 2)) (xs (i + 3)) (xs (i + 6)))), (0, .ref b), (1, .ref (ad 0)), (2, .ref (bd 0)), (3, .ref o9), (4, .int (nI i))]) hx hb dL_law_210 hl (by decide) rfl (fun ls hl => ?_)
  refine lv_aload_n hx hb dL_law_212 rfl (lv_at hl 3 rfl) ?_
  refine cs_rd C0 hS9 hl 1 5 rfl rfl 1 (jj := 1) hi (by decide) (by decide) dL_law_213 dL_law_214 dL_law_216 dL_law_217 dL_law_218 ?_
  refine cs_rd C0 hS9 hl 1 5 rfl rfl 2 (jj := 2) hi (by decide) (by decide) dL_law_219 dL_law_220 dL_law_222 dL_law_223 dL_law_224 ?_
  refine cs_rd C0 hS9 hl 1 5 rfl rfl 3 (jj := 3) hi (by decide) (by decide) dL_law_225 dL_law_226 dL_law_228 dL_law_229 dL_law_230 ?_
  refine cs_rdz C0 hS9 hl 1 5 rfl rfl 4 (jj := 4) hi (by decide) (by decide) dL_law_231 dL_law_232 dL_law_234 dL_law_235 dL_law_236 dL_law_237 dL_law_240 dL_law_241 dL_law_244 ?_
  refine cs_rdz C0 hS9 hl 1 5 rfl rfl 5 (jj := 5) hi (by decide) (by decide) dL_law_245 dL_law_246 dL_law_248 dL_law_249 dL_law_250 dL_law_251 dL_law_254 dL_law_255 dL_law_258 ?_
  refine cs_rd6 C0 hS9 hl 1 5 rfl rfl 6 (jj := 6) hi (by decide) (by decide) dL_law_259 dL_law_260 dL_law_262 dL_law_264 dL_law_265 ?_
  have hPR := cs_PR hP
  have hDR := cs_DR hD
  have hF2 : ∀ q, va_A (cs_R S th bd cy) H.size q → (fun q => s.heap.size ≤ q) q := cs_inR hD hS9 (fun _ h => h)
  refine cs_wcalli (va_runV (As := [.int (xs (i + 1)), .int (xs (i + 2)), .int (xs (i + 3)), .int (cs_z (decide (xs (i + 4) ≠ 0))), .int (cs_z (decide (xs (i + 5) ≠ 0))), .int (xs (i + 6))]) (rest := []) ⟨hx, hb, hml, hown, hts⟩ (k_X2_define l D S th bd cy H.size hS (xs (i + 1)) (xs (i + 2)) (xs (i + 3)) (decide (xs (i + 4) ≠ 0)) (decide (xs (i + 5) ≠ 0)) (xs (i + 6))) (cwV 6 hts gL_law_X2_define rfl rfl rfl (by decide +kernel) ⟨(Nat.le_of_ble_eq_true rfl), (Nat.le_of_ble_eq_true rfl)⟩) ⟨cs_Bw.blind, va_recv hK hPR (ci := 2) (q0 := 0) rfl rfl, cs_Bw.at hE hPR hK hDR⟩ rfl rfl hl.1 rfl (lv_room (Nat.le_of_ble_eq_true rfl)) dL_law_266 ⟨by show cells + 5 + 0 ≤ 601024; omega, by show slots + 32 + 0 ≤ 7293034; omega⟩) hS9 hF2 (fun r8 u8 H locs hp hP1 hD1 hz1 hk1 hS9 => ?_)
  obtain ⟨hP, hD⟩ := cs_joinR hP hD hk1 hF2 hP1 hD1
  refine lv_istore (lv' := [(6, .int r8), (5, .int (cs_kDef S (xs (i + 1)) (xs (i + 2)) (xs (i + 3)) (xs (i + 6)))), (0, .ref b), (1, .ref (ad 0)), (2, .ref (bd 0)), (3, .ref o9), (4, .int (nI i))]) hx hb dL_law_269 hl (by decide) rfl (fun ls hl => ?_)
  refine cs_tl C0 hP hl (fun h => by rw [hv h, hp h]) (by omega) (by omega) dL_law_271 dL_law_272 dL_law_275 dL_law_277 dL_law_282 dL_law_284 dL_law_287 dL_law_288 dL_law_289 dL_law_290 dL_law_292 dL_law_293 dL_law_294 dL_law_299 (by decide) ?_
  refine W.widen (k := cells + 5) (n := slots + 32) (by omega) (by omega) ?_
  exact kk (cs_sDef S (xs (i + 1)) (xs (i + 2)) (xs (i + 3)) (decide (xs (i + 4) ≠ 0)) (decide (xs (i + 5) ≠ 0)) (xs (i + 6))) (cs_kDef S (xs (i + 1)) (xs (i + 2)) (xs (i + 3)) (xs (i + 6))) u9.2 u9.1 H locs ls (cs_okk_def hok (xs (i + 1)) (xs (i + 2)) (xs (i + 3)) (decide (xs (i + 4) ≠ 0)) (decide (xs (i + 5) ≠ 0)) (xs (i + 6))) hu ⟨hP, hD, hS9⟩ (lv_sub hl [2, 3, 4, 5, 6] rfl)
set_option maxHeartbeats 4000000 in
set_option maxRecDepth 100000 in
theorem lw_c_multiply (hlf : l.stackTraces = false) (C0 : cs_C p l s m c b L xs D cy) {i a0 cells slots : Nat} {S : cs_St} {th : Int32} {ad bd : Nat → Nat} {o9 : Nat} {f : Nat → Int64} {H : Heap} {locs : List Loc} {ls : Array Slot} (hi : i + 7 ≤ L) (hc : cells + 5 ≤ 601024) (hs : slots + 32 ≤ 7293034) (hok : cs_okk S) (had : ad 0 = a0) (hLS : cs_LS D s H locs S th ad bd o9 f cy) (hl : lv_has ls 7 [(0, .ref b), (1, .ref a0), (2, .ref (bd 0)), (3, .ref o9), (4, .int (nI i))]) (kk : cs_KK p l e s m b below meth c Q D cy bd o9 a0 i (cells + 5) (slots + 32)) : W p l e room_1 s m #[.ref b] below meth c H locs cells slots Q (F0 m 371 ls []) := by
  have hS := hok.1
  have C1 := C0
  obtain ⟨hx, hb, hml, -, hown, hts, -, -, -, hE, hn, hz0, hK⟩ := C1
  subst had
  obtain ⟨hP, hD, hS9⟩ := hLS
  have hPl : va_P D vwCl (cs_O o9 f S ad cy) H := cs_PL hP
  have hDl : va_D (fun q => s.heap.size ≤ q) (cs_O o9 f S ad cy) := cs_DL hD
  have hF : ∀ q, va_A (cs_O o9 f S ad cy) H.size q → (fun q => s.heap.size ≤ q) q := cs_inL hD hS9 (fun _ h => h)
  have hz : cs_zz (va_A (cs_O o9 f S ad cy) H.size) s H := (hz0.kept (fun a h1 h2 => hS9.2.1 a h1 h2)).narrow hF
  refine lv_aload_n hx hb dL_law_371 rfl (lv_at hl 1 rfl) ?_
  refine cs_rd C0 hS9 hl 0 4 rfl rfl 1 (jj := 1) hi (by decide) (by decide) dL_law_372 dL_law_373 dL_law_375 dL_law_376 dL_law_377 ?_
  refine cs_rd C0 hS9 hl 0 4 rfl rfl 2 (jj := 2) hi (by decide) (by decide) dL_law_378 dL_law_379 dL_law_381 dL_law_382 dL_law_383 ?_
  refine cs_rd C0 hS9 hl 0 4 rfl rfl 3 (jj := 3) hi (by decide) (by decide) dL_law_384 dL_law_385 dL_law_387 dL_law_388 dL_law_389 ?_
  refine lv_aload_n hx hb dL_law_390 rfl (lv_at hl 3 rfl) ?_
  refine cs_wcalli (vx_runSW (As := [.ref (ad 0), .int (xs (i + 1)), .int (xs (i + 2)), .int (xs (i + 3)), .ref o9]) (rest := []) ⟨hx, hb, hml, hown, hts⟩ (k_L_multiply l hlf D S ad cy o9 f H.size hS (xs (i + 1)) (xs (i + 2)) (xs (i + 3))) (vx_cwSW 5 hts gL_law_L_multiply rfl rfl rfl (by decide +kernel) ⟨(Nat.le_of_ble_eq_true rfl), (Nat.le_of_ble_eq_true rfl)⟩) ⟨cs_Bl.blind, cs_Bl.at hn hE hz hPl hK hDl⟩ rfl rfl hl.1 rfl (lv_room (Nat.le_of_ble_eq_true rfl)) dL_law_391 ⟨by show cells + 3 ≤ 601024; omega, by show slots + 18 ≤ 7293034; omega⟩) hS9 hF (fun r9 u9 H locs hp hP1 hD1 hz1 hk1 hS9 => ?_)
  obtain ⟨rfl, hv⟩ := hp
  obtain ⟨hP, hD⟩ := cs_joinL hP hD hk1 hF hP1 hD1
  refine lv_istore (lv' := [(5, .int (cs_kMul S (xs (i + 1)) (xs (i + 2)) (xs (i + 3)))), (0, .ref b), (1, .ref (ad 0)), (2, .ref (bd 0)), (3, .ref o9), (4, .int (nI i))]) hx hb dL_law_394 hl (by decide) rfl (fun ls hl => ?_)
  refine lv_aload_n hx hb dL_law_396 rfl (lv_at hl 3 rfl) ?_
  refine cs_rd C0 hS9 hl 1 5 rfl rfl 1 (jj := 1) hi (by decide) (by decide) dL_law_397 dL_law_398 dL_law_400 dL_law_401 dL_law_402 ?_
  refine cs_rd C0 hS9 hl 1 5 rfl rfl 2 (jj := 2) hi (by decide) (by decide) dL_law_403 dL_law_404 dL_law_406 dL_law_407 dL_law_408 ?_
  refine cs_rd C0 hS9 hl 1 5 rfl rfl 3 (jj := 3) hi (by decide) (by decide) dL_law_409 dL_law_410 dL_law_412 dL_law_413 dL_law_414 ?_
  have hPR := cs_PR hP
  have hDR := cs_DR hD
  have hF2 : ∀ q, va_A (cs_R S th bd cy) H.size q → (fun q => s.heap.size ≤ q) q := cs_inR hD hS9 (fun _ h => h)
  refine cs_wcalli (va_runV (As := [.int (xs (i + 1)), .int (xs (i + 2)), .int (xs (i + 3))]) (rest := []) ⟨hx, hb, hml, hown, hts⟩ (k_X2_multiply l D S th bd cy H.size hS (xs (i + 1)) (xs (i + 2)) (xs (i + 3))) (cwV 3 hts gL_law_X2_multiply rfl rfl rfl (by decide +kernel) ⟨(Nat.le_of_ble_eq_true rfl), (Nat.le_of_ble_eq_true rfl)⟩) ⟨cs_Bw.blind, va_recv hK hPR (ci := 2) (q0 := 0) rfl rfl, cs_Bw.at hE hPR hK hDR⟩ rfl rfl hl.1 rfl (lv_room (Nat.le_of_ble_eq_true rfl)) dL_law_415 ⟨by show cells + 3 + 0 ≤ 601024; omega, by show slots + 18 + 0 ≤ 7293034; omega⟩) hS9 hF2 (fun r8 u8 H locs hp hP1 hD1 hz1 hk1 hS9 => ?_)
  obtain ⟨hP, hD⟩ := cs_joinR hP hD hk1 hF2 hP1 hD1
  refine lv_istore (lv' := [(6, .int r8), (5, .int (cs_kMul S (xs (i + 1)) (xs (i + 2)) (xs (i + 3)))), (0, .ref b), (1, .ref (ad 0)), (2, .ref (bd 0)), (3, .ref o9), (4, .int (nI i))]) hx hb dL_law_418 hl (by decide) rfl (fun ls hl => ?_)
  refine cs_tl C0 hP hl (fun h => by rw [hv h, hp h]) (by omega) (by omega) dL_law_420 dL_law_421 dL_law_424 dL_law_426 dL_law_431 dL_law_433 dL_law_436 dL_law_437 dL_law_438 dL_law_439 dL_law_441 dL_law_442 dL_law_443 dL_law_448 (by decide) ?_
  refine W.widen (k := cells + 5) (n := slots + 32) (by omega) (by omega) ?_
  exact kk S (cs_kMul S (xs (i + 1)) (xs (i + 2)) (xs (i + 3))) ad u9 H locs ls hok rfl ⟨hP, hD, hS9⟩ (lv_sub hl [2, 3, 4, 5, 6] rfl)
set_option maxHeartbeats 4000000 in
set_option maxRecDepth 100000 in
theorem lw_c_power (hlf : l.stackTraces = false) (C0 : cs_C p l s m c b L xs D cy) {i a0 cells slots : Nat} {S : cs_St} {th : Int32} {ad bd : Nat → Nat} {o9 : Nat} {f : Nat → Int64} {H : Heap} {locs : List Loc} {ls : Array Slot} (hi : i + 7 ≤ L) (hc : cells + 5 ≤ 601024) (hs : slots + 32 ≤ 7293034) (hok : cs_okk S) (had : ad 0 = a0) (hLS : cs_LS D s H locs S th ad bd o9 f cy) (hl : lv_has ls 7 [(0, .ref b), (1, .ref a0), (2, .ref (bd 0)), (3, .ref o9), (4, .int (nI i))]) (kk : cs_KK p l e s m b below meth c Q D cy bd o9 a0 i (cells + 5) (slots + 32)) : W p l e room_1 s m #[.ref b] below meth c H locs cells slots Q (F0 m 451 ls []) := by
  have hS := hok.1
  have C1 := C0
  obtain ⟨hx, hb, hml, -, hown, hts, -, -, -, hE, hn, hz0, hK⟩ := C1
  subst had
  obtain ⟨hP, hD, hS9⟩ := hLS
  have hPl : va_P D vwCl (cs_O o9 f S ad cy) H := cs_PL hP
  have hDl : va_D (fun q => s.heap.size ≤ q) (cs_O o9 f S ad cy) := cs_DL hD
  have hF : ∀ q, va_A (cs_O o9 f S ad cy) H.size q → (fun q => s.heap.size ≤ q) q := cs_inL hD hS9 (fun _ h => h)
  have hz : cs_zz (va_A (cs_O o9 f S ad cy) H.size) s H := (hz0.kept (fun a h1 h2 => hS9.2.1 a h1 h2)).narrow hF
  refine lv_aload_n hx hb dL_law_451 rfl (lv_at hl 1 rfl) ?_
  refine cs_rd C0 hS9 hl 0 4 rfl rfl 1 (jj := 1) hi (by decide) (by decide) dL_law_452 dL_law_453 dL_law_455 dL_law_456 dL_law_457 ?_
  refine cs_rd C0 hS9 hl 0 4 rfl rfl 2 (jj := 2) hi (by decide) (by decide) dL_law_458 dL_law_459 dL_law_461 dL_law_462 dL_law_463 ?_
  refine lv_i2l (v := (xs (i + 2)).toInt64) hx hb dL_law_464 rfl ?_
  refine lv_bipush (v := 32) hx hb dL_law_465 (by decide) ?_
  refine lv_lshl hx hb dL_law_467 rfl ?_
  refine cs_rd C0 hS9 hl 0 4 rfl rfl 3 (jj := 3) hi (by decide) (by decide) dL_law_468 dL_law_469 dL_law_471 dL_law_472 dL_law_473 ?_
  refine lv_i2l (v := (xs (i + 3)).toInt64) hx hb dL_law_474 rfl ?_
  refine lv_ldc2 (v := 4294967295) hx hb hown (hts (.constantLong RL 116 4294967295) (by decide +kernel)) dL_law_475 ?_
  refine lv_land hx hb dL_law_478 ?_
  refine lv_lor hx hb dL_law_479 ?_
  refine lv_aload_n hx hb dL_law_480 rfl (lv_at hl 3 rfl) ?_
  refine cs_wcalli (vx_runSW (As := [.ref (ad 0), .int (xs (i + 1)), .long (((xs (i + 2)).toInt64 <<< ((32 : Int32).toInt64 &&& 63)) ||| ((xs (i + 3)).toInt64 &&& 4294967295)), .ref o9]) (rest := []) ⟨hx, hb, hml, hown, hts⟩ (k_L_power l hlf D S ad cy o9 f H.size hS (xs (i + 1)) (((xs (i + 2)).toInt64 <<< ((32 : Int32).toInt64 &&& 63)) ||| ((xs (i + 3)).toInt64 &&& 4294967295))) (vx_cwSW 4 hts gL_law_L_power rfl rfl rfl (by decide +kernel) ⟨(Nat.le_of_ble_eq_true rfl), (Nat.le_of_ble_eq_true rfl)⟩) ⟨cs_Bl.blind, cs_Bl.at hn hE hz hPl hK hDl⟩ rfl rfl hl.1 rfl (lv_room (Nat.le_of_ble_eq_true rfl)) dL_law_481 ⟨by show cells + 2 ≤ 601024; omega, by show slots + 12 ≤ 7293034; omega⟩) hS9 hF (fun r9 u9 H locs hp hP1 hD1 hz1 hk1 hS9 => ?_)
  obtain ⟨rfl, hv⟩ := hp
  obtain ⟨hP, hD⟩ := cs_joinL hP hD hk1 hF hP1 hD1
  refine lv_istore (lv' := [(5, .int (cs_kPow S (xs (i + 1)) (((xs (i + 2)).toInt64 <<< ((32 : Int32).toInt64 &&& 63)) ||| ((xs (i + 3)).toInt64 &&& 4294967295)))), (0, .ref b), (1, .ref (ad 0)), (2, .ref (bd 0)), (3, .ref o9), (4, .int (nI i))]) hx hb dL_law_484 hl (by decide) rfl (fun ls hl => ?_)
  refine lv_aload_n hx hb dL_law_486 rfl (lv_at hl 3 rfl) ?_
  refine cs_rd C0 hS9 hl 1 5 rfl rfl 1 (jj := 1) hi (by decide) (by decide) dL_law_487 dL_law_488 dL_law_490 dL_law_491 dL_law_492 ?_
  refine cs_rd C0 hS9 hl 1 5 rfl rfl 2 (jj := 2) hi (by decide) (by decide) dL_law_493 dL_law_494 dL_law_496 dL_law_497 dL_law_498 ?_
  refine lv_i2l (v := (xs (i + 2)).toInt64) hx hb dL_law_499 rfl ?_
  refine lv_bipush (v := 32) hx hb dL_law_500 (by decide) ?_
  refine lv_lshl hx hb dL_law_502 rfl ?_
  refine cs_rd C0 hS9 hl 1 5 rfl rfl 3 (jj := 3) hi (by decide) (by decide) dL_law_503 dL_law_504 dL_law_506 dL_law_507 dL_law_508 ?_
  refine lv_i2l (v := (xs (i + 3)).toInt64) hx hb dL_law_509 rfl ?_
  refine lv_ldc2 (v := 4294967295) hx hb hown (hts (.constantLong RL 116 4294967295) (by decide +kernel)) dL_law_510 ?_
  refine lv_land hx hb dL_law_513 ?_
  refine lv_lor hx hb dL_law_514 ?_
  have hPR := cs_PR hP
  have hDR := cs_DR hD
  have hF2 : ∀ q, va_A (cs_R S th bd cy) H.size q → (fun q => s.heap.size ≤ q) q := cs_inR hD hS9 (fun _ h => h)
  refine cs_wcalli (va_runV (As := [.int (xs (i + 1)), .long (((xs (i + 2)).toInt64 <<< ((32 : Int32).toInt64 &&& 63)) ||| ((xs (i + 3)).toInt64 &&& 4294967295))]) (rest := []) ⟨hx, hb, hml, hown, hts⟩ (k_X2_power l D S th bd cy H.size hS (xs (i + 1)) (((xs (i + 2)).toInt64 <<< ((32 : Int32).toInt64 &&& 63)) ||| ((xs (i + 3)).toInt64 &&& 4294967295))) (cwV 2 hts gL_law_X2_power rfl rfl rfl (by decide +kernel) ⟨(Nat.le_of_ble_eq_true rfl), (Nat.le_of_ble_eq_true rfl)⟩) ⟨cs_Bw.blind, va_recv hK hPR (ci := 2) (q0 := 0) rfl rfl, cs_Bw.at hE hPR hK hDR⟩ rfl rfl hl.1 rfl (lv_room (Nat.le_of_ble_eq_true rfl)) dL_law_515 ⟨by show cells + 2 + 0 ≤ 601024; omega, by show slots + 12 + 0 ≤ 7293034; omega⟩) hS9 hF2 (fun r8 u8 H locs hp hP1 hD1 hz1 hk1 hS9 => ?_)
  obtain ⟨hP, hD⟩ := cs_joinR hP hD hk1 hF2 hP1 hD1
  refine lv_istore (lv' := [(6, .int r8), (5, .int (cs_kPow S (xs (i + 1)) (((xs (i + 2)).toInt64 <<< ((32 : Int32).toInt64 &&& 63)) ||| ((xs (i + 3)).toInt64 &&& 4294967295)))), (0, .ref b), (1, .ref (ad 0)), (2, .ref (bd 0)), (3, .ref o9), (4, .int (nI i))]) hx hb dL_law_518 hl (by decide) rfl (fun ls hl => ?_)
  refine cs_tl C0 hP hl (fun h => by rw [hv h, hp h]) (by omega) (by omega) dL_law_520 dL_law_521 dL_law_524 dL_law_526 dL_law_531 dL_law_533 dL_law_536 dL_law_537 dL_law_538 dL_law_539 dL_law_541 dL_law_542 dL_law_543 dL_law_548 (by decide) ?_
  refine W.widen (k := cells + 5) (n := slots + 32) (by omega) (by omega) ?_
  exact kk S (cs_kPow S (xs (i + 1)) (((xs (i + 2)).toInt64 <<< ((32 : Int32).toInt64 &&& 63)) ||| ((xs (i + 3)).toInt64 &&& 4294967295))) ad u9 H locs ls hok rfl ⟨hP, hD, hS9⟩ (lv_sub hl [2, 3, 4, 5, 6] rfl)
set_option maxHeartbeats 4000000 in
set_option maxRecDepth 100000 in
theorem lw_c_period (hlf : l.stackTraces = false) (C0 : cs_C p l s m c b L xs D cy) {i a0 cells slots : Nat} {S : cs_St} {th : Int32} {ad bd : Nat → Nat} {o9 : Nat} {f : Nat → Int64} {H : Heap} {locs : List Loc} {ls : Array Slot} (hi : i + 7 ≤ L) (hc : cells + 5 ≤ 601024) (hs : slots + 32 ≤ 7293034) (hok : cs_okk S) (had : ad 0 = a0) (hLS : cs_LS D s H locs S th ad bd o9 f cy) (hl : lv_has ls 7 [(0, .ref b), (1, .ref a0), (2, .ref (bd 0)), (3, .ref o9), (4, .int (nI i))]) (kk : cs_KK p l e s m b below meth c Q D cy bd o9 a0 i (cells + 5) (slots + 32)) : W p l e room_1 s m #[.ref b] below meth c H locs cells slots Q (F0 m 551 ls []) := by
  have hS := hok.1
  have C1 := C0
  obtain ⟨hx, hb, hml, -, hown, hts, -, -, -, hE, hn, hz0, hK⟩ := C1
  subst had
  obtain ⟨hP, hD, hS9⟩ := hLS
  have hPl : va_P D vwCl (cs_O o9 f S ad cy) H := cs_PL hP
  have hDl : va_D (fun q => s.heap.size ≤ q) (cs_O o9 f S ad cy) := cs_DL hD
  have hF : ∀ q, va_A (cs_O o9 f S ad cy) H.size q → (fun q => s.heap.size ≤ q) q := cs_inL hD hS9 (fun _ h => h)
  have hz : cs_zz (va_A (cs_O o9 f S ad cy) H.size) s H := (hz0.kept (fun a h1 h2 => hS9.2.1 a h1 h2)).narrow hF
  refine lv_aload_n hx hb dL_law_551 rfl (lv_at hl 1 rfl) ?_
  refine cs_rd C0 hS9 hl 0 4 rfl rfl 1 (jj := 1) hi (by decide) (by decide) dL_law_552 dL_law_553 dL_law_555 dL_law_556 dL_law_557 ?_
  refine cs_rd C0 hS9 hl 0 4 rfl rfl 2 (jj := 2) hi (by decide) (by decide) dL_law_558 dL_law_559 dL_law_561 dL_law_562 dL_law_563 ?_
  refine lv_aload_n hx hb dL_law_564 rfl (lv_at hl 3 rfl) ?_
  refine cs_wcalli (vx_runSW (As := [.ref (ad 0), .int (xs (i + 1)), .int (xs (i + 2)), .ref o9]) (rest := []) ⟨hx, hb, hml, hown, hts⟩ (k_L_period l hlf D S ad cy o9 f H.size hS (xs (i + 1)) (xs (i + 2))) (vx_cwSW 4 hts gL_law_L_period rfl rfl rfl (by decide +kernel) ⟨(Nat.le_of_ble_eq_true rfl), (Nat.le_of_ble_eq_true rfl)⟩) ⟨cs_Bl.blind, cs_Bl.at hn hE hz hPl hK hDl⟩ rfl rfl hl.1 rfl (lv_room (Nat.le_of_ble_eq_true rfl)) dL_law_565 ⟨by show cells + 2 ≤ 601024; omega, by show slots + 12 ≤ 7293034; omega⟩) hS9 hF (fun r9 u9 H locs hp hP1 hD1 hz1 hk1 hS9 => ?_)
  obtain ⟨rfl, hv⟩ := hp
  obtain ⟨hP, hD⟩ := cs_joinL hP hD hk1 hF hP1 hD1
  refine lv_istore (lv' := [(5, .int (cs_kPer S (xs (i + 1)) (xs (i + 2)))), (0, .ref b), (1, .ref (ad 0)), (2, .ref (bd 0)), (3, .ref o9), (4, .int (nI i))]) hx hb dL_law_568 hl (by decide) rfl (fun ls hl => ?_)
  refine lv_aload_n hx hb dL_law_570 rfl (lv_at hl 3 rfl) ?_
  refine cs_rd C0 hS9 hl 1 5 rfl rfl 1 (jj := 1) hi (by decide) (by decide) dL_law_571 dL_law_572 dL_law_574 dL_law_575 dL_law_576 ?_
  refine cs_rd C0 hS9 hl 1 5 rfl rfl 2 (jj := 2) hi (by decide) (by decide) dL_law_577 dL_law_578 dL_law_580 dL_law_581 dL_law_582 ?_
  have hPR := cs_PR hP
  have hDR := cs_DR hD
  have hF2 : ∀ q, va_A (cs_R S th bd cy) H.size q → (fun q => s.heap.size ≤ q) q := cs_inR hD hS9 (fun _ h => h)
  refine cs_wcalli (va_runV (As := [.int (xs (i + 1)), .int (xs (i + 2))]) (rest := []) ⟨hx, hb, hml, hown, hts⟩ (k_X2_period l D S th bd cy H.size hS (xs (i + 1)) (xs (i + 2))) (cwV 2 hts gL_law_X2_period rfl rfl rfl (by decide +kernel) ⟨(Nat.le_of_ble_eq_true rfl), (Nat.le_of_ble_eq_true rfl)⟩) ⟨cs_Bw.blind, va_recv hK hPR (ci := 2) (q0 := 0) rfl rfl, cs_Bw.at hE hPR hK hDR⟩ rfl rfl hl.1 rfl (lv_room (Nat.le_of_ble_eq_true rfl)) dL_law_583 ⟨by show cells + 2 + 0 ≤ 601024; omega, by show slots + 12 + 0 ≤ 7293034; omega⟩) hS9 hF2 (fun r8 u8 H locs hp hP1 hD1 hz1 hk1 hS9 => ?_)
  obtain ⟨hP, hD⟩ := cs_joinR hP hD hk1 hF2 hP1 hD1
  refine lv_istore (lv' := [(6, .int r8), (5, .int (cs_kPer S (xs (i + 1)) (xs (i + 2)))), (0, .ref b), (1, .ref (ad 0)), (2, .ref (bd 0)), (3, .ref o9), (4, .int (nI i))]) hx hb dL_law_586 hl (by decide) rfl (fun ls hl => ?_)
  refine cs_tl C0 hP hl (fun h => by rw [hv h, hp h]) (by omega) (by omega) dL_law_588 dL_law_589 dL_law_592 dL_law_594 dL_law_599 dL_law_601 dL_law_604 dL_law_605 dL_law_606 dL_law_607 dL_law_609 dL_law_610 dL_law_611 dL_law_616 (by decide) ?_
  refine W.widen (k := cells + 5) (n := slots + 32) (by omega) (by omega) ?_
  exact kk S (cs_kPer S (xs (i + 1)) (xs (i + 2))) ad u9 H locs ls hok rfl ⟨hP, hD, hS9⟩ (lv_sub hl [2, 3, 4, 5, 6] rfl)
set_option maxHeartbeats 4000000 in
set_option maxRecDepth 100000 in
theorem lw_c_append (hlf : l.stackTraces = false) (C0 : cs_C p l s m c b L xs D cy) {i a0 cells slots : Nat} {S : cs_St} {th : Int32} {ad bd : Nat → Nat} {o9 : Nat} {f : Nat → Int64} {H : Heap} {locs : List Loc} {ls : Array Slot} (hi : i + 7 ≤ L) (hc : cells + 5 ≤ 601024) (hs : slots + 32 ≤ 7293034) (hok : cs_okk S) (had : ad 0 = a0) (hLS : cs_LS D s H locs S th ad bd o9 f cy) (hl : lv_has ls 7 [(0, .ref b), (1, .ref a0), (2, .ref (bd 0)), (3, .ref o9), (4, .int (nI i))]) (kk : cs_KK p l e s m b below meth c Q D cy bd o9 a0 i (cells + 5) (slots + 32)) : W p l e room_1 s m #[.ref b] below meth c H locs cells slots Q (F0 m 619 ls []) := by
  have hS := hok.1
  have C1 := C0
  obtain ⟨hx, hb, hml, -, hown, hts, -, -, -, hE, hn, hz0, hK⟩ := C1
  subst had
  obtain ⟨hP, hD, hS9⟩ := hLS
  have hPl : va_P D vwCl (cs_O o9 f S ad cy) H := cs_PL hP
  have hDl : va_D (fun q => s.heap.size ≤ q) (cs_O o9 f S ad cy) := cs_DL hD
  have hF : ∀ q, va_A (cs_O o9 f S ad cy) H.size q → (fun q => s.heap.size ≤ q) q := cs_inL hD hS9 (fun _ h => h)
  have hz : cs_zz (va_A (cs_O o9 f S ad cy) H.size) s H := (hz0.kept (fun a h1 h2 => hS9.2.1 a h1 h2)).narrow hF
  refine lv_aload_n hx hb dL_law_619 rfl (lv_at hl 1 rfl) ?_
  refine cs_rd C0 hS9 hl 0 4 rfl rfl 1 (jj := 1) hi (by decide) (by decide) dL_law_620 dL_law_621 dL_law_623 dL_law_624 dL_law_625 ?_
  refine cs_rd C0 hS9 hl 0 4 rfl rfl 2 (jj := 2) hi (by decide) (by decide) dL_law_626 dL_law_627 dL_law_629 dL_law_630 dL_law_631 ?_
  refine lv_aload_n hx hb dL_law_632 rfl (lv_at hl 3 rfl) ?_
  refine cs_wcalli (vx_runSW (As := [.ref (ad 0), .int (xs (i + 1)), .int (xs (i + 2)), .ref o9]) (rest := []) ⟨hx, hb, hml, hown, hts⟩ (k_L_append l hlf D S ad cy o9 f H.size hS (xs (i + 1)) (xs (i + 2))) (vx_cwSW 4 hts gL_law_L_append rfl rfl rfl (by decide +kernel) ⟨(Nat.le_of_ble_eq_true rfl), (Nat.le_of_ble_eq_true rfl)⟩) ⟨cs_Bl.blind, cs_Bl.at hn hE hz hPl hK hDl⟩ rfl rfl hl.1 rfl (lv_room (Nat.le_of_ble_eq_true rfl)) dL_law_633 ⟨by show cells + 3 ≤ 601024; omega, by show slots + 18 ≤ 7293034; omega⟩) hS9 hF (fun r9 u9 H locs hp hP1 hD1 hz1 hk1 hS9 => ?_)
  obtain ⟨rfl, hv⟩ := hp
  obtain ⟨hP, hD⟩ := cs_joinL hP hD hk1 hF hP1 hD1
  refine lv_istore (lv' := [(5, .int (cs_kApp S (xs (i + 1)) (xs (i + 2)))), (0, .ref b), (1, .ref (ad 0)), (2, .ref (bd 0)), (3, .ref o9), (4, .int (nI i))]) hx hb dL_law_636 hl (by decide) rfl (fun ls hl => ?_)
  refine lv_aload_n hx hb dL_law_638 rfl (lv_at hl 3 rfl) ?_
  refine cs_rd C0 hS9 hl 1 5 rfl rfl 1 (jj := 1) hi (by decide) (by decide) dL_law_639 dL_law_640 dL_law_642 dL_law_643 dL_law_644 ?_
  refine cs_rd C0 hS9 hl 1 5 rfl rfl 2 (jj := 2) hi (by decide) (by decide) dL_law_645 dL_law_646 dL_law_648 dL_law_649 dL_law_650 ?_
  have hPR := cs_PR hP
  have hDR := cs_DR hD
  have hF2 : ∀ q, va_A (cs_R S th bd cy) H.size q → (fun q => s.heap.size ≤ q) q := cs_inR hD hS9 (fun _ h => h)
  refine cs_wcalli (va_runV (As := [.int (xs (i + 1)), .int (xs (i + 2))]) (rest := []) ⟨hx, hb, hml, hown, hts⟩ (k_X2_append l D S th bd cy H.size hS (xs (i + 1)) (xs (i + 2))) (cwV 2 hts gL_law_X2_append rfl rfl rfl (by decide +kernel) ⟨(Nat.le_of_ble_eq_true rfl), (Nat.le_of_ble_eq_true rfl)⟩) ⟨cs_Bw.blind, va_recv hK hPR (ci := 2) (q0 := 0) rfl rfl, cs_Bw.at hE hPR hK hDR⟩ rfl rfl hl.1 rfl (lv_room (Nat.le_of_ble_eq_true rfl)) dL_law_651 ⟨by show cells + 3 + 0 ≤ 601024; omega, by show slots + 18 + 0 ≤ 7293034; omega⟩) hS9 hF2 (fun r8 u8 H locs hp hP1 hD1 hz1 hk1 hS9 => ?_)
  obtain ⟨hP, hD⟩ := cs_joinR hP hD hk1 hF2 hP1 hD1
  refine lv_istore (lv' := [(6, .int r8), (5, .int (cs_kApp S (xs (i + 1)) (xs (i + 2)))), (0, .ref b), (1, .ref (ad 0)), (2, .ref (bd 0)), (3, .ref o9), (4, .int (nI i))]) hx hb dL_law_654 hl (by decide) rfl (fun ls hl => ?_)
  refine cs_tl C0 hP hl (fun h => by rw [hv h, hp h]) (by omega) (by omega) dL_law_656 dL_law_657 dL_law_660 dL_law_662 dL_law_667 dL_law_669 dL_law_672 dL_law_673 dL_law_674 dL_law_675 dL_law_677 dL_law_678 dL_law_679 dL_law_684 (by decide) ?_
  refine W.widen (k := cells + 5) (n := slots + 32) (by omega) (by omega) ?_
  exact kk (cs_sApp S (xs (i + 1)) (xs (i + 2))) (cs_kApp S (xs (i + 1)) (xs (i + 2))) ad u9 H locs ls (cs_okk_app hok (xs (i + 1)) (xs (i + 2))) rfl ⟨hP, hD, hS9⟩ (lv_sub hl [2, 3, 4, 5, 6] rfl)
end CSLC
