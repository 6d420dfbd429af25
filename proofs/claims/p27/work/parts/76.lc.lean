section CSLO
variable {p : Program} {l : Launch} {e : Env} {s : State} {m : MethodId} {b : Nat} {below : List Frame} {meth : Method} {c : Code} {Q : State → Prop} {L : Nat} {xs : Nat → Int32} {D : va_G} {cy : Nat → ClassId}
set_option maxHeartbeats 4000000 in
set_option maxRecDepth 100000 in
theorem lw_l3 (C0 : cs_C p l s m c b L xs D cy) {ad : Nat → Nat} {N c1 s1 : Nat} (hN0 : 1 ≤ N) (hN : N ≤ 40) (hc1 : c1 ≤ 600074) (hs1 : s1 ≤ 7301550)
    (kend : ∀ (H : Heap) (locs : List Loc) (ls : Array Slot), va_S (fun q => s.heap.size ≤ q) s.heap H locs → lv_has ls 14 [(0, .ref b), (1, .ref (ad 0)), (2, .int (nI 1)), (3, .int (nI N)), (4, .int (nI 30))] → W p l e room_1 s m #[.ref b] below meth c H locs c1 s1 Q (F0 m 471 ls [])) :
    ∀ (n k cells slots : Nat) (S : cs_St) (H : Heap) (locs : List Loc) (ls : Array Slot), k + n = 30 → cells + 46 * n ≤ c1 → slots + 276 * n ≤ s1 → cs_okk S → cs_n S = 6 → (∀ r, r < 4 → cs_ln S r = N) → cs_y4 S N → cs_LS D s H locs S ad cy → lv_has ls 14 [(0, .ref b), (1, .ref (ad 0)), (2, .int (nI 1)), (3, .int (nI N)), (4, .int (nI k))] → W p l e room_1 s m #[.ref b] below meth c H locs cells slots Q (F0 m 259 ls []) := by
  obtain ⟨hx, hb, hml, -, hown, hts, -⟩ := id C0
  intro n
  induction n with
  | zero =>
    intro k cells slots S H locs ls hkn hc hs hok hn hln hy hLS hl
    have hk6 : k = 30 := by omega
    subst hk6
    refine lv_iload hx hb dL_law_259 (lv_at hl 4 rfl) ?_
    refine lv_bipush (v := nI 30) hx hb dL_law_261 (by decide) ?_
    exact lv_icmp_ge (tgt := 471) hx hb dL_law_263 (by decide) (fun _ => W.widen (by omega) (by omega) (kend H locs ls hLS.2.2 hl)) (fun h => absurd (nI_le (Nat.le_refl _) (by decide)) h)
  | succ n ih =>
    intro k cells slots S H locs ls hkn hc hs hok hn hln hy hLS hl
    refine lv_iload hx hb dL_law_259 (lv_at hl 4 rfl) ?_
    refine lv_bipush (v := nI 30) hx hb dL_law_261 (by decide) ?_
    refine lv_icmp_ge (tgt := 471) hx hb dL_law_263 (by decide) (fun h => absurd h (nI_ge (by omega) (by decide))) (fun _ => ?_)
    refine lv_iload_n hx hb dL_law_266 rfl (lv_at hl 2 rfl) ?_
    refine lv_if_eq (tgt := 471) hx hb dL_law_267 (by decide) (fun h => absurd h (by decide)) (fun _ => ?_)
    refine lv_aload_n hx hb dL_law_270 rfl (lv_at hl 0 rfl) ?_
    refine lv_bipush (v := nI 20) hx hb dL_law_271 (by decide) ?_
    refine lv_iload hx hb dL_law_273 (lv_at hl 4 rfl) ?_
    refine lv_iadd hx hb dL_law_275 ?_
    refine cs_top (y := nI (20 + k)) (nI_add 20 k) ?_
    refine lw_dr (rest := []) C0 hLS.2.2 hl (k := 20 + k) (by omega) (Nat.le_of_ble_eq_true rfl) (by omega) (by omega) dL_law_276 ?_
    have hz9 := cs_zn_lt L xs (20 + k)
    generalize cs_zn L xs (20 + k) = z at hz9 ⊢
    refine lv_istore (lv' := [(5, .int (nI z)), (0, .ref b), (1, .ref (ad 0)), (2, .int (nI 1)), (3, .int (nI N)), (4, .int (nI k))]) hx hb dL_law_279 hl (by decide) rfl (fun ls hl => ?_)
    refine lv_iload hx hb dL_law_281 (lv_at hl 0 rfl) ?_
    refine lv_bipush (v := nI 6) hx hb dL_law_283 (by decide) ?_
    refine lv_irem hx hb dL_law_285 (nI_ne0 (by omega) (by omega)) ?_
    refine cs_top (y := nI (z % 6)) (pk_rem (by omega) (by omega) (by omega)) ?_
    obtain ⟨mo, hmo0, emo⟩ : ∃ mo : Nat, mo < 6 ∧ z % 6 = mo := ⟨_, Nat.mod_lt _ (by decide), rfl⟩
    refine cs_top (y := nI mo) (congrArg nI emo) ?_
    refine lv_istore (lv' := [(6, .int (nI mo)), (5, .int (nI z)), (0, .ref b), (1, .ref (ad 0)), (2, .int (nI 1)), (3, .int (nI N)), (4, .int (nI k))]) hx hb dL_law_286 hl (by decide) rfl (fun ls hl => ?_)
    refine lv_iload hx hb dL_law_288 (lv_at hl 1 rfl) ?_
    refine lv_bipush (v := nI 6) hx hb dL_law_290 (by decide) ?_
    refine lv_idiv hx hb dL_law_292 (nI_ne0 (by omega) (by omega)) ?_
    refine cs_top (y := nI (z / 6)) (pk_div (by omega) (by omega) (by omega)) ?_
    refine lv_iload_n hx hb dL_law_293 rfl (lv_at hl 5 rfl) ?_
    refine lv_iconst (v := nI 1) hx hb dL_law_294 (by decide) ?_
    refine lv_iadd hx hb dL_law_295 ?_
    refine cs_top (y := nI (N + 1)) (nI_add N 1) ?_
    refine lv_irem hx hb dL_law_296 (nI_ne0 (by omega) (by omega)) ?_
    refine cs_top (y := nI ((z / 6) % (N + 1))) (pk_rem (by omega) (by omega) (by omega)) ?_
    obtain ⟨fr, hfr0, efr⟩ : ∃ fr : Nat, fr ≤ N ∧ (z / 6) % (N + 1) = fr := ⟨_, Nat.le_of_lt_succ (Nat.mod_lt _ (by omega)), rfl⟩
    refine cs_top (y := nI fr) (congrArg nI efr) ?_
    refine lv_istore (lv' := [(7, .int (nI fr)), (6, .int (nI mo)), (5, .int (nI z)), (0, .ref b), (1, .ref (ad 0)), (2, .int (nI 1)), (3, .int (nI N)), (4, .int (nI k))]) hx hb dL_law_297 hl (by decide) rfl (fun ls hl => ?_)
    refine lv_iload hx hb dL_law_299 (lv_at hl 0 rfl) ?_
    refine lv_iload hx hb dL_law_301 (lv_at hl 2 rfl) ?_
    refine lv_sipush (v := nI 300) hx hb dL_law_303 (by decide) ?_
    refine lv_idiv hx hb dL_law_306 (nI_ne0 (by omega) (by omega)) ?_
    refine cs_top (y := nI (z / 300)) (pk_div (by omega) (by omega) (by omega)) ?_
    refine lv_iload_n hx hb dL_law_307 rfl (lv_at hl 6 rfl) ?_
    refine lv_iload hx hb dL_law_308 (lv_at hl 0 rfl) ?_
    refine lv_isub hx hb dL_law_310 ?_
    refine cs_top (y := nI (N - fr)) (pk_sub (by omega)) ?_
    refine lv_iconst (v := nI 1) hx hb dL_law_311 (by decide) ?_
    refine lv_iadd hx hb dL_law_312 ?_
    refine cs_top (y := nI ((N - fr) + 1)) (nI_add (N - fr) 1) ?_
    refine lv_irem hx hb dL_law_313 (nI_ne0 (by omega) (by omega)) ?_
    refine cs_top (y := nI ((z / 300) % ((N - fr) + 1))) (pk_rem (by omega) (by omega) (by omega)) ?_
    obtain ⟨tw, htw0, etw⟩ : ∃ tw : Nat, tw ≤ N - fr ∧ (z / 300) % ((N - fr) + 1) = tw := ⟨_, Nat.le_of_lt_succ (Nat.mod_lt _ (by omega)), rfl⟩
    refine cs_top (y := nI tw) (congrArg nI etw) ?_
    refine lv_iadd hx hb dL_law_314 ?_
    refine cs_top (y := nI (fr + tw)) (nI_add fr tw) ?_
    obtain ⟨to, hto0, hto1, eto⟩ : ∃ to : Nat, fr ≤ to ∧ to ≤ N ∧ fr + tw = to := ⟨_, by omega, by omega, rfl⟩
    refine cs_top (y := nI to) (congrArg nI eto) ?_
    refine lv_istore (lv' := [(8, .int (nI to)), (7, .int (nI fr)), (6, .int (nI mo)), (5, .int (nI z)), (0, .ref b), (1, .ref (ad 0)), (2, .int (nI 1)), (3, .int (nI N)), (4, .int (nI k))]) hx hb dL_law_315 hl (by decide) rfl (fun ls hl => ?_)
    refine lv_iload hx hb dL_law_317 (lv_at hl 3 rfl) ?_
    refine lv_bipush (v := nI 41) hx hb dL_law_319 (by decide) ?_
    refine lv_idiv hx hb dL_law_321 (nI_ne0 (by omega) (by omega)) ?_
    refine cs_top (y := nI (z / 41)) (pk_div (by omega) (by omega) (by omega)) ?_
    refine lv_iload_n hx hb dL_law_322 rfl (lv_at hl 7 rfl) ?_
    refine lv_irem hx hb dL_law_323 (nI_ne0 (by omega) (by omega)) ?_
    refine cs_top (y := nI ((z / 41) % N)) (pk_rem (by omega) (by omega) (by omega)) ?_
    obtain ⟨ix, hix0, eix⟩ : ∃ ix : Nat, ix < N ∧ (z / 41) % N = ix := ⟨_, Nat.mod_lt _ (by omega), rfl⟩
    refine cs_top (y := nI ix) (congrArg nI eix) ?_
    refine lv_istore (lv' := [(9, .int (nI ix)), (8, .int (nI to)), (7, .int (nI fr)), (6, .int (nI mo)), (5, .int (nI z)), (0, .ref b), (1, .ref (ad 0)), (2, .int (nI 1)), (3, .int (nI N)), (4, .int (nI k))]) hx hb dL_law_324 hl (by decide) rfl (fun ls hl => ?_)
    refine lv_iload hx hb dL_law_326 (lv_at hl 4 rfl) ?_
    refine lv_sipush (v := nI 2500) hx hb dL_law_328 (by decide) ?_
    refine lv_idiv hx hb dL_law_331 (nI_ne0 (by omega) (by omega)) ?_
    refine cs_top (y := nI (z / 2500)) (pk_div (by omega) (by omega) (by omega)) ?_
    refine lv_sipush (v := nI 256) hx hb dL_law_332 (by decide) ?_
    refine lv_irem hx hb dL_law_335 (nI_ne0 (by omega) (by omega)) ?_
    refine cs_top (y := nI ((z / 2500) % 256)) (pk_rem (by omega) (by omega) (by omega)) ?_
    obtain ⟨va, hva0, eva⟩ : ∃ va : Nat, va < 256 ∧ (z / 2500) % 256 = va := ⟨_, Nat.mod_lt _ (by decide), rfl⟩
    refine cs_top (y := nI va) (congrArg nI eva) ?_
    refine lv_istore (lv' := [(10, .int (nI va)), (9, .int (nI ix)), (8, .int (nI to)), (7, .int (nI fr)), (6, .int (nI mo)), (5, .int (nI z)), (0, .ref b), (1, .ref (ad 0)), (2, .int (nI 1)), (3, .int (nI N)), (4, .int (nI k))]) hx hb dL_law_336 hl (by decide) rfl (fun ls hl => ?_)
    refine lv_iload hx hb dL_law_338 (lv_at hl 5 rfl) ?_
    refine lv_bipush (v := nI 11) hx hb dL_law_340 (by decide) ?_
    refine lv_idiv hx hb dL_law_342 (nI_ne0 (by omega) (by omega)) ?_
    refine cs_top (y := nI (z / 11)) (pk_div (by omega) (by omega) (by omega)) ?_
    refine lv_iconst (v := nI 3) hx hb dL_law_343 (by decide) ?_
    refine lv_irem hx hb dL_law_344 (nI_ne0 (by omega) (by omega)) ?_
    refine cs_top (y := nI ((z / 11) % 3)) (pk_rem (by omega) (by omega) (by omega)) ?_
    obtain ⟨rw, hrw0, erw⟩ : ∃ rw : Nat, rw < 3 ∧ (z / 11) % 3 = rw := ⟨_, Nat.mod_lt _ (by decide), rfl⟩
    refine cs_top (y := nI rw) (congrArg nI erw) ?_
    refine lv_istore (lv' := [(11, .int (nI rw)), (10, .int (nI va)), (9, .int (nI ix)), (8, .int (nI to)), (7, .int (nI fr)), (6, .int (nI mo)), (5, .int (nI z)), (0, .ref b), (1, .ref (ad 0)), (2, .int (nI 1)), (3, .int (nI N)), (4, .int (nI k))]) hx hb dL_law_345 hl (by decide) rfl (fun ls hl => ?_)
    refine lv_aload_n hx hb dL_law_347 rfl (lv_at hl 8 rfl) ?_
    refine lv_iload hx hb dL_law_348 (lv_at hl 0 rfl) ?_
    refine lv_iload hx hb dL_law_350 (lv_at hl 2 rfl) ?_
    have hl0 := hln rw (by omega)
    have hl3 := hln 3 (by decide)
    have hb0 := hok.1.2.2.2 rw ix
    have hb3 := hok.1.2.2.2 3 ix
    refine lw_at C0 hok hLS hl (r := rw) (j := ix) (by omega) (by omega) (by omega) (by omega) dL_law_352 ?_
    refine lv_istore (lv' := [(12, .int (nI (cs_by S rw ix))), (11, .int (nI rw)), (10, .int (nI va)), (9, .int (nI ix)), (8, .int (nI to)), (7, .int (nI fr)), (6, .int (nI mo)), (5, .int (nI z)), (0, .ref b), (1, .ref (ad 0)), (2, .int (nI 1)), (3, .int (nI N)), (4, .int (nI k))]) hx hb dL_law_355 hl (by decide) rfl (fun ls hl => ?_)
    refine lv_aload_n hx hb dL_law_357 rfl (lv_at hl 9 rfl) ?_
    refine lv_iconst (v := nI 3) hx hb dL_law_358 (by decide) ?_
    refine lv_iload hx hb dL_law_359 (lv_at hl 3 rfl) ?_
    refine lw_at C0 hok hLS hl (r := 3) (j := ix) (by decide) (by omega) (by omega) (by omega) dL_law_361 ?_
    refine lv_istore (lv' := [(13, .int (nI (cs_by S 3 ix))), (12, .int (nI (cs_by S rw ix))), (11, .int (nI rw)), (10, .int (nI va)), (9, .int (nI ix)), (8, .int (nI to)), (7, .int (nI fr)), (6, .int (nI mo)), (5, .int (nI z)), (0, .ref b), (1, .ref (ad 0)), (2, .int (nI 1)), (3, .int (nI N)), (4, .int (nI k))]) hx hb dL_law_364 hl (by decide) rfl (fun ls hl => ?_)
    refine lv_iload hx hb dL_law_366 (lv_at hl 1 rfl) ?_
    refine lv_if_lt (tgt := 415) hx hb dL_law_368 (by decide) (fun h => absurd h (nI_pos (by omega))) (fun _ => ?_)
    refine lv_iload hx hb dL_law_371 (lv_at hl 0 rfl) ?_
    refine lv_if_lt (tgt := 415) hx hb dL_law_373 (by decide) (fun h => absurd h (nI_pos (by omega))) (fun _ => ?_)
    refine lv_aload_n hx hb dL_law_376 rfl (lv_at hl 10 rfl) ?_
    refine lv_iload hx hb dL_law_377 (lv_at hl 2 rfl) ?_
    refine lv_iload hx hb dL_law_379 (lv_at hl 4 rfl) ?_
    refine lv_iload hx hb dL_law_381 (lv_at hl 3 rfl) ?_
    refine lw_ch C0 hok hLS hl (r := rw) (j := ix) (x := va) (by omega) hva0 (by omega) (by omega) (by omega) dL_law_383 (fun H locs hok hLS => ?_)
    have hG1 := cs_Gput S rw ix va
    generalize cs_put S rw (cs_ln S rw) (va_up (cs_by S rw) ix va) = S1 at hok hLS hG1
    refine lv_iload hx hb dL_law_386 (lv_at hl 1 rfl) ?_
    refine lv_icmp_ne (tgt := 415) hx hb dL_law_388 (by decide) (fun h => absurd (rfl) h) (fun _ => ?_)
    refine lv_aload_n hx hb dL_law_391 rfl (lv_at hl 10 rfl) ?_
    refine lv_iconst (v := nI 3) hx hb dL_law_392 (by decide) ?_
    refine lv_iload hx hb dL_law_393 (lv_at hl 4 rfl) ?_
    refine lv_iload hx hb dL_law_395 (lv_at hl 0 rfl) ?_
    refine lv_iload hx hb dL_law_397 (lv_at hl 1 rfl) ?_
    refine lv_ixor hx hb dL_law_399 ?_
    refine cs_top (y := nI ((cs_by S 3 ix) ^^^ (cs_by S rw ix))) (cs_nIx (by omega) (by omega)) ?_
    obtain ⟨u1, hu10, eu1⟩ : ∃ u1 : Nat, u1 < 256 ∧ (cs_by S 3 ix) ^^^ (cs_by S rw ix) = u1 := ⟨_, cs_x256 hb3 hb0, rfl⟩
    refine cs_top (y := nI u1) (congrArg nI eu1) ?_
    refine lv_iload hx hb dL_law_400 (lv_at hl 3 rfl) ?_
    refine lv_ixor hx hb dL_law_402 ?_
    refine cs_top (y := nI (u1 ^^^ va)) (cs_nIx (by omega) (by omega)) ?_
    obtain ⟨u2, hu20, eu2⟩ : ∃ u2 : Nat, u2 < 256 ∧ u1 ^^^ va = u2 := ⟨_, cs_x256 hu10 hva0, rfl⟩
    refine cs_top (y := nI u2) (congrArg nI eu2) ?_
    have hl13 : cs_ln S1 3 = N := (hG1.2.1 3).trans hl3
    refine lw_ch C0 hok hLS hl (r := 3) (j := ix) (x := u2) (by decide) hu20 (by omega) (by omega) (by omega) dL_law_403 (fun H locs hok hLS => ?_)
    have hG2 := cs_Gput S1 3 ix u2
    generalize cs_put S1 3 (cs_ln S1 3) (va_up (cs_by S1 3) ix u2) = S2 at hok hLS hG2
    obtain ⟨hn2, hln2, hy2⟩ := cs_G2 hrw0 hix0 hG1 hG2 (by rw [← eu2, ← eu1]) hy
    have hx2 := cs_y4x hok.1 hy2
    have hn2 : cs_n S2 = 6 := hn2.trans hn
    have hln2 : ∀ r, r < 4 → cs_ln S2 r = N := fun r hr => (hln2 r).trans (hln r hr)
    refine lv_iload hx hb dL_law_406 (lv_at hl 0 rfl) ?_
    refine lv_icmp_ne (tgt := 415) hx hb dL_law_408 (by decide) (fun h => absurd (congrArg (fun f : Nat → Nat => nI (f ix)) (hG1.2.2.2.2 3 (by omega))) h) (fun _ => ?_)
    refine lv_iconst (v := nI 1) hx hb dL_law_411 (by decide) ?_
    refine lv_goto (tgt := 416) hx hb dL_law_412 (by decide) ?_
    refine lv_istore_n (lv' := [(2, .int (nI 1)), (13, .int (nI (cs_by S 3 ix))), (12, .int (nI (cs_by S rw ix))), (11, .int (nI rw)), (10, .int (nI va)), (9, .int (nI ix)), (8, .int (nI to)), (7, .int (nI fr)), (6, .int (nI mo)), (5, .int (nI z)), (0, .ref b), (1, .ref (ad 0)), (3, .int (nI N)), (4, .int (nI k))]) hx hb dL_law_416 rfl hl (by decide) rfl (fun ls hl => ?_)
    refine lv_iload_n hx hb dL_law_417 rfl (lv_at hl 0 rfl) ?_
    refine lv_if_eq (tgt := 463) hx hb dL_law_418 (by decide) (fun h => absurd h (by decide)) (fun _ => ?_)
    refine lv_aload_n hx hb dL_law_421 rfl (lv_at hl 11 rfl) ?_
    refine lv_iconst (v := nI 0) hx hb dL_law_422 (by decide) ?_
    refine lv_iload hx hb dL_law_423 (lv_at hl 8 rfl) ?_
    refine lv_iload hx hb dL_law_425 (lv_at hl 7 rfl) ?_
    refine lv_iload hx hb dL_law_427 (lv_at hl 6 rfl) ?_
    refine lw_af C0 hok hLS hl (N := N) hln2 hx2 (t := 0) (by decide) (mo := mo) (by omega) (fr := fr) (to := to) hto0 hto1 (by omega) (by omega) dL_law_429 ?_
    refine lv_if_eq (tgt := 463) hx hb dL_law_432 (by decide) (fun h => absurd h (by decide)) (fun _ => ?_)
    refine lv_aload_n hx hb dL_law_435 rfl (lv_at hl 11 rfl) ?_
    refine lv_iconst (v := nI 1) hx hb dL_law_436 (by decide) ?_
    refine lv_iload hx hb dL_law_437 (lv_at hl 8 rfl) ?_
    refine lv_iconst (v := nI 0) hx hb dL_law_439 (by decide) ?_
    refine lv_iconst (v := nI 0) hx hb dL_law_440 (by decide) ?_
    refine lw_af C0 hok hLS hl (N := N) hln2 hx2 (t := 1) (by decide) (mo := mo) (by omega) (fr := 0) (to := 0) (Nat.le_refl _) (Nat.zero_le _) (by omega) (by omega) dL_law_441 ?_
    refine lv_if_eq (tgt := 463) hx hb dL_law_444 (by decide) (fun h => absurd h (by decide)) (fun _ => ?_)
    refine lv_aload_n hx hb dL_law_447 rfl (lv_at hl 11 rfl) ?_
    refine lv_iconst (v := nI 2) hx hb dL_law_448 (by decide) ?_
    refine lv_iload hx hb dL_law_449 (lv_at hl 8 rfl) ?_
    refine lv_iconst (v := nI 0) hx hb dL_law_451 (by decide) ?_
    refine lv_iconst (v := nI 0) hx hb dL_law_452 (by decide) ?_
    refine lw_af C0 hok hLS hl (N := N) hln2 hx2 (t := 2) (by decide) (mo := mo) (by omega) (fr := 0) (to := 0) (Nat.le_refl _) (Nat.zero_le _) (by omega) (by omega) dL_law_453 ?_
    refine lv_if_eq (tgt := 463) hx hb dL_law_456 (by decide) (fun h => absurd h (by decide)) (fun _ => ?_)
    refine lv_iconst (v := nI 1) hx hb dL_law_459 (by decide) ?_
    refine lv_goto (tgt := 464) hx hb dL_law_460 (by decide) ?_
    refine lv_istore_n (lv' := [(2, .int (nI 1)), (13, .int (nI (cs_by S 3 ix))), (12, .int (nI (cs_by S rw ix))), (11, .int (nI rw)), (10, .int (nI va)), (9, .int (nI ix)), (8, .int (nI to)), (7, .int (nI fr)), (6, .int (nI mo)), (5, .int (nI z)), (0, .ref b), (1, .ref (ad 0)), (3, .int (nI N)), (4, .int (nI k))]) hx hb dL_law_464 rfl hl (by decide) rfl (fun ls hl => ?_)
    refine lv_iinc (v := nI (k + 1)) (lv' := [(4, .int (nI (k + 1))), (2, .int (nI 1)), (13, .int (nI (cs_by S 3 ix))), (12, .int (nI (cs_by S rw ix))), (11, .int (nI rw)), (10, .int (nI va)), (9, .int (nI ix)), (8, .int (nI to)), (7, .int (nI fr)), (6, .int (nI mo)), (5, .int (nI z)), (0, .ref b), (1, .ref (ad 0)), (3, .int (nI N))]) hx hb dL_law_465 hl (k := 13) rfl (cs_inc1 k) (by decide) rfl (fun ls hl => ?_)
    refine lv_goto (tgt := 259) hx hb dL_law_468 (by decide) ?_
    exact ih (k + 1) (cells + 2 + 2 + 3 + 3 + 12 + 12 + 12) (slots + 12 + 12 + 18 + 18 + 72 + 72 + 72) S2 H locs ls (by omega) (by omega) (by omega) hok hn2 hln2 hy2 hLS (lv_sub hl [11, 12, 1, 13, 0] rfl)
set_option maxHeartbeats 4000000 in
set_option maxRecDepth 100000 in
theorem lw_mid (C0 : cs_C p l s m c b L xs D cy) {S : cs_St} {ad : Nat → Nat} {H : Heap} {locs : List Loc} {ls : Array Slot} {cells slots : Nat} (hc : cells ≤ 600074) (hs : slots ≤ 7301550) (hLS : cs_LS D s H locs S ad cy) (hl : lv_has ls 14 [(0, .ref b), (1, .ref (ad 0)), (2, .int (nI 1)), (3, .int (nI 6))])
    (kk : ∀ (N : Nat) (ls : Array Slot), 1 ≤ N → N ≤ 40 → lv_has ls 14 [(0, .ref b), (1, .ref (ad 0)), (2, .int (nI 1)), (3, .int (nI N)), (4, .int (nI 0))] → W p l e room_1 s m #[.ref b] below meth c H locs cells slots Q (F0 m 130 ls [])) : W p l e room_1 s m #[.ref b] below meth c H locs cells slots Q (F0 m 115 ls []) := by
  obtain ⟨hx, hb, hml, -, hown, hts, -⟩ := id C0
  refine lv_iconst (v := nI 1) hx hb dL_law_115 (by decide) ?_
  refine lv_aload_n hx hb dL_law_116 rfl (lv_at hl 0 rfl) ?_
  refine lv_bipush (v := nI 6) hx hb dL_law_117 (by decide) ?_
  refine lw_dr (rest := [.int (nI 1)]) C0 hLS.2.2 hl (k := 6) (by omega) (Nat.le_of_ble_eq_true rfl) (by omega) (by omega) dL_law_119 ?_
  have hz9 := cs_zn_lt L xs (6)
  generalize cs_zn L xs (6) = z at hz9 ⊢
  refine lv_bipush (v := nI 40) hx hb dL_law_122 (by decide) ?_
  refine lv_irem hx hb dL_law_124 (nI_ne0 (by omega) (by omega)) ?_
  refine cs_top (y := nI (z % 40)) (pk_rem (by omega) (by omega) (by omega)) ?_
  refine lv_iadd hx hb dL_law_125 ?_
  refine cs_top (y := nI (1 + (z % 40))) (nI_add 1 (z % 40)) ?_
  obtain ⟨N, hN0, hN1, eN⟩ : ∃ N : Nat, 1 ≤ N ∧ N ≤ 40 ∧ 1 + (z % 40) = N := ⟨_, by omega, by omega, rfl⟩
  refine cs_top (y := nI N) (congrArg nI eN) ?_
  refine lv_istore_n (lv' := [(3, .int (nI N)), (0, .ref b), (1, .ref (ad 0)), (2, .int (nI 1))]) hx hb dL_law_126 rfl hl (by decide) rfl (fun ls hl => ?_)
  refine lv_iconst (v := nI 0) hx hb dL_law_127 (by decide) ?_
  refine lv_istore (lv' := [(4, .int (nI 0)), (3, .int (nI N)), (0, .ref b), (1, .ref (ad 0)), (2, .int (nI 1))]) hx hb dL_law_128 hl (by decide) rfl (fun ls hl => ?_)
  exact kk N ls hN0 hN1 (lv_sub hl [2, 3, 4, 1, 0] rfl)
end CSLO
