section CSLC
variable {p : Program} {l : Launch} {e : Env} {s : State} {m : MethodId} {b : Nat} {below : List Frame} {meth : Method} {c : Code} {Q : State → Prop} {L : Nat} {xs : Nat → Int32} {D : va_G} {cy : Nat → ClassId}
set_option maxHeartbeats 4000000 in
set_option maxRecDepth 100000 in
theorem lw_c_models (hlf : l.stackTraces = false) (C0 : cs_C p l s m c b L xs D cy) {i a0 cells slots : Nat} {S : cs_St} {th : Int32} {ad bd : Nat → Nat} {o9 : Nat} {f : Nat → Int64} {H : Heap} {locs : List Loc} {ls : Array Slot} (hi : i + 7 ≤ L) (hc : cells + 5 ≤ 601024) (hs : slots + 32 ≤ 7293034) (hok : cs_okk S) (had : ad 0 = a0) (hLS : cs_LS D s H locs S th ad bd o9 f cy) (hl : lv_has ls 7 [(0, .ref b), (1, .ref a0), (2, .ref (bd 0)), (3, .ref o9), (4, .int (nI i))]) (kk : cs_KK p l e s m b below meth c Q D cy bd o9 a0 i (cells + 5) (slots + 32)) : W p l e room_1 s m #[.ref b] below meth c H locs cells slots Q (F0 m 302 ls []) := by
  have hS := hok.1
  have C1 := C0
  obtain ⟨hx, hb, hml, -, hown, hts, -, -, -, hE, hn, hz0, hK⟩ := C1
  subst had
  obtain ⟨hP, hD, hS9⟩ := hLS
  have hPL : va_P D vwCl (cs_L S ad cy) H := cs_PR (w1 := ([(o9, .inl (cy 2, 1, .inr (.inl f)))] : va_W)) (cs_PL hP)
  have hPR := cs_PR hP
  have hDR := cs_DR hD
  refine lv_aload_n hx hb dL_law_302 rfl (lv_at hl 1 rfl) ?_
  refine vp_callSi (W.runV (As := []) (rest := []) ⟨hx, hb, hml, hown, hts⟩ (k_X1_models l D S ad cy) (cwV 0 hts gL_law_X1_models rfl rfl rfl (by decide +kernel) ⟨(Nat.le_of_ble_eq_true rfl), (Nat.le_of_ble_eq_true rfl)⟩) ⟨cs_B.blind, va_recv hK hPL (ci := 1) (q0 := 0) rfl rfl, cs_B.at hE hPL hK⟩ rfl rfl hl.1 rfl (lv_room (Nat.le_of_ble_eq_true rfl)) dL_law_303 ⟨by show cells + 0 ≤ 601024; omega, by show slots + 0 ≤ 7293034; omega⟩) (fun r9 e9 => ?_)
  subst e9
  refine lv_aload_n hx hb dL_law_306 rfl (lv_at hl 2 rfl) ?_
  have hF : ∀ q, va_A (cs_R S th bd cy) H.size q → (fun q => s.heap.size ≤ q) q := cs_inR hD hS9 (fun _ h => h)
  refine cs_wcalli (va_runV (As := []) (rest := [.int (nI (cs_n S))]) ⟨hx, hb, hml, hown, hts⟩ (k_X2_models l D S th bd cy H.size) (cwV 0 hts gL_law_X2_models rfl rfl rfl (by decide +kernel) ⟨(Nat.le_of_ble_eq_true rfl), (Nat.le_of_ble_eq_true rfl)⟩) ⟨cs_Bw.blind, va_recv hK hPR (ci := 2) (q0 := 0) rfl rfl, cs_Bw.at hE hPR hK hDR⟩ rfl rfl hl.1 rfl (lv_room (Nat.le_of_ble_eq_true rfl)) dL_law_307 ⟨by show cells + 0 ≤ 601024; omega, by show slots + 0 ≤ 7293034; omega⟩) hS9 hF (fun r8 u8 H1 locs1 hp hP1 hD1 hz1 hk1 hS9 => ?_)
  obtain ⟨hP, hD⟩ := cs_joinR hP hD hk1 hF hP1 hD1
  subst hp
  refine lv_icmp_eq (tgt := 1975) hx hb dL_law_310 (by decide) (fun _ => ?_) (fun h => absurd rfl h)
  refine W.widen (k := cells + 5) (n := slots + 32) (by omega) (by omega) ?_
  exact kk S 0 ad f H1 locs1 ls hok rfl ⟨hP, hD, hS9⟩ hl
set_option maxHeartbeats 4000000 in
set_option maxRecDepth 100000 in
theorem lw_c_check (hlf : l.stackTraces = false) (C0 : cs_C p l s m c b L xs D cy) {i a0 cells slots : Nat} {S : cs_St} {th : Int32} {ad bd : Nat → Nat} {o9 : Nat} {f : Nat → Int64} {H : Heap} {locs : List Loc} {ls : Array Slot} (hi : i + 7 ≤ L) (hc : cells + 5 ≤ 601024) (hs : slots + 32 ≤ 7293034) (hok : cs_okk S) (had : ad 0 = a0) (hLS : cs_LS D s H locs S th ad bd o9 f cy) (hl : lv_has ls 7 [(0, .ref b), (1, .ref a0), (2, .ref (bd 0)), (3, .ref o9), (4, .int (nI i))]) (kk : cs_KK p l e s m b below meth c Q D cy bd o9 a0 i (cells + 5) (slots + 32)) : W p l e room_1 s m #[.ref b] below meth c H locs cells slots Q (F0 m 315 ls []) := by
  have hS := hok.1
  have C1 := C0
  obtain ⟨hx, hb, hml, -, hown, hts, -, -, -, hE, hn, hz0, hK⟩ := C1
  subst had
  obtain ⟨hP, hD, hS9⟩ := hLS
  have hPl : va_P D vwCl (cs_O o9 f S ad cy) H := cs_PL hP
  have hDl : va_D (fun q => s.heap.size ≤ q) (cs_O o9 f S ad cy) := cs_DL hD
  have hF : ∀ q, va_A (cs_O o9 f S ad cy) H.size q → (fun q => s.heap.size ≤ q) q := cs_inL hD hS9 (fun _ h => h)
  have hz : cs_zz (va_A (cs_O o9 f S ad cy) H.size) s H := (hz0.kept (fun a h1 h2 => hS9.2.1 a h1 h2)).narrow hF
  refine lv_aload_n hx hb dL_law_315 rfl (lv_at hl 1 rfl) ?_
  refine cs_rd C0 hS9 hl 0 4 rfl rfl 1 (jj := 1) hi (by decide) (by decide) dL_law_316 dL_law_317 dL_law_319 dL_law_320 dL_law_321 ?_
  refine lv_aload_n hx hb dL_law_322 rfl (lv_at hl 3 rfl) ?_
  refine cs_wcalli (vx_runSW (As := [.ref (ad 0), .int (xs (i + 1)), .ref o9]) (rest := []) ⟨hx, hb, hml, hown, hts⟩ (k_L_check l hlf D S ad cy o9 f H.size hS (xs (i + 1))) (vx_cwSW 3 hts gL_law_L_check rfl rfl rfl (by decide +kernel) ⟨(Nat.le_of_ble_eq_true rfl), (Nat.le_of_ble_eq_true rfl)⟩) ⟨cs_Bl.blind, cs_Bl.at hn hE hz hPl hK hDl⟩ rfl rfl hl.1 rfl (lv_room (Nat.le_of_ble_eq_true rfl)) dL_law_323 ⟨by show cells + 1 ≤ 601024; omega, by show slots + 6 ≤ 7293034; omega⟩) hS9 hF (fun r9 u9 H locs hp hP1 hD1 hz1 hk1 hS9 => ?_)
  obtain ⟨rfl, hv⟩ := hp
  obtain ⟨hP, hD⟩ := cs_joinL hP hD hk1 hF hP1 hD1
  refine lv_istore (lv' := [(5, .int (cs_k1 (cs_M S (xs (i + 1))))), (0, .ref b), (1, .ref (ad 0)), (2, .ref (bd 0)), (3, .ref o9), (4, .int (nI i))]) hx hb dL_law_326 hl (by decide) rfl (fun ls hl => ?_)
  refine lv_aload_n hx hb dL_law_328 rfl (lv_at hl 3 rfl) ?_
  refine cs_rd C0 hS9 hl 1 5 rfl rfl 1 (jj := 1) hi (by decide) (by decide) dL_law_329 dL_law_330 dL_law_332 dL_law_333 dL_law_334 ?_
  have hPR := cs_PR hP
  have hDR := cs_DR hD
  have hF2 : ∀ q, va_A (cs_R S th bd cy) H.size q → (fun q => s.heap.size ≤ q) q := cs_inR hD hS9 (fun _ h => h)
  refine cs_wcalli (va_runV (As := [.int (xs (i + 1))]) (rest := []) ⟨hx, hb, hml, hown, hts⟩ (k_X2_check l D S th bd cy H.size hS (xs (i + 1))) (cwV 1 hts gL_law_X2_check rfl rfl rfl (by decide +kernel) ⟨(Nat.le_of_ble_eq_true rfl), (Nat.le_of_ble_eq_true rfl)⟩) ⟨cs_Bw.blind, va_recv hK hPR (ci := 2) (q0 := 0) rfl rfl, cs_Bw.at hE hPR hK hDR⟩ rfl rfl hl.1 rfl (lv_room (Nat.le_of_ble_eq_true rfl)) dL_law_335 ⟨by show cells + 1 + 0 ≤ 601024; omega, by show slots + 6 + 0 ≤ 7293034; omega⟩) hS9 hF2 (fun r8 u8 H locs hp hP1 hD1 hz1 hk1 hS9 => ?_)
  obtain ⟨hP, hD⟩ := cs_joinR hP hD hk1 hF2 hP1 hD1
  refine lv_istore (lv' := [(6, .int r8), (5, .int (cs_k1 (cs_M S (xs (i + 1))))), (0, .ref b), (1, .ref (ad 0)), (2, .ref (bd 0)), (3, .ref o9), (4, .int (nI i))]) hx hb dL_law_338 hl (by decide) rfl (fun ls hl => ?_)
  refine cs_tl C0 hP hl (fun h => by rw [hv h, hp h]) (by omega) (by omega) dL_law_340 dL_law_341 dL_law_344 dL_law_346 dL_law_351 dL_law_353 dL_law_356 dL_law_357 dL_law_358 dL_law_359 dL_law_361 dL_law_362 dL_law_363 dL_law_368 (by decide) ?_
  refine W.widen (k := cells + 5) (n := slots + 32) (by omega) (by omega) ?_
  exact kk S (cs_k1 (cs_M S (xs (i + 1)))) ad u9 H locs ls hok rfl ⟨hP, hD, hS9⟩ (lv_sub hl [2, 3, 4, 5, 6] rfl)
end CSLC
