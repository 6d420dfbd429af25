/-! the law's loop, and its beginning -/
theorem cs_lc {i L : Nat} (hL : L ≤ 3584) (hi : i ≤ L) : nI L - 7 < nI i ↔ ¬ i + 7 ≤ L := by
  rcases Nat.lt_or_ge L 7 with h | h
  · have h0 : nI L - 7 < nI i := (by decide +kernel : ∀ L, L < 7 → ∀ i, i < 7 → nI L - 7 < nI i) L h i (by omega)
    exact ⟨fun _ => by omega, fun _ => h0⟩
  · have e : nI L - 7 = nI (L - 7) := pk_sub h
    rw [e, nI_ltI (by omega) (by omega)]
    omega
theorem cs_swapP {D : va_G} {w1 w2 : va_W} {H : Heap} (hP : va_P D vwCl (w1 ++ w2) H) : va_P D vwCl (w2 ++ w1) H := va_P.app (cs_PR hP) (cs_PL hP)
theorem cs_swapD {A : Nat → Prop} {w1 w2 : va_W} (hD : va_D A (w1 ++ w2)) : va_D A (w2 ++ w1) :=
  va_D.app (cs_DR hD) (cs_DL hD) (fun i j x y hx hy hxy => by
    have hj := (List.getElem?_eq_some_iff.mp hy).1
    have := hD.1 (w1.length + i) j x y (by rw [List.getElem?_append_right (by omega), Nat.add_sub_cancel_left]; exact hx) (by rw [List.getElem?_append_left hj]; exact hy) hxy
    omega)
theorem cs_newL (c : ClassId) (N : Nat) : vp_cell c (N, .inr (.inl (fun _ => 0))) = arrV c N (fun _ => defaultValue .long) := rfl
section CSLO
variable {p : Program} {l : Launch} {e : Env} {s : State} {m : MethodId} {b : Nat} {below : List Frame} {meth : Method} {c : Code} {Q : State → Prop} {L : Nat} {xs : Nat → Int32} {D : va_G} {cy : Nat → ClassId}
set_option maxHeartbeats 4000000 in
set_option maxRecDepth 100000 in
theorem lw_loop (hlf : l.stackTraces = false) (C0 : cs_C p l s m c b L xs D cy) {bd : Nat → Nat} {o9 a0 : Nat}
    (kend : ∀ (H : Heap) (locs : List Loc) (ls : Array Slot), va_S (fun q => s.heap.size ≤ q) s.heap H locs → W p l e room_1 s m #[.ref b] below meth c H locs 601024 7293034 Q (F0 m 1981 ls [])) :
    ∀ (n i cells slots : Nat) (S : cs_St) (th : Int32) (ad : Nat → Nat) (f : Nat → Int64) (H : Heap) (locs : List Loc) (ls : Array Slot), L ≤ i + 7 * n + 6 → i ≤ L → cells + 5 * n ≤ 601024 → slots + 32 * n ≤ 7293034 → cs_okk S → ad 0 = a0 → cs_LS D s H locs S th ad bd o9 f cy →
      lv_has ls 7 [(0, .ref b), (1, .ref a0), (2, .ref (bd 0)), (3, .ref o9), (4, .int (nI i))] → W p l e room_1 s m #[.ref b] below meth c H locs cells slots Q (F0 m 23 ls []) := by
  obtain ⟨hx, hb, hml, -, hown, hts, hX, hbl, hL, hE, hn9, hz0, hK⟩ := id C0
  intro n
  induction n with
  | zero =>
    intro i cells slots S th ad f H locs ls hn hi hc hs hok had hLS hl
    refine lv_iload hx hb dL_law_23 (lv_at hl 4 rfl) ?_
    refine lv_aload_n hx hb dL_law_25 rfl (lv_at hl 0 rfl) ?_
    refine va_slen hx hb hX hbl (Nat.not_le.mpr hbl) hLS.2.2 dL_law_26 ?_
    refine lv_bipush (v := 7) hx hb dL_law_27 (by decide) ?_
    refine lv_isub hx hb dL_law_29 ?_
    exact lv_icmp_gt (tgt := 1981) hx hb dL_law_30 (by decide) (fun _ => W.widen (by omega) (by omega) (kend H locs ls hLS.2.2)) (fun h => absurd ((cs_lc hL hi).mpr (by omega)) h)
  | succ n ih =>
    intro i cells slots S th ad f H locs ls hn hi hc hs hok had hLS hl
    refine lv_iload hx hb dL_law_23 (lv_at hl 4 rfl) ?_
    refine lv_aload_n hx hb dL_law_25 rfl (lv_at hl 0 rfl) ?_
    refine va_slen hx hb hX hbl (Nat.not_le.mpr hbl) hLS.2.2 dL_law_26 ?_
    refine lv_bipush (v := 7) hx hb dL_law_27 (by decide) ?_
    refine lv_isub hx hb dL_law_29 ?_
    refine lv_icmp_gt (tgt := 1981) hx hb dL_law_30 (by decide) (fun _ => W.widen (by omega) (by omega) (kend H locs ls hLS.2.2)) (fun h => ?_)
    have h7 : i + 7 ≤ L := Classical.byContradiction (fun z => h ((cs_lc hL hi).mpr z))
    have kk : cs_KK p l e s m b below meth c Q D cy bd o9 a0 i (cells + 5) (slots + 32) := by
      intro S th ad f H locs ls hok had hLS hl
      refine lv_iinc (v := nI (i + 7)) (lv' := [(4, .int (nI (i + 7))), (0, .ref b), (1, .ref a0), (2, .ref (bd 0)), (3, .ref o9)]) hx hb dL_law_1975 hl (k := 4) rfl (by rw [show Int32.ofInt 7 = nI 7 by decide]; exact nI_add i 7) (by decide) rfl (fun ls hl => ?_)
      refine lv_goto (tgt := 23) hx hb dL_law_1978 (by decide) ?_
      exact ih (i + 7) (cells + 5) (slots + 32) S th ad f H locs ls (by omega) (by omega) (by omega) (by omega) hok had hLS (lv_sub hl [1, 2, 3, 4, 0] rfl)
    have hc5 : cells + 5 ≤ 601024 := by omega
    have hs5 : slots + 32 ≤ 7293034 := by omega
    refine lv_aload_n hx hb dL_law_33 rfl (lv_at hl 0 rfl) ?_
    refine lv_iload hx hb dL_law_34 (lv_at hl 4 rfl) ?_
    refine va_sld hx hb hX hbl (Nat.not_le.mpr hbl) hLS.2.2 (vp_in_nI (show i < L by omega) (by omega)) dL_law_36 ?_
    refine lv_bipush (v := 31) hx hb dL_law_37 (by decide) ?_
    refine lv_iand hx hb dL_law_39 ?_
    obtain ⟨k, hk, e9⟩ := pk_andE (xs (nI i).toNatClampNeg) (m := 31) 5 (by decide)
    refine cs_top e9 ?_
    by_cases h24 : k < 24
    · rcases (show k = 0 ∨ k = 1 ∨ k = 2 ∨ k = 3 ∨ k = 4 ∨ k = 5 ∨ k = 6 ∨ k = 7 ∨ k = 8 ∨ k = 9 ∨ k = 10 ∨ k = 11 ∨ k = 12 ∨ k = 13 ∨ k = 14 ∨ k = 15 ∨ k = 16 ∨ k = 17 ∨ k = 18 ∨ k = 19 ∨ k = 20 ∨ k = 21 ∨ k = 22 ∨ k = 23 by omega) with rfl | rfl | rfl | rfl | rfl | rfl | rfl | rfl | rfl | rfl | rfl | rfl | rfl | rfl | rfl | rfl | rfl | rfl | rfl | rfl | rfl | rfl | rfl | rfl
      · exact lv_tableIn (off := 112) (tgt := 152) hx hb dL_law_40 (by decide) (by decide) (by decide) (by decide) (lw_c_define hlf C0 h7 hc5 hs5 hok had hLS hl kk)
      · exact lv_tableIn (off := 262) (tgt := 302) hx hb dL_law_40 (by decide) (by decide) (by decide) (by decide) (lw_c_models hlf C0 h7 hc5 hs5 hok had hLS hl kk)
      · exact lv_tableIn (off := 275) (tgt := 315) hx hb dL_law_40 (by decide) (by decide) (by decide) (by decide) (lw_c_check hlf C0 h7 hc5 hs5 hok had hLS hl kk)
      · exact lv_tableIn (off := 331) (tgt := 371) hx hb dL_law_40 (by decide) (by decide) (by decide) (by decide) (lw_c_multiply hlf C0 h7 hc5 hs5 hok had hLS hl kk)
      · exact lv_tableIn (off := 411) (tgt := 451) hx hb dL_law_40 (by decide) (by decide) (by decide) (by decide) (lw_c_power hlf C0 h7 hc5 hs5 hok had hLS hl kk)
      · exact lv_tableIn (off := 511) (tgt := 551) hx hb dL_law_40 (by decide) (by decide) (by decide) (by decide) (lw_c_period hlf C0 h7 hc5 hs5 hok had hLS hl kk)
      · exact lv_tableIn (off := 579) (tgt := 619) hx hb dL_law_40 (by decide) (by decide) (by decide) (by decide) (lw_c_append hlf C0 h7 hc5 hs5 hok had hLS hl kk)
      · exact lv_tableIn (off := 647) (tgt := 687) hx hb dL_law_40 (by decide) (by decide) (by decide) (by decide) (lw_c_appendSeries hlf C0 h7 hc5 hs5 hok had hLS hl kk)
      · exact lv_tableIn (off := 739) (tgt := 779) hx hb dL_law_40 (by decide) (by decide) (by decide) (by decide) (lw_c_appendRow hlf C0 h7 hc5 hs5 hok had hLS hl kk)
      · exact lv_tableIn (off := 807) (tgt := 847) hx hb dL_law_40 (by decide) (by decide) (by decide) (by decide) (lw_c_setByte hlf C0 h7 hc5 hs5 hok had hLS hl kk)
      · exact lv_tableIn (off := 887) (tgt := 927) hx hb dL_law_40 (by decide) (by decide) (by decide) (by decide) (lw_c_truncate hlf C0 h7 hc5 hs5 hok had hLS hl kk)
      · exact lv_tableIn (off := 955) (tgt := 995) hx hb dL_law_40 (by decide) (by decide) (by decide) (by decide) (lw_c_length hlf C0 h7 hc5 hs5 hok had hLS hl kk)
      · exact lv_tableIn (off := 1011) (tgt := 1051) hx hb dL_law_40 (by decide) (by decide) (by decide) (by decide) (lw_c_byteAt hlf C0 h7 hc5 hs5 hok had hLS hl kk)
      · exact lv_tableIn (off := 1079) (tgt := 1119) hx hb dL_law_40 (by decide) (by decide) (by decide) (by decide) (lw_c_sum hlf C0 h7 hc5 hs5 hok had hLS hl kk)
      · exact lv_tableIn (off := 1147) (tgt := 1187) hx hb dL_law_40 (by decide) (by decide) (by decide) (by decide) (lw_c_sumOfPart hlf C0 h7 hc5 hs5 hok had hLS hl kk)
      · exact lv_tableIn (off := 1239) (tgt := 1279) hx hb dL_law_40 (by decide) (by decide) (by decide) (by decide) (lw_c_remainder hlf C0 h7 hc5 hs5 hok had hLS hl kk)
      · exact lv_tableIn (off := 1307) (tgt := 1347) hx hb dL_law_40 (by decide) (by decide) (by decide) (by decide) (lw_c_joined hlf C0 h7 hc5 hs5 hok had hLS hl kk)
      · exact lv_tableIn (off := 1399) (tgt := 1439) hx hb dL_law_40 (by decide) (by decide) (by decide) (by decide) (lw_c_patched hlf C0 h7 hc5 hs5 hok had hLS hl kk)
      · exact lv_tableIn (off := 1491) (tgt := 1531) hx hb dL_law_40 (by decide) (by decide) (by decide) (by decide) (lw_c_wrongBit hlf C0 h7 hc5 hs5 hok had hLS hl kk)
      · exact lv_tableIn (off := 1571) (tgt := 1611) hx hb dL_law_40 (by decide) (by decide) (by decide) (by decide) (lw_c_fletcher hlf C0 h7 hc5 hs5 hok had hLS hl kk)
      · exact lv_tableIn (off := 1627) (tgt := 1667) hx hb dL_law_40 (by decide) (by decide) (by decide) (by decide) (lw_c_fletcherJoined hlf C0 h7 hc5 hs5 hok had hLS hl kk)
      · exact lv_tableIn (off := 1707) (tgt := 1747) hx hb dL_law_40 (by decide) (by decide) (by decide) (by decide) (lw_c_adler hlf C0 h7 hc5 hs5 hok had hLS hl kk)
      · exact lv_tableIn (off := 1763) (tgt := 1803) hx hb dL_law_40 (by decide) (by decide) (by decide) (by decide) (lw_c_adlerJoined hlf C0 h7 hc5 hs5 hok had hLS hl kk)
      · exact lv_tableIn (off := 1843) (tgt := 1883) hx hb dL_law_40 (by decide) (by decide) (by decide) (by decide) (lw_c_adlerRolled hlf C0 h7 hc5 hs5 hok had hLS hl kk)
    · exact lv_tableOut (tgt := 1975) hx hb dL_law_40 (Or.inr (by rw [nI_toInt (by omega)]; omega)) (by decide) (W.widen (by omega) (by omega) (kk S th ad f H locs ls hok had hLS hl))
set_option maxHeartbeats 4000000 in
set_option maxRecDepth 100000 in
theorem lw_begin (hlf : l.stackTraces = false) (C0 : cs_C p l s m c b L xs D cy) (hao : va_AO RX0 s ∧ va_AOA .int s) {ls : Array Slot} (hl : lv_has ls 7 [(0, .ref b)])
    (kend : ∀ (H : Heap) (locs : List Loc) (ls : Array Slot), va_S (fun q => s.heap.size ≤ q) s.heap H locs → W p l e room_1 s m #[.ref b] below meth c H locs 601024 7293034 Q (F0 m 1981 ls [])) : W p l e room_1 s m #[.ref b] below meth c s.heap [] 0 0 Q (F0 m 0 ls []) := by
  have C1 := C0
  obtain ⟨hx, hb, hml, -, hown, hts, hX, hbl, hL, hE, hn9, hz0, hK⟩ := C1
  have hA : ∀ q : Nat, s.heap.size ≤ q → (fun q : Nat => s.heap.size ≤ q) q := fun _ h => h
  have hS9 : va_S (fun q : Nat => s.heap.size ≤ q) s.heap s.heap [] := va_S.rf
  have hP : va_P D vwCl [] s.heap := fun k q h => by simp at h
  have hD : va_D (fun q : Nat => s.heap.size ≤ q) [] := ⟨fun i j p q h => by simp at h, fun k q h => by simp at h⟩
  obtain ⟨ms, hms, hms2⟩ : ∃ ms : Nat, 1038 ≤ ms ∧ ms ≤ 1038 := ⟨1038, Nat.le_refl _, Nat.le_refl _⟩
  obtain ⟨mr, hmr, hmr2⟩ : ∃ mr : Nat, 1064 ≤ mr ∧ mr ≤ 1064 := ⟨1064, Nat.le_refl _, Nat.le_refl _⟩
  refine va_new (ci := 1) (fs := [.null, .int 0, .null, .null]) (C := RX1) (T := TX1) (N := 4) hx hb hts inlX1 tyX1 tyX1_ok hown (hts (.classLink RL 8 RX1) (by decide +kernel)) (hts (.instantiable RX1 4) (by decide +kernel)) (hts (.initialized RX1) (by decide +kernel)) hK hP hD hS9 hA rfl (fun j hj => by rcases (show j = 0 ∨ j = 1 ∨ j = 2 ∨ j = 3 by omega) with rfl | rfl | rfl | rfl <;> rfl) (by show 0 + 1 ≤ 601024; omega) (by show 0 + 4 ≤ 7293034; omega) dL_law_0 (fun a H hP hD hS9 => ?_)
  have hP : va_P D vwCl [(a, .inr (1, [.null, .int 0, .null, .null]))] H := hP
  have hD : va_D (fun q : Nat => s.heap.size ≤ q) [(a, .inr (1, [.null, .int 0, .null, .null]))] := hD
  refine lv_dup hx hb dL_law_3 rfl ?_
  have hF : ∀ q, va_A [(a, .inr (1, [.null, .int 0, .null, .null]))] H.size q → (fun q : Nat => s.heap.size ≤ q) q := cs_inW hD hS9 hA
  refine cs_wcallv (va_runI (As := []) (rest := [.ref a]) ⟨hx, hb, hml, hown, hts⟩ (k_X1_init l D cy a H.size ms hms) (cwI 0 hts gL_law_X1_init rfl rfl rfl (hts (.initialized RX1) (by decide +kernel)) (hts (.methodLink RL 90 yX1_init) (by decide +kernel)) (hts (.instanceMethod yX1_init) (by decide +kernel)) rfl (by decide +kernel) ⟨(Nat.le_of_ble_eq_true rfl), (Nat.le_of_ble_eq_true rfl)⟩) ⟨cs_Bo.blind, cs_Bo.at hao hE hP hK hD⟩ rfl rfl hl.1 rfl (lv_room (Nat.le_of_ble_eq_true rfl)) dL_law_4 ⟨by show 0 + 1 + 7 ≤ 601024; omega, by show 0 + 4 + ms ≤ 7293034; omega⟩) hS9 hF (fun ad H locs had hP1 hD1 hz1 hk1 hS9 => ?_)
  have hP := hP1
  have hD := hD1.weaken (fun k q _ h => hF q.1 h)
  refine lv_astore_n (lv' := [(1, .ref a), (0, .ref b)]) hx hb dL_law_7 rfl hl (by decide) rfl (fun ls hl => ?_)
  refine va_new (ci := 2) (fs := [.null, .null, .null, .null, .null, .null, .int 0, .null, .null, .int 0]) (C := RX2) (T := TX2) (N := 10) hx hb hts inlX2 tyX2 tyX2_ok hown (hts (.classLink RL 91 RX2) (by decide +kernel)) (hts (.instantiable RX2 10) (by decide +kernel)) (hts (.initialized RX2) (by decide +kernel)) hK hP hD hS9 hA rfl (fun j hj => by rcases (show j = 0 ∨ j = 1 ∨ j = 2 ∨ j = 3 ∨ j = 4 ∨ j = 5 ∨ j = 6 ∨ j = 7 ∨ j = 8 ∨ j = 9 by omega) with rfl | rfl | rfl | rfl | rfl | rfl | rfl | rfl | rfl | rfl <;> rfl) (by show 0 + 1 + 7 + 1 ≤ 601024; omega) (by show 0 + 4 + ms + 10 ≤ 7293034; omega) dL_law_8 (fun a2 H hP hD hS9 => ?_)
  refine lv_dup hx hb dL_law_11 rfl ?_
  have hPR := cs_PR hP
  have hDR := cs_DR hD
  have hF := cs_inR hD hS9 hA
  refine cs_wcallv (va_runI (As := []) (rest := [.ref a2]) ⟨hx, hb, hml, hown, hts⟩ (k_X2_init l D cy a2 H.size mr hmr) (cwI 0 hts gL_law_X2_init rfl rfl rfl (hts (.initialized RX2) (by decide +kernel)) (hts (.methodLink RL 93 yX2_init) (by decide +kernel)) (hts (.instanceMethod yX2_init) (by decide +kernel)) rfl (by decide +kernel) ⟨(Nat.le_of_ble_eq_true rfl), (Nat.le_of_ble_eq_true rfl)⟩) ⟨cs_Bw.blind, cs_Bw.at hE hPR hK hDR⟩ rfl rfl hl.1 rfl (lv_room (Nat.le_of_ble_eq_true rfl)) dL_law_12 ⟨by show 0 + 1 + 7 + 1 + 8 ≤ 601024; omega, by show 0 + 4 + ms + 10 + mr ≤ 7293034; omega⟩) hS9 hF (fun bd H locs hbd hP1 hD1 hz1 hk1 hS9 => ?_)
  obtain ⟨hP, hD⟩ := cs_joinR hP hD hk1 hF hP1 hD1
  refine lv_astore_n (lv' := [(2, .ref a2), (1, .ref a), (0, .ref b)]) hx hb dL_law_15 rfl hl (by decide) rfl (fun ls hl => ?_)
  refine lv_iconst (v := 1) hx hb dL_law_16 (by decide) ?_
  refine va_newa (atype := .long) (ty := .long) (N' := 1) (a0 := (1, .inr (.inl (fun _ => 0)))) hx hb (hts (.arrayClass .long) (by decide +kernel)) rfl hK hP hD hS9 hA (fun c9 => cs_newL c9 1) (by decide) (by decide) (by decide) (by show 0 + 1 + 7 + 1 + 8 + 1 ≤ 601024; omega) (by show 0 + 4 + ms + 10 + mr + 1 ≤ 7293034; omega) dL_law_17 (fun o cA H hK1 hP hD hS9 => ?_)
  have eA : cA = cy 2 := cs_RAu (hK1.2 5 _ rfl).2 (hK.2 2 _ rfl).2
  subst eA
  clear hK1
  have hP : va_P D vwCl (cs_O o (fun _ => 0) cs_0 ad cy ++ cs_R cs_0 0 bd cy) H := cs_PE (List.append_assoc _ _ _).symm (cs_swapP hP)
  have hD : va_D (fun q : Nat => s.heap.size ≤ q) (cs_O o (fun _ => 0) cs_0 ad cy ++ cs_R cs_0 0 bd cy) := cs_DE (List.append_assoc _ _ _).symm (cs_swapD hD)
  refine lv_astore_n (lv' := [(3, .ref o), (2, .ref a2), (1, .ref a), (0, .ref b)]) hx hb dL_law_19 rfl hl (by decide) rfl (fun ls hl => ?_)
  refine lv_iconst (v := nI 0) hx hb dL_law_20 (by decide) ?_
  refine lv_istore (lv' := [(4, .int (nI 0)), (3, .ref o), (2, .ref a2), (1, .ref a), (0, .ref b)]) hx hb dL_law_21 hl (by decide) rfl (fun ls hl => ?_)
  exact lw_loop hlf C0 kend 512 0 _ _ cs_0 0 ad (fun _ => 0) H locs ls (by omega) (by omega) (by omega) (by omega) cs_okk0 had ⟨hP, hD, hS9⟩ (by rw [hbd]; exact lv_sub hl [4, 3, 2, 1, 0] rfl)
end CSLO
