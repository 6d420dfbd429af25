set_option maxHeartbeats 4000000 in
set_option maxRecDepth 100000 in
theorem k_L_fletcher (l : Launch) (hlf : l.stackTraces = false) (D : va_G) (S : cs_St) (ad : Nat → Nat) (cy : Nat → ClassId) (o9 : Nat) (f : Nat → Int64) (sz : Nat) (hS : cs_ok S) (v : Int32) : Met l yL_fletcher wsL_fletcher ({ frames := 8, cells := 1, slots := 6, locals := 127 }) (va_Pc [.ref (ad 0), .int v, .ref o9] (cs_Bl D (cs_tys cy) (cs_O o9 f S ad cy) sz)) (cs_Qw D (cs_O o9 f S ad cy) (fun (f2 : Nat → Int64) => cs_O o9 f2 S ad cy) (fun r9 f2 => r9 = cs_k1 (cs_in v 0 3) ∧ (cs_k1 (cs_in v 0 3) = 0 → f2 0 = Int32.toInt64 (cs_vFle S v)))) 1 6 (va_A (cs_O o9 f S ad cy) sz) := by
  refine cs_ofWH (cc := cL_fletcher) (maxL := 4) (ret := (some .int)) (by decide) rfl ?_
  intro pg e s m args below meth c s₁ B hml hv
  obtain ⟨rfl, hn, hsz, hE, hz9, hP, hK, hD0⟩ := hv
  subst hsz
  have hD := hD0.self (sz := s.heap.size)
  have hA : ∀ q : Nat, s.heap.size ≤ q → va_A (cs_O o9 f S ad cy) s.heap.size q := fun q h => Or.inr h
  have hS9 : va_S (va_A (cs_O o9 f S ad cy) s.heap.size) s.heap s.heap [] := va_S.rf
  have hx := B.exec
  have hb := B.bytes
  have hr := B.returns
  have hts := atoms_spec (ws := wsL_fletcher) B.pre
  have hown : s.vm.findClass RL = some m.cls := findClass_of_methodNamed B.named
  have hlocks := B.notSynchronized
  have hT : c.exceptionTable.toList = tableOf [(0, 9, 12, 21)] := vx_table (x := yL_fletcher) B (hts _ List.mem_cons_self)
  have hl := lv_entry ([.ref (ad 0), .int v, .ref o9]) (n := 4) (Nat.le_of_ble_eq_true rfl)
  rw [lg_entry_eq]
  generalize (lg_sl ([.ref (ad 0), .int v, .ref o9]) ++ List.replicate (4 - (lg_sl ([.ref (ad 0), .int v, .ref o9])).length) Slot.unset).toArray = ls at hl ⊢
  have hl : lv_has ls 4 [(0, .ref (ad 0)), (1, .int v), (2, .ref o9)] := hl
  have hPL : va_P D vwCl (cs_L S ad cy) s.heap := cs_PR (w1 := ([(o9, .inl (cy 2, 1, .inr (.inl f)))] : va_W)) hP
  have hDL : va_D (va_A (cs_O o9 f S ad cy) s.heap.size) (cs_L S ad cy) := cs_DR (w1 := ([(o9, .inl (cy 2, 1, .inr (.inl f)))] : va_W)) hD
  have hF : ∀ q, va_A (cs_L S ad cy) s.heap.size q → va_A (cs_O o9 f S ad cy) s.heap.size q := cs_inR (w1 := ([(o9, .inl (cy 2, 1, .inr (.inl f)))] : va_W)) hD hS9 hA
  refine lv_aload_n hx hb dL_fletcher_0 rfl (lv_at hl 2 rfl) ?_
  refine lv_iconst (v := nI 0) hx hb dL_fletcher_1 (by decide) ?_
  refine lv_aload_n hx hb dL_fletcher_2 rfl (lv_at hl 0 rfl) ?_
  refine lv_iload_n hx hb dL_fletcher_3 rfl (lv_at hl 1 rfl) ?_
  refine cs_xcalli (vx_runV (As := [.int v]) (rest := [.int (nI 0), .ref o9]) ⟨hx, hb, hml, hown, hts⟩ (k_X1_fletcher l hlf D S ad cy hS v) (cwV 1 hts gL_fletcher_X1_fletcher rfl rfl rfl (by decide +kernel) ⟨(Nat.le_of_ble_eq_true rfl), (Nat.le_of_ble_eq_true rfl)⟩) ⟨cs_Bx.blind, va_recv hK hPL (ci := 1) (q0 := 0) rfl rfl, cs_Bx.at hE (hz9.narrow (fun q h => Or.inr h)) hPL hK⟩ rfl rfl hl.1 rfl (lv_room (Nat.le_of_ble_eq_true rfl)) dL_fletcher_4 ⟨(Nat.le_of_ble_eq_true rfl), (Nat.le_of_ble_eq_true rfl)⟩) (fun E ce q7 H1 h1 h2 h3 h4 h5 h6 => ?_) (fun rr hk => ?_)
  · have hS9 : va_S (va_A (cs_O o9 f S ad cy) s.heap.size) s.heap H1 [] := cs_Sx h2 h3
    have hP := cs_keep hP h3
    rcases h1 with ⟨hk, rfl⟩ | ⟨hk, rfl⟩ | ⟨hk, rfl⟩
    · refine vx_catch (own := RL) (name := cs_IOB) hown (tableOf []) ⟨0, 9, 12, 21⟩ (tableOf []) hT (fun z hz => by cases hz) (by decide) (by decide) (hts (.classLink RL 21 cs_IOB) (by decide +kernel)) (va_Nw.use rfl hE.2.1.2.2.1) h4 h5 h6 ?_
      refine lv_astore_n (lv' := [(3, .ref q7), (0, .ref (ad 0)), (1, .int v), (2, .ref o9)]) hx hb dL_fletcher_12 rfl hl (by decide) rfl (fun ls hl => ?_)
      refine lv_iconst (v := 1) hx hb dL_fletcher_13 (by decide) ?_
      refine W.widen (k := 1) (n := 6) (Nat.le_of_ble_eq_true rfl) (Nat.le_of_ble_eq_true rfl) ?_
      exact W.iret (v := 1) hx hb hr (fun t ht _ => cs_wend (K := 1) 1 f ⟨hk.symm, fun h => absurd (hk.symm.trans h) (by decide)⟩ hP hD hS9 t ht) hS9.2.2 dL_fletcher_14
    · exact absurd hk cs_k1n2
    · exact absurd hk cs_k1n3
  · obtain ⟨hk, rfl⟩ := hk
    refine lv_i2l (v := Int32.toInt64 (cs_vFle S v)) hx hb dL_fletcher_7 rfl ?_
    refine cs_last (k := 0) hx hb hK hP hD hS9 0 2 cs_O0 rfl (by decide) (by decide) dL_fletcher_8 (fun H locs hP hD hS9 => ?_)
    have hP : va_P D vwCl (cs_O o9 (vp_updL f 0 (Int32.toInt64 (cs_vFle S v))) S ad cy) H := hP
    have hD : va_D (va_A (cs_O o9 f S ad cy) s.heap.size) (cs_O o9 (vp_updL f 0 (Int32.toInt64 (cs_vFle S v))) S ad cy) := hD
    refine lv_goto (tgt := 15) hx hb dL_fletcher_9 (by decide) ?_
    refine lv_iconst (v := 0) hx hb dL_fletcher_15 (by decide) ?_
    refine W.widen (k := 1) (n := 6) (Nat.le_of_ble_eq_true rfl) (Nat.le_of_ble_eq_true rfl) ?_
    exact W.iret (v := 0) hx hb hr (fun t ht _ => cs_wend (K := 0) 0 (vp_updL f 0 (Int32.toInt64 (cs_vFle S v))) ⟨hk.symm, fun _ => cs_up0 (f := f) (x := Int32.toInt64 (cs_vFle S v))⟩ hP hD hS9 t ht) hS9.2.2 dL_fletcher_16
set_option maxHeartbeats 4000000 in
set_option maxRecDepth 100000 in
theorem k_L_fletcherJoined (l : Launch) (hlf : l.stackTraces = false) (D : va_G) (S : cs_St) (ad : Nat → Nat) (cy : Nat → ClassId) (o9 : Nat) (f : Nat → Int64) (sz : Nat) (a b n : Int32) : Met l yL_fletcherJoined wsL_fletcherJoined ({ frames := 8, cells := 3, slots := 18, locals := 131 }) (va_Pc [.ref (ad 0), .int a, .int b, .int n, .ref o9] (cs_Bl D (cs_tys cy) (cs_O o9 f S ad cy) sz)) (cs_Qw D (cs_O o9 f S ad cy) (fun (f2 : Nat → Int64) => cs_O o9 f2 S ad cy) (fun r9 f2 => r9 = cs_kFlj a b n ∧ (cs_kFlj a b n = 0 → f2 0 = Int32.toInt64 (cs_vFlj a b n)))) 3 18 (va_A (cs_O o9 f S ad cy) sz) := by
  refine cs_ofWH (cc := cL_fletcherJoined) (maxL := 6) (ret := (some .int)) (by decide) rfl ?_
  intro pg e s m args below meth c s₁ B hml hv
  obtain ⟨rfl, hn, hsz, hE, hz9, hP, hK, hD0⟩ := hv
  subst hsz
  have hD := hD0.self (sz := s.heap.size)
  have hA : ∀ q : Nat, s.heap.size ≤ q → va_A (cs_O o9 f S ad cy) s.heap.size q := fun q h => Or.inr h
  have hS9 : va_S (va_A (cs_O o9 f S ad cy) s.heap.size) s.heap s.heap [] := va_S.rf
  have hx := B.exec
  have hb := B.bytes
  have hr := B.returns
  have hts := atoms_spec (ws := wsL_fletcherJoined) B.pre
  have hown : s.vm.findClass RL = some m.cls := findClass_of_methodNamed B.named
  have hlocks := B.notSynchronized
  have hT : c.exceptionTable.toList = tableOf [(0, 12, 15, 13)] := vx_table (x := yL_fletcherJoined) B (hts _ List.mem_cons_self)
  have hl := lv_entry ([.ref (ad 0), .int a, .int b, .int n, .ref o9]) (n := 6) (Nat.le_of_ble_eq_true rfl)
  rw [lg_entry_eq]
  generalize (lg_sl ([.ref (ad 0), .int a, .int b, .int n, .ref o9]) ++ List.replicate (6 - (lg_sl ([.ref (ad 0), .int a, .int b, .int n, .ref o9])).length) Slot.unset).toArray = ls at hl ⊢
  have hl : lv_has ls 6 [(0, .ref (ad 0)), (1, .int a), (2, .int b), (3, .int n), (4, .ref o9)] := hl
  have hPL : va_P D vwCl (cs_L S ad cy) s.heap := cs_PR (w1 := ([(o9, .inl (cy 2, 1, .inr (.inl f)))] : va_W)) hP
  have hDL : va_D (va_A (cs_O o9 f S ad cy) s.heap.size) (cs_L S ad cy) := cs_DR (w1 := ([(o9, .inl (cy 2, 1, .inr (.inl f)))] : va_W)) hD
  have hF : ∀ q, va_A (cs_L S ad cy) s.heap.size q → va_A (cs_O o9 f S ad cy) s.heap.size q := cs_inR (w1 := ([(o9, .inl (cy 2, 1, .inr (.inl f)))] : va_W)) hD hS9 hA
  refine lv_aload hx hb dL_fletcherJoined_0 (lv_at hl 4 rfl) ?_
  refine lv_iconst (v := nI 0) hx hb dL_fletcherJoined_2 (by decide) ?_
  refine lv_aload_n hx hb dL_fletcherJoined_3 rfl (lv_at hl 0 rfl) ?_
  refine lv_iload_n hx hb dL_fletcherJoined_4 rfl (lv_at hl 1 rfl) ?_
  refine lv_iload_n hx hb dL_fletcherJoined_5 rfl (lv_at hl 2 rfl) ?_
  refine lv_iload_n hx hb dL_fletcherJoined_6 rfl (lv_at hl 3 rfl) ?_
  refine cs_xcalli (vx_runV (As := [.int a, .int b, .int n]) (rest := [.int (nI 0), .ref o9]) ⟨hx, hb, hml, hown, hts⟩ (k_X1_fletcherJoined l hlf D S ad cy a b n) (cwV 3 hts gL_fletcherJoined_X1_fletcherJoined rfl rfl rfl (by decide +kernel) ⟨(Nat.le_of_ble_eq_true rfl), (Nat.le_of_ble_eq_true rfl)⟩) ⟨cs_Bx.blind, va_recv hK hPL (ci := 1) (q0 := 0) rfl rfl, cs_Bx.at hE (hz9.narrow (fun q h => Or.inr h)) hPL hK⟩ rfl rfl hl.1 rfl (lv_room (Nat.le_of_ble_eq_true rfl)) dL_fletcherJoined_7 ⟨(Nat.le_of_ble_eq_true rfl), (Nat.le_of_ble_eq_true rfl)⟩) (fun E ce q7 H1 h1 h2 h3 h4 h5 h6 => ?_) (fun rr hk => ?_)
  · have hS9 : va_S (va_A (cs_O o9 f S ad cy) s.heap.size) s.heap H1 [] := cs_Sx h2 h3
    have hP := cs_keep hP h3
    rcases h1 with ⟨hk, rfl⟩ | ⟨hk, rfl⟩ | ⟨hk, rfl⟩
    · refine vx_catch (own := RL) (name := cs_IAE) hown (tableOf []) ⟨0, 12, 15, 13⟩ (tableOf []) hT (fun z hz => by cases hz) (by decide) (by decide) (hts (.classLink RL 13 cs_IAE) (by decide +kernel)) (va_Nw.use rfl hE.2.1.1) h4 h5 h6 ?_
      refine lv_astore (lv' := [(5, .ref q7), (0, .ref (ad 0)), (1, .int a), (2, .int b), (3, .int n), (4, .ref o9)]) hx hb dL_fletcherJoined_15 hl (by decide) rfl (fun ls hl => ?_)
      refine lv_iconst (v := 1) hx hb dL_fletcherJoined_17 (by decide) ?_
      refine W.widen (k := 3) (n := 18) (Nat.le_of_ble_eq_true rfl) (Nat.le_of_ble_eq_true rfl) ?_
      exact W.iret (v := 1) hx hb hr (fun t ht _ => cs_wend (K := 1) 1 f ⟨hk.symm, fun h => absurd (hk.symm.trans h) (by decide)⟩ hP hD hS9 t ht) hS9.2.2 dL_fletcherJoined_18
    · exact absurd hk cs_k1n2
    · exact absurd hk cs_k1n3
  · obtain ⟨hk, rfl⟩ := hk
    refine lv_i2l (v := Int32.toInt64 (cs_vFlj a b n)) hx hb dL_fletcherJoined_10 rfl ?_
    refine cs_last (k := 0) hx hb hK hP hD hS9 0 2 cs_O0 rfl (by decide) (by decide) dL_fletcherJoined_11 (fun H locs hP hD hS9 => ?_)
    have hP : va_P D vwCl (cs_O o9 (vp_updL f 0 (Int32.toInt64 (cs_vFlj a b n))) S ad cy) H := hP
    have hD : va_D (va_A (cs_O o9 f S ad cy) s.heap.size) (cs_O o9 (vp_updL f 0 (Int32.toInt64 (cs_vFlj a b n))) S ad cy) := hD
    refine lv_goto (tgt := 19) hx hb dL_fletcherJoined_12 (by decide) ?_
    refine lv_iconst (v := 0) hx hb dL_fletcherJoined_19 (by decide) ?_
    refine W.widen (k := 3) (n := 18) (Nat.le_of_ble_eq_true rfl) (Nat.le_of_ble_eq_true rfl) ?_
    exact W.iret (v := 0) hx hb hr (fun t ht _ => cs_wend (K := 0) 0 (vp_updL f 0 (Int32.toInt64 (cs_vFlj a b n))) ⟨hk.symm, fun _ => cs_up0 (f := f) (x := Int32.toInt64 (cs_vFlj a b n))⟩ hP hD hS9 t ht) hS9.2.2 dL_fletcherJoined_20
set_option maxHeartbeats 4000000 in
set_option maxRecDepth 100000 in
theorem k_L_adler (l : Launch) (hlf : l.stackTraces = false) (D : va_G) (S : cs_St) (ad : Nat → Nat) (cy : Nat → ClassId) (o9 : Nat) (f : Nat → Int64) (sz : Nat) (hS : cs_ok S) (v : Int32) : Met l yL_adler wsL_adler ({ frames := 8, cells := 1, slots := 6, locals := 127 }) (va_Pc [.ref (ad 0), .int v, .ref o9] (cs_Bl D (cs_tys cy) (cs_O o9 f S ad cy) sz)) (cs_Qw D (cs_O o9 f S ad cy) (fun (f2 : Nat → Int64) => cs_O o9 f2 S ad cy) (fun r9 f2 => r9 = cs_k1 (cs_in v 0 3) ∧ (cs_k1 (cs_in v 0 3) = 0 → f2 0 = Int32.toInt64 (cs_vAdl S v)))) 1 6 (va_A (cs_O o9 f S ad cy) sz) := by
  refine cs_ofWH (cc := cL_adler) (maxL := 4) (ret := (some .int)) (by decide) rfl ?_
  intro pg e s m args below meth c s₁ B hml hv
  obtain ⟨rfl, hn, hsz, hE, hz9, hP, hK, hD0⟩ := hv
  subst hsz
  have hD := hD0.self (sz := s.heap.size)
  have hA : ∀ q : Nat, s.heap.size ≤ q → va_A (cs_O o9 f S ad cy) s.heap.size q := fun q h => Or.inr h
  have hS9 : va_S (va_A (cs_O o9 f S ad cy) s.heap.size) s.heap s.heap [] := va_S.rf
  have hx := B.exec
  have hb := B.bytes
  have hr := B.returns
  have hts := atoms_spec (ws := wsL_adler) B.pre
  have hown : s.vm.findClass RL = some m.cls := findClass_of_methodNamed B.named
  have hlocks := B.notSynchronized
  have hT : c.exceptionTable.toList = tableOf [(0, 9, 12, 21)] := vx_table (x := yL_adler) B (hts _ List.mem_cons_self)
  have hl := lv_entry ([.ref (ad 0), .int v, .ref o9]) (n := 4) (Nat.le_of_ble_eq_true rfl)
  rw [lg_entry_eq]
  generalize (lg_sl ([.ref (ad 0), .int v, .ref o9]) ++ List.replicate (4 - (lg_sl ([.ref (ad 0), .int v, .ref o9])).length) Slot.unset).toArray = ls at hl ⊢
  have hl : lv_has ls 4 [(0, .ref (ad 0)), (1, .int v), (2, .ref o9)] := hl
  have hPL : va_P D vwCl (cs_L S ad cy) s.heap := cs_PR (w1 := ([(o9, .inl (cy 2, 1, .inr (.inl f)))] : va_W)) hP
  have hDL : va_D (va_A (cs_O o9 f S ad cy) s.heap.size) (cs_L S ad cy) := cs_DR (w1 := ([(o9, .inl (cy 2, 1, .inr (.inl f)))] : va_W)) hD
  have hF : ∀ q, va_A (cs_L S ad cy) s.heap.size q → va_A (cs_O o9 f S ad cy) s.heap.size q := cs_inR (w1 := ([(o9, .inl (cy 2, 1, .inr (.inl f)))] : va_W)) hD hS9 hA
  refine lv_aload_n hx hb dL_adler_0 rfl (lv_at hl 2 rfl) ?_
  refine lv_iconst (v := nI 0) hx hb dL_adler_1 (by decide) ?_
  refine lv_aload_n hx hb dL_adler_2 rfl (lv_at hl 0 rfl) ?_
  refine lv_iload_n hx hb dL_adler_3 rfl (lv_at hl 1 rfl) ?_
  refine cs_xcalli (vx_runV (As := [.int v]) (rest := [.int (nI 0), .ref o9]) ⟨hx, hb, hml, hown, hts⟩ (k_X1_adler l hlf D S ad cy hS v) (cwV 1 hts gL_adler_X1_adler rfl rfl rfl (by decide +kernel) ⟨(Nat.le_of_ble_eq_true rfl), (Nat.le_of_ble_eq_true rfl)⟩) ⟨cs_Bx.blind, va_recv hK hPL (ci := 1) (q0 := 0) rfl rfl, cs_Bx.at hE (hz9.narrow (fun q h => Or.inr h)) hPL hK⟩ rfl rfl hl.1 rfl (lv_room (Nat.le_of_ble_eq_true rfl)) dL_adler_4 ⟨(Nat.le_of_ble_eq_true rfl), (Nat.le_of_ble_eq_true rfl)⟩) (fun E ce q7 H1 h1 h2 h3 h4 h5 h6 => ?_) (fun rr hk => ?_)
  · have hS9 : va_S (va_A (cs_O o9 f S ad cy) s.heap.size) s.heap H1 [] := cs_Sx h2 h3
    have hP := cs_keep hP h3
    rcases h1 with ⟨hk, rfl⟩ | ⟨hk, rfl⟩ | ⟨hk, rfl⟩
    · refine vx_catch (own := RL) (name := cs_IOB) hown (tableOf []) ⟨0, 9, 12, 21⟩ (tableOf []) hT (fun z hz => by cases hz) (by decide) (by decide) (hts (.classLink RL 21 cs_IOB) (by decide +kernel)) (va_Nw.use rfl hE.2.1.2.2.1) h4 h5 h6 ?_
      refine lv_astore_n (lv' := [(3, .ref q7), (0, .ref (ad 0)), (1, .int v), (2, .ref o9)]) hx hb dL_adler_12 rfl hl (by decide) rfl (fun ls hl => ?_)
      refine lv_iconst (v := 1) hx hb dL_adler_13 (by decide) ?_
      refine W.widen (k := 1) (n := 6) (Nat.le_of_ble_eq_true rfl) (Nat.le_of_ble_eq_true rfl) ?_
      exact W.iret (v := 1) hx hb hr (fun t ht _ => cs_wend (K := 1) 1 f ⟨hk.symm, fun h => absurd (hk.symm.trans h) (by decide)⟩ hP hD hS9 t ht) hS9.2.2 dL_adler_14
    · exact absurd hk cs_k1n2
    · exact absurd hk cs_k1n3
  · obtain ⟨hk, rfl⟩ := hk
    refine lv_i2l (v := Int32.toInt64 (cs_vAdl S v)) hx hb dL_adler_7 rfl ?_
    refine cs_last (k := 0) hx hb hK hP hD hS9 0 2 cs_O0 rfl (by decide) (by decide) dL_adler_8 (fun H locs hP hD hS9 => ?_)
    have hP : va_P D vwCl (cs_O o9 (vp_updL f 0 (Int32.toInt64 (cs_vAdl S v))) S ad cy) H := hP
    have hD : va_D (va_A (cs_O o9 f S ad cy) s.heap.size) (cs_O o9 (vp_updL f 0 (Int32.toInt64 (cs_vAdl S v))) S ad cy) := hD
    refine lv_goto (tgt := 15) hx hb dL_adler_9 (by decide) ?_
    refine lv_iconst (v := 0) hx hb dL_adler_15 (by decide) ?_
    refine W.widen (k := 1) (n := 6) (Nat.le_of_ble_eq_true rfl) (Nat.le_of_ble_eq_true rfl) ?_
    exact W.iret (v := 0) hx hb hr (fun t ht _ => cs_wend (K := 0) 0 (vp_updL f 0 (Int32.toInt64 (cs_vAdl S v))) ⟨hk.symm, fun _ => cs_up0 (f := f) (x := Int32.toInt64 (cs_vAdl S v))⟩ hP hD hS9 t ht) hS9.2.2 dL_adler_16
set_option maxHeartbeats 4000000 in
set_option maxRecDepth 100000 in
theorem k_L_adlerJoined (l : Launch) (hlf : l.stackTraces = false) (D : va_G) (S : cs_St) (ad : Nat → Nat) (cy : Nat → ClassId) (o9 : Nat) (f : Nat → Int64) (sz : Nat) (a b n : Int32) : Met l yL_adlerJoined wsL_adlerJoined ({ frames := 8, cells := 3, slots := 18, locals := 131 }) (va_Pc [.ref (ad 0), .int a, .int b, .int n, .ref o9] (cs_Bl D (cs_tys cy) (cs_O o9 f S ad cy) sz)) (cs_Qw D (cs_O o9 f S ad cy) (fun (f2 : Nat → Int64) => cs_O o9 f2 S ad cy) (fun r9 f2 => r9 = cs_kAdj a b n ∧ (cs_kAdj a b n = 0 → f2 0 = Int32.toInt64 (cs_vAdj a b n)))) 3 18 (va_A (cs_O o9 f S ad cy) sz) := by
  refine cs_ofWH (cc := cL_adlerJoined) (maxL := 6) (ret := (some .int)) (by decide) rfl ?_
  intro pg e s m args below meth c s₁ B hml hv
  obtain ⟨rfl, hn, hsz, hE, hz9, hP, hK, hD0⟩ := hv
  subst hsz
  have hD := hD0.self (sz := s.heap.size)
  have hA : ∀ q : Nat, s.heap.size ≤ q → va_A (cs_O o9 f S ad cy) s.heap.size q := fun q h => Or.inr h
  have hS9 : va_S (va_A (cs_O o9 f S ad cy) s.heap.size) s.heap s.heap [] := va_S.rf
  have hx := B.exec
  have hb := B.bytes
  have hr := B.returns
  have hts := atoms_spec (ws := wsL_adlerJoined) B.pre
  have hown : s.vm.findClass RL = some m.cls := findClass_of_methodNamed B.named
  have hlocks := B.notSynchronized
  have hT : c.exceptionTable.toList = tableOf [(0, 12, 15, 13)] := vx_table (x := yL_adlerJoined) B (hts _ List.mem_cons_self)
  have hl := lv_entry ([.ref (ad 0), .int a, .int b, .int n, .ref o9]) (n := 6) (Nat.le_of_ble_eq_true rfl)
  rw [lg_entry_eq]
  generalize (lg_sl ([.ref (ad 0), .int a, .int b, .int n, .ref o9]) ++ List.replicate (6 - (lg_sl ([.ref (ad 0), .int a, .int b, .int n, .ref o9])).length) Slot.unset).toArray = ls at hl ⊢
  have hl : lv_has ls 6 [(0, .ref (ad 0)), (1, .int a), (2, .int b), (3, .int n), (4, .ref o9)] := hl
  have hPL : va_P D vwCl (cs_L S ad cy) s.heap := cs_PR (w1 := ([(o9, .inl (cy 2, 1, .inr (.inl f)))] : va_W)) hP
  have hDL : va_D (va_A (cs_O o9 f S ad cy) s.heap.size) (cs_L S ad cy) := cs_DR (w1 := ([(o9, .inl (cy 2, 1, .inr (.inl f)))] : va_W)) hD
  have hF : ∀ q, va_A (cs_L S ad cy) s.heap.size q → va_A (cs_O o9 f S ad cy) s.heap.size q := cs_inR (w1 := ([(o9, .inl (cy 2, 1, .inr (.inl f)))] : va_W)) hD hS9 hA
  refine lv_aload hx hb dL_adlerJoined_0 (lv_at hl 4 rfl) ?_
  refine lv_iconst (v := nI 0) hx hb dL_adlerJoined_2 (by decide) ?_
  refine lv_aload_n hx hb dL_adlerJoined_3 rfl (lv_at hl 0 rfl) ?_
  refine lv_iload_n hx hb dL_adlerJoined_4 rfl (lv_at hl 1 rfl) ?_
  refine lv_iload_n hx hb dL_adlerJoined_5 rfl (lv_at hl 2 rfl) ?_
  refine lv_iload_n hx hb dL_adlerJoined_6 rfl (lv_at hl 3 rfl) ?_
  refine cs_xcalli (vx_runV (As := [.int a, .int b, .int n]) (rest := [.int (nI 0), .ref o9]) ⟨hx, hb, hml, hown, hts⟩ (k_X1_adlerJoined l hlf D S ad cy a b n) (cwV 3 hts gL_adlerJoined_X1_adlerJoined rfl rfl rfl (by decide +kernel) ⟨(Nat.le_of_ble_eq_true rfl), (Nat.le_of_ble_eq_true rfl)⟩) ⟨cs_Bx.blind, va_recv hK hPL (ci := 1) (q0 := 0) rfl rfl, cs_Bx.at hE (hz9.narrow (fun q h => Or.inr h)) hPL hK⟩ rfl rfl hl.1 rfl (lv_room (Nat.le_of_ble_eq_true rfl)) dL_adlerJoined_7 ⟨(Nat.le_of_ble_eq_true rfl), (Nat.le_of_ble_eq_true rfl)⟩) (fun E ce q7 H1 h1 h2 h3 h4 h5 h6 => ?_) (fun rr hk => ?_)
  · have hS9 : va_S (va_A (cs_O o9 f S ad cy) s.heap.size) s.heap H1 [] := cs_Sx h2 h3
    have hP := cs_keep hP h3
    rcases h1 with ⟨hk, rfl⟩ | ⟨hk, rfl⟩ | ⟨hk, rfl⟩
    · refine vx_catch (own := RL) (name := cs_IAE) hown (tableOf []) ⟨0, 12, 15, 13⟩ (tableOf []) hT (fun z hz => by cases hz) (by decide) (by decide) (hts (.classLink RL 13 cs_IAE) (by decide +kernel)) (va_Nw.use rfl hE.2.1.1) h4 h5 h6 ?_
      refine lv_astore (lv' := [(5, .ref q7), (0, .ref (ad 0)), (1, .int a), (2, .int b), (3, .int n), (4, .ref o9)]) hx hb dL_adlerJoined_15 hl (by decide) rfl (fun ls hl => ?_)
      refine lv_iconst (v := 1) hx hb dL_adlerJoined_17 (by decide) ?_
      refine W.widen (k := 3) (n := 18) (Nat.le_of_ble_eq_true rfl) (Nat.le_of_ble_eq_true rfl) ?_
      exact W.iret (v := 1) hx hb hr (fun t ht _ => cs_wend (K := 1) 1 f ⟨hk.symm, fun h => absurd (hk.symm.trans h) (by decide)⟩ hP hD hS9 t ht) hS9.2.2 dL_adlerJoined_18
    · exact absurd hk cs_k1n2
    · exact absurd hk cs_k1n3
  · obtain ⟨hk, rfl⟩ := hk
    refine lv_i2l (v := Int32.toInt64 (cs_vAdj a b n)) hx hb dL_adlerJoined_10 rfl ?_
    refine cs_last (k := 0) hx hb hK hP hD hS9 0 2 cs_O0 rfl (by decide) (by decide) dL_adlerJoined_11 (fun H locs hP hD hS9 => ?_)
    have hP : va_P D vwCl (cs_O o9 (vp_updL f 0 (Int32.toInt64 (cs_vAdj a b n))) S ad cy) H := hP
    have hD : va_D (va_A (cs_O o9 f S ad cy) s.heap.size) (cs_O o9 (vp_updL f 0 (Int32.toInt64 (cs_vAdj a b n))) S ad cy) := hD
    refine lv_goto (tgt := 19) hx hb dL_adlerJoined_12 (by decide) ?_
    refine lv_iconst (v := 0) hx hb dL_adlerJoined_19 (by decide) ?_
    refine W.widen (k := 3) (n := 18) (Nat.le_of_ble_eq_true rfl) (Nat.le_of_ble_eq_true rfl) ?_
    exact W.iret (v := 0) hx hb hr (fun t ht _ => cs_wend (K := 0) 0 (vp_updL f 0 (Int32.toInt64 (cs_vAdj a b n))) ⟨hk.symm, fun _ => cs_up0 (f := f) (x := Int32.toInt64 (cs_vAdj a b n))⟩ hP hD hS9 t ht) hS9.2.2 dL_adlerJoined_20
set_option maxHeartbeats 4000000 in
set_option maxRecDepth 100000 in
theorem k_L_adlerRolled (l : Launch) (hlf : l.stackTraces = false) (D : va_G) (S : cs_St) (ad : Nat → Nat) (cy : Nat → ClassId) (o9 : Nat) (f : Nat → Int64) (sz : Nat) (a n o i : Int32) : Met l yL_adlerRolled wsL_adlerRolled ({ frames := 8, cells := 4, slots := 24, locals := 130 }) (va_Pc [.ref (ad 0), .int a, .int n, .int o, .int i, .ref o9] (cs_Bl D (cs_tys cy) (cs_O o9 f S ad cy) sz)) (cs_Qw D (cs_O o9 f S ad cy) (fun (f2 : Nat → Int64) => cs_O o9 f2 S ad cy) (fun r9 f2 => r9 = cs_kAdr a n o i ∧ (cs_kAdr a n o i = 0 → f2 0 = Int32.toInt64 (cs_vAdr a n o i)))) 4 24 (va_A (cs_O o9 f S ad cy) sz) := by
  refine cs_ofWH (cc := cL_adlerRolled) (maxL := 7) (ret := (some .int)) (by decide) rfl ?_
  intro pg e s m args below meth c s₁ B hml hv
  obtain ⟨rfl, hn, hsz, hE, hz9, hP, hK, hD0⟩ := hv
  subst hsz
  have hD := hD0.self (sz := s.heap.size)
  have hA : ∀ q : Nat, s.heap.size ≤ q → va_A (cs_O o9 f S ad cy) s.heap.size q := fun q h => Or.inr h
  have hS9 : va_S (va_A (cs_O o9 f S ad cy) s.heap.size) s.heap s.heap [] := va_S.rf
  have hx := B.exec
  have hb := B.bytes
  have hr := B.returns
  have hts := atoms_spec (ws := wsL_adlerRolled) B.pre
  have hown : s.vm.findClass RL = some m.cls := findClass_of_methodNamed B.named
  have hlocks := B.notSynchronized
  have hT : c.exceptionTable.toList = tableOf [(0, 14, 17, 13)] := vx_table (x := yL_adlerRolled) B (hts _ List.mem_cons_self)
  have hl := lv_entry ([.ref (ad 0), .int a, .int n, .int o, .int i, .ref o9]) (n := 7) (Nat.le_of_ble_eq_true rfl)
  rw [lg_entry_eq]
  generalize (lg_sl ([.ref (ad 0), .int a, .int n, .int o, .int i, .ref o9]) ++ List.replicate (7 - (lg_sl ([.ref (ad 0), .int a, .int n, .int o, .int i, .ref o9])).length) Slot.unset).toArray = ls at hl ⊢
  have hl : lv_has ls 7 [(0, .ref (ad 0)), (1, .int a), (2, .int n), (3, .int o), (4, .int i), (5, .ref o9)] := hl
  have hPL : va_P D vwCl (cs_L S ad cy) s.heap := cs_PR (w1 := ([(o9, .inl (cy 2, 1, .inr (.inl f)))] : va_W)) hP
  have hDL : va_D (va_A (cs_O o9 f S ad cy) s.heap.size) (cs_L S ad cy) := cs_DR (w1 := ([(o9, .inl (cy 2, 1, .inr (.inl f)))] : va_W)) hD
  have hF : ∀ q, va_A (cs_L S ad cy) s.heap.size q → va_A (cs_O o9 f S ad cy) s.heap.size q := cs_inR (w1 := ([(o9, .inl (cy 2, 1, .inr (.inl f)))] : va_W)) hD hS9 hA
  refine lv_aload hx hb dL_adlerRolled_0 (lv_at hl 5 rfl) ?_
  refine lv_iconst (v := nI 0) hx hb dL_adlerRolled_2 (by decide) ?_
  refine lv_aload_n hx hb dL_adlerRolled_3 rfl (lv_at hl 0 rfl) ?_
  refine lv_iload_n hx hb dL_adlerRolled_4 rfl (lv_at hl 1 rfl) ?_
  refine lv_iload_n hx hb dL_adlerRolled_5 rfl (lv_at hl 2 rfl) ?_
  refine lv_iload_n hx hb dL_adlerRolled_6 rfl (lv_at hl 3 rfl) ?_
  refine lv_iload hx hb dL_adlerRolled_7 (lv_at hl 4 rfl) ?_
  refine cs_xcalli (vx_runV (As := [.int a, .int n, .int o, .int i]) (rest := [.int (nI 0), .ref o9]) ⟨hx, hb, hml, hown, hts⟩ (k_X1_adlerRolled l hlf D S ad cy a n o i) (cwV 4 hts gL_adlerRolled_X1_adlerRolled rfl rfl rfl (by decide +kernel) ⟨(Nat.le_of_ble_eq_true rfl), (Nat.le_of_ble_eq_true rfl)⟩) ⟨cs_Bx.blind, va_recv hK hPL (ci := 1) (q0 := 0) rfl rfl, cs_Bx.at hE (hz9.narrow (fun q h => Or.inr h)) hPL hK⟩ rfl rfl hl.1 rfl (lv_room (Nat.le_of_ble_eq_true rfl)) dL_adlerRolled_9 ⟨(Nat.le_of_ble_eq_true rfl), (Nat.le_of_ble_eq_true rfl)⟩) (fun E ce q7 H1 h1 h2 h3 h4 h5 h6 => ?_) (fun rr hk => ?_)
  · have hS9 : va_S (va_A (cs_O o9 f S ad cy) s.heap.size) s.heap H1 [] := cs_Sx h2 h3
    have hP := cs_keep hP h3
    rcases h1 with ⟨hk, rfl⟩ | ⟨hk, rfl⟩ | ⟨hk, rfl⟩
    · refine vx_catch (own := RL) (name := cs_IAE) hown (tableOf []) ⟨0, 14, 17, 13⟩ (tableOf []) hT (fun z hz => by cases hz) (by decide) (by decide) (hts (.classLink RL 13 cs_IAE) (by decide +kernel)) (va_Nw.use rfl hE.2.1.1) h4 h5 h6 ?_
      refine lv_astore (lv' := [(6, .ref q7), (0, .ref (ad 0)), (1, .int a), (2, .int n), (3, .int o), (4, .int i), (5, .ref o9)]) hx hb dL_adlerRolled_17 hl (by decide) rfl (fun ls hl => ?_)
      refine lv_iconst (v := 1) hx hb dL_adlerRolled_19 (by decide) ?_
      refine W.widen (k := 4) (n := 24) (Nat.le_of_ble_eq_true rfl) (Nat.le_of_ble_eq_true rfl) ?_
      exact W.iret (v := 1) hx hb hr (fun t ht _ => cs_wend (K := 1) 1 f ⟨hk.symm, fun h => absurd (hk.symm.trans h) (by decide)⟩ hP hD hS9 t ht) hS9.2.2 dL_adlerRolled_20
    · exact absurd hk cs_k1n2
    · exact absurd hk cs_k1n3
  · obtain ⟨hk, rfl⟩ := hk
    refine lv_i2l (v := Int32.toInt64 (cs_vAdr a n o i)) hx hb dL_adlerRolled_12 rfl ?_
    refine cs_last (k := 0) hx hb hK hP hD hS9 0 2 cs_O0 rfl (by decide) (by decide) dL_adlerRolled_13 (fun H locs hP hD hS9 => ?_)
    have hP : va_P D vwCl (cs_O o9 (vp_updL f 0 (Int32.toInt64 (cs_vAdr a n o i))) S ad cy) H := hP
    have hD : va_D (va_A (cs_O o9 f S ad cy) s.heap.size) (cs_O o9 (vp_updL f 0 (Int32.toInt64 (cs_vAdr a n o i))) S ad cy) := hD
    refine lv_goto (tgt := 21) hx hb dL_adlerRolled_14 (by decide) ?_
    refine lv_iconst (v := 0) hx hb dL_adlerRolled_21 (by decide) ?_
    refine W.widen (k := 4) (n := 24) (Nat.le_of_ble_eq_true rfl) (Nat.le_of_ble_eq_true rfl) ?_
    exact W.iret (v := 0) hx hb hr (fun t ht _ => cs_wend (K := 0) 0 (vp_updL f 0 (Int32.toInt64 (cs_vAdr a n o i))) ⟨hk.symm, fun _ => cs_up0 (f := f) (x := Int32.toInt64 (cs_vAdr a n o i))⟩ hP hD hS9 t ht) hS9.2.2 dL_adlerRolled_22
