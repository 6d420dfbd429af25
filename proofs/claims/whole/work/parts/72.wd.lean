set_option maxHeartbeats 4000000 in
set_option maxRecDepth 100000 in
theorem k_L_sumOfPart (l : Launch) (hlf : l.stackTraces = false) (D : va_G) (S : cs_St) (ad : Nat → Nat) (cy : Nat → ClassId) (o9 : Nat) (f : Nat → Int64) (sz : Nat) (hS : cs_ok S) (v u a b : Int32) : Met l yL_sumOfPart wsL_sumOfPart ({ frames := 8, cells := 3, slots := 18, locals := 128 }) (va_Pc [.ref (ad 0), .int v, .int u, .int a, .int b, .ref o9] (cs_Bl D (cs_tys cy) (cs_O o9 f S ad cy) sz)) (cs_Qw D (cs_O o9 f S ad cy) (fun (f2 : Nat → Int64) => cs_O o9 f2 S ad cy) (fun r9 f2 => r9 = cs_kPar S v u a b ∧ (cs_kPar S v u a b = 0 → f2 0 = Int32.toInt64 (cs_vPar S v u a b)))) 3 18 (va_A (cs_O o9 f S ad cy) sz) := by
  refine cs_ofWH (cc := cL_sumOfPart) (maxL := 7) (ret := (some .int)) (by decide) rfl ?_
  intro pg e s m args below meth c s₁ B hml hv
  obtain ⟨rfl, hn, hsz, hE, hz9, hP, hK, hD0⟩ := hv
  subst hsz
  have hD := hD0.self (sz := s.heap.size)
  have hA : ∀ q : Nat, s.heap.size ≤ q → va_A (cs_O o9 f S ad cy) s.heap.size q := fun q h => Or.inr h
  have hS9 : va_S (va_A (cs_O o9 f S ad cy) s.heap.size) s.heap s.heap [] := va_S.rf
  have hx := B.exec
  have hb := B.bytes
  have hr := B.returns
  have hts := atoms_spec (ws := wsL_sumOfPart) B.pre
  have hown : s.vm.findClass RL = some m.cls := findClass_of_methodNamed B.named
  have hlocks := B.notSynchronized
  have hT : c.exceptionTable.toList = tableOf [(0, 14, 17, 21)] := vx_table (x := yL_sumOfPart) B (hts _ List.mem_cons_self)
  have hl := lv_entry ([.ref (ad 0), .int v, .int u, .int a, .int b, .ref o9]) (n := 7) (Nat.le_of_ble_eq_true rfl)
  rw [lg_entry_eq]
  generalize (lg_sl ([.ref (ad 0), .int v, .int u, .int a, .int b, .ref o9]) ++ List.replicate (7 - (lg_sl ([.ref (ad 0), .int v, .int u, .int a, .int b, .ref o9])).length) Slot.unset).toArray = ls at hl ⊢
  have hl : lv_has ls 7 [(0, .ref (ad 0)), (1, .int v), (2, .int u), (3, .int a), (4, .int b), (5, .ref o9)] := hl
  have hPL : va_P D vwCl (cs_L S ad cy) s.heap := cs_PR (w1 := ([(o9, .inl (cy 2, 1, .inr (.inl f)))] : va_W)) hP
  have hDL : va_D (va_A (cs_O o9 f S ad cy) s.heap.size) (cs_L S ad cy) := cs_DR (w1 := ([(o9, .inl (cy 2, 1, .inr (.inl f)))] : va_W)) hD
  have hF : ∀ q, va_A (cs_L S ad cy) s.heap.size q → va_A (cs_O o9 f S ad cy) s.heap.size q := cs_inR (w1 := ([(o9, .inl (cy 2, 1, .inr (.inl f)))] : va_W)) hD hS9 hA
  refine lv_aload hx hb dL_sumOfPart_0 (lv_at hl 5 rfl) ?_
  refine lv_iconst (v := nI 0) hx hb dL_sumOfPart_2 (by decide) ?_
  refine lv_aload_n hx hb dL_sumOfPart_3 rfl (lv_at hl 0 rfl) ?_
  refine lv_iload_n hx hb dL_sumOfPart_4 rfl (lv_at hl 1 rfl) ?_
  refine lv_iload_n hx hb dL_sumOfPart_5 rfl (lv_at hl 2 rfl) ?_
  refine lv_iload_n hx hb dL_sumOfPart_6 rfl (lv_at hl 3 rfl) ?_
  refine lv_iload hx hb dL_sumOfPart_7 (lv_at hl 4 rfl) ?_
  refine cs_xcalli (vx_runV (As := [.int v, .int u, .int a, .int b]) (rest := [.int (nI 0), .ref o9]) ⟨hx, hb, hml, hown, hts⟩ (k_X1_sumOfPart l hlf D S ad cy hS v u a b) (cwV 4 hts gL_sumOfPart_X1_sumOfPart rfl rfl rfl (by decide +kernel) ⟨(Nat.le_of_ble_eq_true rfl), (Nat.le_of_ble_eq_true rfl)⟩) ⟨cs_Bx.blind, va_recv hK hPL (ci := 1) (q0 := 0) rfl rfl, cs_Bx.at hE (hz9.narrow (fun q h => Or.inr h)) hPL hK⟩ rfl rfl hl.1 rfl (lv_room (Nat.le_of_ble_eq_true rfl)) dL_sumOfPart_9 ⟨(Nat.le_of_ble_eq_true rfl), (Nat.le_of_ble_eq_true rfl)⟩) (fun E ce q7 H1 h1 h2 h3 h4 h5 h6 => ?_) (fun rr hk => ?_)
  · have hS9 : va_S (va_A (cs_O o9 f S ad cy) s.heap.size) s.heap H1 [] := cs_Sx h2 h3
    have hP := cs_keep hP h3
    rcases h1 with ⟨hk, rfl⟩ | ⟨hk, rfl⟩ | ⟨hk, rfl⟩
    · refine vx_catch (own := RL) (name := cs_IOB) hown (tableOf []) ⟨0, 14, 17, 21⟩ (tableOf []) hT (fun z hz => by cases hz) (by decide) (by decide) (hts (.classLink RL 21 cs_IOB) (by decide +kernel)) (va_Nw.use rfl hE.2.1.2.2.1) h4 h5 h6 ?_
      refine lv_astore (lv' := [(6, .ref q7), (0, .ref (ad 0)), (1, .int v), (2, .int u), (3, .int a), (4, .int b), (5, .ref o9)]) hx hb dL_sumOfPart_17 hl (by decide) rfl (fun ls hl => ?_)
      refine lv_iconst (v := 1) hx hb dL_sumOfPart_19 (by decide) ?_
      refine W.widen (k := 3) (n := 18) (Nat.le_of_ble_eq_true rfl) (Nat.le_of_ble_eq_true rfl) ?_
      exact W.iret (v := 1) hx hb hr (fun t ht _ => cs_wend (K := 1) 1 f ⟨hk.symm, fun h => absurd (hk.symm.trans h) (by decide)⟩ hP hD hS9 t ht) hS9.2.2 dL_sumOfPart_20
    · exact absurd hk cs_k1n2
    · exact absurd hk cs_k1n3
  · obtain ⟨hk, rfl⟩ := hk
    refine lv_i2l (v := Int32.toInt64 (cs_vPar S v u a b)) hx hb dL_sumOfPart_12 rfl ?_
    refine cs_last (k := 0) hx hb hK hP hD hS9 0 2 cs_O0 rfl (by decide) (by decide) dL_sumOfPart_13 (fun H locs hP hD hS9 => ?_)
    have hP : va_P D vwCl (cs_O o9 (vp_updL f 0 (Int32.toInt64 (cs_vPar S v u a b))) S ad cy) H := hP
    have hD : va_D (va_A (cs_O o9 f S ad cy) s.heap.size) (cs_O o9 (vp_updL f 0 (Int32.toInt64 (cs_vPar S v u a b))) S ad cy) := hD
    refine lv_goto (tgt := 21) hx hb dL_sumOfPart_14 (by decide) ?_
    refine lv_iconst (v := 0) hx hb dL_sumOfPart_21 (by decide) ?_
    refine W.widen (k := 3) (n := 18) (Nat.le_of_ble_eq_true rfl) (Nat.le_of_ble_eq_true rfl) ?_
    exact W.iret (v := 0) hx hb hr (fun t ht _ => cs_wend (K := 0) 0 (vp_updL f 0 (Int32.toInt64 (cs_vPar S v u a b))) ⟨hk.symm, fun _ => cs_up0 (f := f) (x := Int32.toInt64 (cs_vPar S v u a b))⟩ hP hD hS9 t ht) hS9.2.2 dL_sumOfPart_22
set_option maxHeartbeats 4000000 in
set_option maxRecDepth 100000 in
theorem k_L_remainder (l : Launch) (hlf : l.stackTraces = false) (D : va_G) (S : cs_St) (ad : Nat → Nat) (cy : Nat → ClassId) (o9 : Nat) (f : Nat → Int64) (sz : Nat) (hS : cs_ok S) (v u : Int32) : Met l yL_remainder wsL_remainder ({ frames := 8, cells := 2, slots := 12, locals := 129 }) (va_Pc [.ref (ad 0), .int v, .int u, .ref o9] (cs_Bl D (cs_tys cy) (cs_O o9 f S ad cy) sz)) (cs_Qw D (cs_O o9 f S ad cy) (fun (f2 : Nat → Int64) => cs_O o9 f2 S ad cy) (fun r9 f2 => r9 = cs_k1 (cs_M S v && cs_in u 0 3) ∧ (cs_k1 (cs_M S v && cs_in u 0 3) = 0 → f2 0 = Int32.toInt64 (cs_vRem S v u)))) 2 12 (va_A (cs_O o9 f S ad cy) sz) := by
  refine cs_ofWH (cc := cL_remainder) (maxL := 5) (ret := (some .int)) (by decide) rfl ?_
  intro pg e s m args below meth c s₁ B hml hv
  obtain ⟨rfl, hn, hsz, hE, hz9, hP, hK, hD0⟩ := hv
  subst hsz
  have hD := hD0.self (sz := s.heap.size)
  have hA : ∀ q : Nat, s.heap.size ≤ q → va_A (cs_O o9 f S ad cy) s.heap.size q := fun q h => Or.inr h
  have hS9 : va_S (va_A (cs_O o9 f S ad cy) s.heap.size) s.heap s.heap [] := va_S.rf
  have hx := B.exec
  have hb := B.bytes
  have hr := B.returns
  have hts := atoms_spec (ws := wsL_remainder) B.pre
  have hown : s.vm.findClass RL = some m.cls := findClass_of_methodNamed B.named
  have hlocks := B.notSynchronized
  have hT : c.exceptionTable.toList = tableOf [(0, 10, 13, 21)] := vx_table (x := yL_remainder) B (hts _ List.mem_cons_self)
  have hl := lv_entry ([.ref (ad 0), .int v, .int u, .ref o9]) (n := 5) (Nat.le_of_ble_eq_true rfl)
  rw [lg_entry_eq]
  generalize (lg_sl ([.ref (ad 0), .int v, .int u, .ref o9]) ++ List.replicate (5 - (lg_sl ([.ref (ad 0), .int v, .int u, .ref o9])).length) Slot.unset).toArray = ls at hl ⊢
  have hl : lv_has ls 5 [(0, .ref (ad 0)), (1, .int v), (2, .int u), (3, .ref o9)] := hl
  have hPL : va_P D vwCl (cs_L S ad cy) s.heap := cs_PR (w1 := ([(o9, .inl (cy 2, 1, .inr (.inl f)))] : va_W)) hP
  have hDL : va_D (va_A (cs_O o9 f S ad cy) s.heap.size) (cs_L S ad cy) := cs_DR (w1 := ([(o9, .inl (cy 2, 1, .inr (.inl f)))] : va_W)) hD
  have hF : ∀ q, va_A (cs_L S ad cy) s.heap.size q → va_A (cs_O o9 f S ad cy) s.heap.size q := cs_inR (w1 := ([(o9, .inl (cy 2, 1, .inr (.inl f)))] : va_W)) hD hS9 hA
  refine lv_aload_n hx hb dL_remainder_0 rfl (lv_at hl 3 rfl) ?_
  refine lv_iconst (v := nI 0) hx hb dL_remainder_1 (by decide) ?_
  refine lv_aload_n hx hb dL_remainder_2 rfl (lv_at hl 0 rfl) ?_
  refine lv_iload_n hx hb dL_remainder_3 rfl (lv_at hl 1 rfl) ?_
  refine lv_iload_n hx hb dL_remainder_4 rfl (lv_at hl 2 rfl) ?_
  refine cs_xcalli (vx_runV (As := [.int v, .int u]) (rest := [.int (nI 0), .ref o9]) ⟨hx, hb, hml, hown, hts⟩ (k_X1_remainder l hlf D S ad cy hS v u) (cwV 2 hts gL_remainder_X1_remainder rfl rfl rfl (by decide +kernel) ⟨(Nat.le_of_ble_eq_true rfl), (Nat.le_of_ble_eq_true rfl)⟩) ⟨cs_Bx.blind, va_recv hK hPL (ci := 1) (q0 := 0) rfl rfl, cs_Bx.at hE (hz9.narrow (fun q h => Or.inr h)) hPL hK⟩ rfl rfl hl.1 rfl (lv_room (Nat.le_of_ble_eq_true rfl)) dL_remainder_5 ⟨(Nat.le_of_ble_eq_true rfl), (Nat.le_of_ble_eq_true rfl)⟩) (fun E ce q7 H1 h1 h2 h3 h4 h5 h6 => ?_) (fun rr hk => ?_)
  · have hS9 : va_S (va_A (cs_O o9 f S ad cy) s.heap.size) s.heap H1 [] := cs_Sx h2 h3
    have hP := cs_keep hP h3
    rcases h1 with ⟨hk, rfl⟩ | ⟨hk, rfl⟩ | ⟨hk, rfl⟩
    · refine vx_catch (own := RL) (name := cs_IOB) hown (tableOf []) ⟨0, 10, 13, 21⟩ (tableOf []) hT (fun z hz => by cases hz) (by decide) (by decide) (hts (.classLink RL 21 cs_IOB) (by decide +kernel)) (va_Nw.use rfl hE.2.1.2.2.1) h4 h5 h6 ?_
      refine lv_astore (lv' := [(4, .ref q7), (0, .ref (ad 0)), (1, .int v), (2, .int u), (3, .ref o9)]) hx hb dL_remainder_13 hl (by decide) rfl (fun ls hl => ?_)
      refine lv_iconst (v := 1) hx hb dL_remainder_15 (by decide) ?_
      refine W.widen (k := 2) (n := 12) (Nat.le_of_ble_eq_true rfl) (Nat.le_of_ble_eq_true rfl) ?_
      exact W.iret (v := 1) hx hb hr (fun t ht _ => cs_wend (K := 1) 1 f ⟨hk.symm, fun h => absurd (hk.symm.trans h) (by decide)⟩ hP hD hS9 t ht) hS9.2.2 dL_remainder_16
    · exact absurd hk cs_k1n2
    · exact absurd hk cs_k1n3
  · obtain ⟨hk, rfl⟩ := hk
    refine lv_i2l (v := Int32.toInt64 (cs_vRem S v u)) hx hb dL_remainder_8 rfl ?_
    refine cs_last (k := 0) hx hb hK hP hD hS9 0 2 cs_O0 rfl (by decide) (by decide) dL_remainder_9 (fun H locs hP hD hS9 => ?_)
    have hP : va_P D vwCl (cs_O o9 (vp_updL f 0 (Int32.toInt64 (cs_vRem S v u))) S ad cy) H := hP
    have hD : va_D (va_A (cs_O o9 f S ad cy) s.heap.size) (cs_O o9 (vp_updL f 0 (Int32.toInt64 (cs_vRem S v u))) S ad cy) := hD
    refine lv_goto (tgt := 17) hx hb dL_remainder_10 (by decide) ?_
    refine lv_iconst (v := 0) hx hb dL_remainder_17 (by decide) ?_
    refine W.widen (k := 2) (n := 12) (Nat.le_of_ble_eq_true rfl) (Nat.le_of_ble_eq_true rfl) ?_
    exact W.iret (v := 0) hx hb hr (fun t ht _ => cs_wend (K := 0) 0 (vp_updL f 0 (Int32.toInt64 (cs_vRem S v u))) ⟨hk.symm, fun _ => cs_up0 (f := f) (x := Int32.toInt64 (cs_vRem S v u))⟩ hP hD hS9 t ht) hS9.2.2 dL_remainder_18
set_option maxHeartbeats 4000000 in
set_option maxRecDepth 100000 in
theorem k_L_joined (l : Launch) (hlf : l.stackTraces = false) (D : va_G) (S : cs_St) (ad : Nat → Nat) (cy : Nat → ClassId) (o9 : Nat) (f : Nat → Int64) (sz : Nat) (hS : cs_ok S) (v a b n : Int32) : Met l yL_joined wsL_joined ({ frames := 8, cells := 4, slots := 24, locals := 131 }) (va_Pc [.ref (ad 0), .int v, .int a, .int b, .int n, .ref o9] (cs_Bl D (cs_tys cy) (cs_O o9 f S ad cy) sz)) (cs_Qw D (cs_O o9 f S ad cy) (fun (f2 : Nat → Int64) => cs_O o9 f2 S ad cy) (fun r9 f2 => r9 = cs_kJoi S v a b n ∧ (cs_kJoi S v a b n = 0 → f2 0 = Int32.toInt64 (cs_vJoi S v a b n)))) 4 24 (va_A (cs_O o9 f S ad cy) sz) := by
  refine cs_ofWH (cc := cL_joined) (maxL := 7) (ret := (some .int)) (by decide) rfl ?_
  intro pg e s m args below meth c s₁ B hml hv
  obtain ⟨rfl, hn, hsz, hE, hz9, hP, hK, hD0⟩ := hv
  subst hsz
  have hD := hD0.self (sz := s.heap.size)
  have hA : ∀ q : Nat, s.heap.size ≤ q → va_A (cs_O o9 f S ad cy) s.heap.size q := fun q h => Or.inr h
  have hS9 : va_S (va_A (cs_O o9 f S ad cy) s.heap.size) s.heap s.heap [] := va_S.rf
  have hx := B.exec
  have hb := B.bytes
  have hr := B.returns
  have hts := atoms_spec (ws := wsL_joined) B.pre
  have hown : s.vm.findClass RL = some m.cls := findClass_of_methodNamed B.named
  have hlocks := B.notSynchronized
  have hT : c.exceptionTable.toList = tableOf [(0, 14, 17, 21), (0, 14, 21, 13)] := vx_table (x := yL_joined) B (hts _ List.mem_cons_self)
  have hl := lv_entry ([.ref (ad 0), .int v, .int a, .int b, .int n, .ref o9]) (n := 7) (Nat.le_of_ble_eq_true rfl)
  rw [lg_entry_eq]
  generalize (lg_sl ([.ref (ad 0), .int v, .int a, .int b, .int n, .ref o9]) ++ List.replicate (7 - (lg_sl ([.ref (ad 0), .int v, .int a, .int b, .int n, .ref o9])).length) Slot.unset).toArray = ls at hl ⊢
  have hl : lv_has ls 7 [(0, .ref (ad 0)), (1, .int v), (2, .int a), (3, .int b), (4, .int n), (5, .ref o9)] := hl
  have hPL : va_P D vwCl (cs_L S ad cy) s.heap := cs_PR (w1 := ([(o9, .inl (cy 2, 1, .inr (.inl f)))] : va_W)) hP
  have hDL : va_D (va_A (cs_O o9 f S ad cy) s.heap.size) (cs_L S ad cy) := cs_DR (w1 := ([(o9, .inl (cy 2, 1, .inr (.inl f)))] : va_W)) hD
  have hF : ∀ q, va_A (cs_L S ad cy) s.heap.size q → va_A (cs_O o9 f S ad cy) s.heap.size q := cs_inR (w1 := ([(o9, .inl (cy 2, 1, .inr (.inl f)))] : va_W)) hD hS9 hA
  refine lv_aload hx hb dL_joined_0 (lv_at hl 5 rfl) ?_
  refine lv_iconst (v := nI 0) hx hb dL_joined_2 (by decide) ?_
  refine lv_aload_n hx hb dL_joined_3 rfl (lv_at hl 0 rfl) ?_
  refine lv_iload_n hx hb dL_joined_4 rfl (lv_at hl 1 rfl) ?_
  refine lv_iload_n hx hb dL_joined_5 rfl (lv_at hl 2 rfl) ?_
  refine lv_iload_n hx hb dL_joined_6 rfl (lv_at hl 3 rfl) ?_
  refine lv_iload hx hb dL_joined_7 (lv_at hl 4 rfl) ?_
  refine cs_xcalli (vx_runV (As := [.int v, .int a, .int b, .int n]) (rest := [.int (nI 0), .ref o9]) ⟨hx, hb, hml, hown, hts⟩ (k_X1_joined l hlf D S ad cy hS v a b n) (cwV 4 hts gL_joined_X1_joined rfl rfl rfl (by decide +kernel) ⟨(Nat.le_of_ble_eq_true rfl), (Nat.le_of_ble_eq_true rfl)⟩) ⟨cs_Bx.blind, va_recv hK hPL (ci := 1) (q0 := 0) rfl rfl, cs_Bx.at hE (hz9.narrow (fun q h => Or.inr h)) hPL hK⟩ rfl rfl hl.1 rfl (lv_room (Nat.le_of_ble_eq_true rfl)) dL_joined_9 ⟨(Nat.le_of_ble_eq_true rfl), (Nat.le_of_ble_eq_true rfl)⟩) (fun E ce q7 H1 h1 h2 h3 h4 h5 h6 => ?_) (fun rr hk => ?_)
  · have hS9 : va_S (va_A (cs_O o9 f S ad cy) s.heap.size) s.heap H1 [] := cs_Sx h2 h3
    have hP := cs_keep hP h3
    rcases h1 with ⟨hk, rfl⟩ | ⟨hk, rfl⟩ | ⟨hk, rfl⟩
    · refine vx_catch (own := RL) (name := cs_IOB) hown (tableOf []) ⟨0, 14, 17, 21⟩ (tableOf [(0, 14, 21, 13)]) hT (fun z hz => by cases hz) (by decide) (by decide) (hts (.classLink RL 21 cs_IOB) (by decide +kernel)) (va_Nw.use rfl hE.2.1.2.2.1) h4 h5 h6 ?_
      refine lv_astore (lv' := [(6, .ref q7), (0, .ref (ad 0)), (1, .int v), (2, .int a), (3, .int b), (4, .int n), (5, .ref o9)]) hx hb dL_joined_17 hl (by decide) rfl (fun ls hl => ?_)
      refine lv_iconst (v := 1) hx hb dL_joined_19 (by decide) ?_
      refine W.widen (k := 4) (n := 24) (Nat.le_of_ble_eq_true rfl) (Nat.le_of_ble_eq_true rfl) ?_
      exact W.iret (v := 1) hx hb hr (fun t ht _ => cs_wend (K := 1) 1 f ⟨hk.symm, fun h => absurd (hk.symm.trans h) (by decide)⟩ hP hD hS9 t ht) hS9.2.2 dL_joined_20
    · refine vx_catch (own := RL) (name := cs_IAE) hown (tableOf [(0, 14, 17, 21)]) ⟨0, 14, 21, 13⟩ (tableOf []) hT (fun z hz => by rcases List.mem_cons.mp hz with rfl | hz; exact Or.inr ⟨by decide, cs_IOB, hts (.classLink RL 21 cs_IOB) (by decide +kernel), hn.2.1⟩; cases hz) (by decide) (by decide) (hts (.classLink RL 13 cs_IAE) (by decide +kernel)) (va_Nw.use rfl hE.2.1.1) h4 h5 h6 ?_
      refine lv_astore (lv' := [(6, .ref q7), (0, .ref (ad 0)), (1, .int v), (2, .int a), (3, .int b), (4, .int n), (5, .ref o9)]) hx hb dL_joined_21 hl (by decide) rfl (fun ls hl => ?_)
      refine lv_iconst (v := 2) hx hb dL_joined_23 (by decide) ?_
      refine W.widen (k := 4) (n := 24) (Nat.le_of_ble_eq_true rfl) (Nat.le_of_ble_eq_true rfl) ?_
      exact W.iret (v := 2) hx hb hr (fun t ht _ => cs_wend (K := 2) 2 f ⟨hk.symm, fun h => absurd (hk.symm.trans h) (by decide)⟩ hP hD hS9 t ht) hS9.2.2 dL_joined_24
    · exact absurd hk cs_k2n3
  · obtain ⟨hk, rfl⟩ := hk
    refine lv_i2l (v := Int32.toInt64 (cs_vJoi S v a b n)) hx hb dL_joined_12 rfl ?_
    refine cs_last (k := 0) hx hb hK hP hD hS9 0 2 cs_O0 rfl (by decide) (by decide) dL_joined_13 (fun H locs hP hD hS9 => ?_)
    have hP : va_P D vwCl (cs_O o9 (vp_updL f 0 (Int32.toInt64 (cs_vJoi S v a b n))) S ad cy) H := hP
    have hD : va_D (va_A (cs_O o9 f S ad cy) s.heap.size) (cs_O o9 (vp_updL f 0 (Int32.toInt64 (cs_vJoi S v a b n))) S ad cy) := hD
    refine lv_goto (tgt := 25) hx hb dL_joined_14 (by decide) ?_
    refine lv_iconst (v := 0) hx hb dL_joined_25 (by decide) ?_
    refine W.widen (k := 4) (n := 24) (Nat.le_of_ble_eq_true rfl) (Nat.le_of_ble_eq_true rfl) ?_
    exact W.iret (v := 0) hx hb hr (fun t ht _ => cs_wend (K := 0) 0 (vp_updL f 0 (Int32.toInt64 (cs_vJoi S v a b n))) ⟨hk.symm, fun _ => cs_up0 (f := f) (x := Int32.toInt64 (cs_vJoi S v a b n))⟩ hP hD hS9 t ht) hS9.2.2 dL_joined_26
set_option maxHeartbeats 4000000 in
set_option maxRecDepth 100000 in
theorem k_L_patched (l : Launch) (hlf : l.stackTraces = false) (D : va_G) (S : cs_St) (ad : Nat → Nat) (cy : Nat → ClassId) (o9 : Nat) (f : Nat → Int64) (sz : Nat) (hS : cs_ok S) (hp : cs_okp S) (v a n d : Int32) : Met l yL_patched wsL_patched ({ frames := 8, cells := 4, slots := 24, locals := 131 }) (va_Pc [.ref (ad 0), .int v, .int a, .int n, .int d, .ref o9] (cs_Bl D (cs_tys cy) (cs_O o9 f S ad cy) sz)) (cs_Qw D (cs_O o9 f S ad cy) (fun (f2 : Nat → Int64) => cs_O o9 f2 S ad cy) (fun r9 f2 => r9 = cs_kPat S v a n d ∧ (cs_kPat S v a n d = 0 → f2 0 = Int32.toInt64 (cs_vPat S v a n d)))) 4 24 (va_A (cs_O o9 f S ad cy) sz) := by
  refine cs_ofWH (cc := cL_patched) (maxL := 7) (ret := (some .int)) (by decide) rfl ?_
  intro pg e s m args below meth c s₁ B hml hv
  obtain ⟨rfl, hn, hsz, hE, hz9, hP, hK, hD0⟩ := hv
  subst hsz
  have hD := hD0.self (sz := s.heap.size)
  have hA : ∀ q : Nat, s.heap.size ≤ q → va_A (cs_O o9 f S ad cy) s.heap.size q := fun q h => Or.inr h
  have hS9 : va_S (va_A (cs_O o9 f S ad cy) s.heap.size) s.heap s.heap [] := va_S.rf
  have hx := B.exec
  have hb := B.bytes
  have hr := B.returns
  have hts := atoms_spec (ws := wsL_patched) B.pre
  have hown : s.vm.findClass RL = some m.cls := findClass_of_methodNamed B.named
  have hlocks := B.notSynchronized
  have hT : c.exceptionTable.toList = tableOf [(0, 14, 17, 21), (0, 14, 21, 13)] := vx_table (x := yL_patched) B (hts _ List.mem_cons_self)
  have hl := lv_entry ([.ref (ad 0), .int v, .int a, .int n, .int d, .ref o9]) (n := 7) (Nat.le_of_ble_eq_true rfl)
  rw [lg_entry_eq]
  generalize (lg_sl ([.ref (ad 0), .int v, .int a, .int n, .int d, .ref o9]) ++ List.replicate (7 - (lg_sl ([.ref (ad 0), .int v, .int a, .int n, .int d, .ref o9])).length) Slot.unset).toArray = ls at hl ⊢
  have hl : lv_has ls 7 [(0, .ref (ad 0)), (1, .int v), (2, .int a), (3, .int n), (4, .int d), (5, .ref o9)] := hl
  have hPL : va_P D vwCl (cs_L S ad cy) s.heap := cs_PR (w1 := ([(o9, .inl (cy 2, 1, .inr (.inl f)))] : va_W)) hP
  have hDL : va_D (va_A (cs_O o9 f S ad cy) s.heap.size) (cs_L S ad cy) := cs_DR (w1 := ([(o9, .inl (cy 2, 1, .inr (.inl f)))] : va_W)) hD
  have hF : ∀ q, va_A (cs_L S ad cy) s.heap.size q → va_A (cs_O o9 f S ad cy) s.heap.size q := cs_inR (w1 := ([(o9, .inl (cy 2, 1, .inr (.inl f)))] : va_W)) hD hS9 hA
  refine lv_aload hx hb dL_patched_0 (lv_at hl 5 rfl) ?_
  refine lv_iconst (v := nI 0) hx hb dL_patched_2 (by decide) ?_
  refine lv_aload_n hx hb dL_patched_3 rfl (lv_at hl 0 rfl) ?_
  refine lv_iload_n hx hb dL_patched_4 rfl (lv_at hl 1 rfl) ?_
  refine lv_iload_n hx hb dL_patched_5 rfl (lv_at hl 2 rfl) ?_
  refine lv_iload_n hx hb dL_patched_6 rfl (lv_at hl 3 rfl) ?_
  refine lv_iload hx hb dL_patched_7 (lv_at hl 4 rfl) ?_
  refine cs_xcalli (vx_runV (As := [.int v, .int a, .int n, .int d]) (rest := [.int (nI 0), .ref o9]) ⟨hx, hb, hml, hown, hts⟩ (k_X1_patched l hlf D S ad cy hS hp v a n d) (cwV 4 hts gL_patched_X1_patched rfl rfl rfl (by decide +kernel) ⟨(Nat.le_of_ble_eq_true rfl), (Nat.le_of_ble_eq_true rfl)⟩) ⟨cs_Bx.blind, va_recv hK hPL (ci := 1) (q0 := 0) rfl rfl, cs_Bx.at hE (hz9.narrow (fun q h => Or.inr h)) hPL hK⟩ rfl rfl hl.1 rfl (lv_room (Nat.le_of_ble_eq_true rfl)) dL_patched_9 ⟨(Nat.le_of_ble_eq_true rfl), (Nat.le_of_ble_eq_true rfl)⟩) (fun E ce q7 H1 h1 h2 h3 h4 h5 h6 => ?_) (fun rr hk => ?_)
  · have hS9 : va_S (va_A (cs_O o9 f S ad cy) s.heap.size) s.heap H1 [] := cs_Sx h2 h3
    have hP := cs_keep hP h3
    rcases h1 with ⟨hk, rfl⟩ | ⟨hk, rfl⟩ | ⟨hk, rfl⟩
    · refine vx_catch (own := RL) (name := cs_IOB) hown (tableOf []) ⟨0, 14, 17, 21⟩ (tableOf [(0, 14, 21, 13)]) hT (fun z hz => by cases hz) (by decide) (by decide) (hts (.classLink RL 21 cs_IOB) (by decide +kernel)) (va_Nw.use rfl hE.2.1.2.2.1) h4 h5 h6 ?_
      refine lv_astore (lv' := [(6, .ref q7), (0, .ref (ad 0)), (1, .int v), (2, .int a), (3, .int n), (4, .int d), (5, .ref o9)]) hx hb dL_patched_17 hl (by decide) rfl (fun ls hl => ?_)
      refine lv_iconst (v := 1) hx hb dL_patched_19 (by decide) ?_
      refine W.widen (k := 4) (n := 24) (Nat.le_of_ble_eq_true rfl) (Nat.le_of_ble_eq_true rfl) ?_
      exact W.iret (v := 1) hx hb hr (fun t ht _ => cs_wend (K := 1) 1 f ⟨hk.symm, fun h => absurd (hk.symm.trans h) (by decide)⟩ hP hD hS9 t ht) hS9.2.2 dL_patched_20
    · refine vx_catch (own := RL) (name := cs_IAE) hown (tableOf [(0, 14, 17, 21)]) ⟨0, 14, 21, 13⟩ (tableOf []) hT (fun z hz => by rcases List.mem_cons.mp hz with rfl | hz; exact Or.inr ⟨by decide, cs_IOB, hts (.classLink RL 21 cs_IOB) (by decide +kernel), hn.2.1⟩; cases hz) (by decide) (by decide) (hts (.classLink RL 13 cs_IAE) (by decide +kernel)) (va_Nw.use rfl hE.2.1.1) h4 h5 h6 ?_
      refine lv_astore (lv' := [(6, .ref q7), (0, .ref (ad 0)), (1, .int v), (2, .int a), (3, .int n), (4, .int d), (5, .ref o9)]) hx hb dL_patched_21 hl (by decide) rfl (fun ls hl => ?_)
      refine lv_iconst (v := 2) hx hb dL_patched_23 (by decide) ?_
      refine W.widen (k := 4) (n := 24) (Nat.le_of_ble_eq_true rfl) (Nat.le_of_ble_eq_true rfl) ?_
      exact W.iret (v := 2) hx hb hr (fun t ht _ => cs_wend (K := 2) 2 f ⟨hk.symm, fun h => absurd (hk.symm.trans h) (by decide)⟩ hP hD hS9 t ht) hS9.2.2 dL_patched_24
    · exact absurd hk cs_k2n3
  · obtain ⟨hk, rfl⟩ := hk
    refine lv_i2l (v := Int32.toInt64 (cs_vPat S v a n d)) hx hb dL_patched_12 rfl ?_
    refine cs_last (k := 0) hx hb hK hP hD hS9 0 2 cs_O0 rfl (by decide) (by decide) dL_patched_13 (fun H locs hP hD hS9 => ?_)
    have hP : va_P D vwCl (cs_O o9 (vp_updL f 0 (Int32.toInt64 (cs_vPat S v a n d))) S ad cy) H := hP
    have hD : va_D (va_A (cs_O o9 f S ad cy) s.heap.size) (cs_O o9 (vp_updL f 0 (Int32.toInt64 (cs_vPat S v a n d))) S ad cy) := hD
    refine lv_goto (tgt := 25) hx hb dL_patched_14 (by decide) ?_
    refine lv_iconst (v := 0) hx hb dL_patched_25 (by decide) ?_
    refine W.widen (k := 4) (n := 24) (Nat.le_of_ble_eq_true rfl) (Nat.le_of_ble_eq_true rfl) ?_
    exact W.iret (v := 0) hx hb hr (fun t ht _ => cs_wend (K := 0) 0 (vp_updL f 0 (Int32.toInt64 (cs_vPat S v a n d))) ⟨hk.symm, fun _ => cs_up0 (f := f) (x := Int32.toInt64 (cs_vPat S v a n d))⟩ hP hD hS9 t ht) hS9.2.2 dL_patched_26
set_option maxHeartbeats 4000000 in
set_option maxRecDepth 100000 in
theorem k_L_wrongBit (l : Launch) (hlf : l.stackTraces = false) (D : va_G) (S : cs_St) (ad : Nat → Nat) (cy : Nat → ClassId) (o9 : Nat) (f : Nat → Int64) (sz : Nat) (hS : cs_ok S) (v d n : Int32) : Met l yL_wrongBit wsL_wrongBit ({ frames := 8, cells := 3, slots := 18, locals := 131 }) (va_Pc [.ref (ad 0), .int v, .int d, .int n, .ref o9] (cs_Bl D (cs_tys cy) (cs_O o9 f S ad cy) sz)) (cs_Qw D (cs_O o9 f S ad cy) (fun (f2 : Nat → Int64) => cs_O o9 f2 S ad cy) (fun r9 f2 => r9 = cs_kWro S v d n ∧ (cs_kWro S v d n = 0 → f2 0 = Int32.toInt64 (cs_vWro S v d n)))) 3 18 (va_A (cs_O o9 f S ad cy) sz) := by
  refine cs_ofWH (cc := cL_wrongBit) (maxL := 6) (ret := (some .int)) (by decide) rfl ?_
  intro pg e s m args below meth c s₁ B hml hv
  obtain ⟨rfl, hn, hsz, hE, hz9, hP, hK, hD0⟩ := hv
  subst hsz
  have hD := hD0.self (sz := s.heap.size)
  have hA : ∀ q : Nat, s.heap.size ≤ q → va_A (cs_O o9 f S ad cy) s.heap.size q := fun q h => Or.inr h
  have hS9 : va_S (va_A (cs_O o9 f S ad cy) s.heap.size) s.heap s.heap [] := va_S.rf
  have hx := B.exec
  have hb := B.bytes
  have hr := B.returns
  have hts := atoms_spec (ws := wsL_wrongBit) B.pre
  have hown : s.vm.findClass RL = some m.cls := findClass_of_methodNamed B.named
  have hlocks := B.notSynchronized
  have hT : c.exceptionTable.toList = tableOf [(0, 12, 15, 21), (0, 12, 19, 13)] := vx_table (x := yL_wrongBit) B (hts _ List.mem_cons_self)
  have hl := lv_entry ([.ref (ad 0), .int v, .int d, .int n, .ref o9]) (n := 6) (Nat.le_of_ble_eq_true rfl)
  rw [lg_entry_eq]
  generalize (lg_sl ([.ref (ad 0), .int v, .int d, .int n, .ref o9]) ++ List.replicate (6 - (lg_sl ([.ref (ad 0), .int v, .int d, .int n, .ref o9])).length) Slot.unset).toArray = ls at hl ⊢
  have hl : lv_has ls 6 [(0, .ref (ad 0)), (1, .int v), (2, .int d), (3, .int n), (4, .ref o9)] := hl
  have hPL : va_P D vwCl (cs_L S ad cy) s.heap := cs_PR (w1 := ([(o9, .inl (cy 2, 1, .inr (.inl f)))] : va_W)) hP
  have hDL : va_D (va_A (cs_O o9 f S ad cy) s.heap.size) (cs_L S ad cy) := cs_DR (w1 := ([(o9, .inl (cy 2, 1, .inr (.inl f)))] : va_W)) hD
  have hF : ∀ q, va_A (cs_L S ad cy) s.heap.size q → va_A (cs_O o9 f S ad cy) s.heap.size q := cs_inR (w1 := ([(o9, .inl (cy 2, 1, .inr (.inl f)))] : va_W)) hD hS9 hA
  refine lv_aload hx hb dL_wrongBit_0 (lv_at hl 4 rfl) ?_
  refine lv_iconst (v := nI 0) hx hb dL_wrongBit_2 (by decide) ?_
  refine lv_aload_n hx hb dL_wrongBit_3 rfl (lv_at hl 0 rfl) ?_
  refine lv_iload_n hx hb dL_wrongBit_4 rfl (lv_at hl 1 rfl) ?_
  refine lv_iload_n hx hb dL_wrongBit_5 rfl (lv_at hl 2 rfl) ?_
  refine lv_iload_n hx hb dL_wrongBit_6 rfl (lv_at hl 3 rfl) ?_
  refine cs_xcalli (vx_runV (As := [.int v, .int d, .int n]) (rest := [.int (nI 0), .ref o9]) ⟨hx, hb, hml, hown, hts⟩ (k_X1_wrongBit l hlf D S ad cy hS v d n) (cwV 3 hts gL_wrongBit_X1_wrongBit rfl rfl rfl (by decide +kernel) ⟨(Nat.le_of_ble_eq_true rfl), (Nat.le_of_ble_eq_true rfl)⟩) ⟨cs_Bx.blind, va_recv hK hPL (ci := 1) (q0 := 0) rfl rfl, cs_Bx.at hE (hz9.narrow (fun q h => Or.inr h)) hPL hK⟩ rfl rfl hl.1 rfl (lv_room (Nat.le_of_ble_eq_true rfl)) dL_wrongBit_7 ⟨(Nat.le_of_ble_eq_true rfl), (Nat.le_of_ble_eq_true rfl)⟩) (fun E ce q7 H1 h1 h2 h3 h4 h5 h6 => ?_) (fun rr hk => ?_)
  · have hS9 : va_S (va_A (cs_O o9 f S ad cy) s.heap.size) s.heap H1 [] := cs_Sx h2 h3
    have hP := cs_keep hP h3
    rcases h1 with ⟨hk, rfl⟩ | ⟨hk, rfl⟩ | ⟨hk, rfl⟩
    · refine vx_catch (own := RL) (name := cs_IOB) hown (tableOf []) ⟨0, 12, 15, 21⟩ (tableOf [(0, 12, 19, 13)]) hT (fun z hz => by cases hz) (by decide) (by decide) (hts (.classLink RL 21 cs_IOB) (by decide +kernel)) (va_Nw.use rfl hE.2.1.2.2.1) h4 h5 h6 ?_
      refine lv_astore (lv' := [(5, .ref q7), (0, .ref (ad 0)), (1, .int v), (2, .int d), (3, .int n), (4, .ref o9)]) hx hb dL_wrongBit_15 hl (by decide) rfl (fun ls hl => ?_)
      refine lv_iconst (v := 1) hx hb dL_wrongBit_17 (by decide) ?_
      refine W.widen (k := 3) (n := 18) (Nat.le_of_ble_eq_true rfl) (Nat.le_of_ble_eq_true rfl) ?_
      exact W.iret (v := 1) hx hb hr (fun t ht _ => cs_wend (K := 1) 1 f ⟨hk.symm, fun h => absurd (hk.symm.trans h) (by decide)⟩ hP hD hS9 t ht) hS9.2.2 dL_wrongBit_18
    · refine vx_catch (own := RL) (name := cs_IAE) hown (tableOf [(0, 12, 15, 21)]) ⟨0, 12, 19, 13⟩ (tableOf []) hT (fun z hz => by rcases List.mem_cons.mp hz with rfl | hz; exact Or.inr ⟨by decide, cs_IOB, hts (.classLink RL 21 cs_IOB) (by decide +kernel), hn.2.1⟩; cases hz) (by decide) (by decide) (hts (.classLink RL 13 cs_IAE) (by decide +kernel)) (va_Nw.use rfl hE.2.1.1) h4 h5 h6 ?_
      refine lv_astore (lv' := [(5, .ref q7), (0, .ref (ad 0)), (1, .int v), (2, .int d), (3, .int n), (4, .ref o9)]) hx hb dL_wrongBit_19 hl (by decide) rfl (fun ls hl => ?_)
      refine lv_iconst (v := 2) hx hb dL_wrongBit_21 (by decide) ?_
      refine W.widen (k := 3) (n := 18) (Nat.le_of_ble_eq_true rfl) (Nat.le_of_ble_eq_true rfl) ?_
      exact W.iret (v := 2) hx hb hr (fun t ht _ => cs_wend (K := 2) 2 f ⟨hk.symm, fun h => absurd (hk.symm.trans h) (by decide)⟩ hP hD hS9 t ht) hS9.2.2 dL_wrongBit_22
    · exact absurd hk cs_k2n3
  · obtain ⟨hk, rfl⟩ := hk
    refine lv_i2l (v := Int32.toInt64 (cs_vWro S v d n)) hx hb dL_wrongBit_10 rfl ?_
    refine cs_last (k := 0) hx hb hK hP hD hS9 0 2 cs_O0 rfl (by decide) (by decide) dL_wrongBit_11 (fun H locs hP hD hS9 => ?_)
    have hP : va_P D vwCl (cs_O o9 (vp_updL f 0 (Int32.toInt64 (cs_vWro S v d n))) S ad cy) H := hP
    have hD : va_D (va_A (cs_O o9 f S ad cy) s.heap.size) (cs_O o9 (vp_updL f 0 (Int32.toInt64 (cs_vWro S v d n))) S ad cy) := hD
    refine lv_goto (tgt := 23) hx hb dL_wrongBit_12 (by decide) ?_
    refine lv_iconst (v := 0) hx hb dL_wrongBit_23 (by decide) ?_
    refine W.widen (k := 3) (n := 18) (Nat.le_of_ble_eq_true rfl) (Nat.le_of_ble_eq_true rfl) ?_
    exact W.iret (v := 0) hx hb hr (fun t ht _ => cs_wend (K := 0) 0 (vp_updL f 0 (Int32.toInt64 (cs_vWro S v d n))) ⟨hk.symm, fun _ => cs_up0 (f := f) (x := Int32.toInt64 (cs_vWro S v d n))⟩ hP hD hS9 t ht) hS9.2.2 dL_wrongBit_24
