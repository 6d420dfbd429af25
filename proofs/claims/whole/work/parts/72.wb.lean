set_option maxHeartbeats 4000000 in
set_option maxRecDepth 100000 in
theorem k_L_append (l : Launch) (hlf : l.stackTraces = false) (D : va_G) (S : cs_St) (ad : Nat → Nat) (cy : Nat → ClassId) (o9 : Nat) (f : Nat → Int64) (sz : Nat) (hS : cs_ok S) (v u : Int32) : Met l yL_append wsL_append ({ frames := 8, cells := 3, slots := 18, locals := 126 }) (va_Pc [.ref (ad 0), .int v, .int u, .ref o9] (cs_Bl D (cs_tys cy) (cs_O o9 f S ad cy) sz)) (cs_Qw D (cs_O o9 f S ad cy) (fun (f2 : Nat → Int64) => cs_O o9 f2 (cs_sApp S v u) ad cy) (fun r9 f2 => r9 = cs_kApp S v u ∧ (cs_kApp S v u = 0 → f2 0 = Int32.toInt64 (cs_vApp S v)))) 3 18 (va_A (cs_O o9 f S ad cy) sz) := by
  refine cs_ofWH (cc := cL_append) (maxL := 5) (ret := (some .int)) (by decide) rfl ?_
  intro pg e s m args below meth c s₁ B hml hv
  obtain ⟨rfl, hn, hsz, hE, hz9, hP, hK, hD0⟩ := hv
  subst hsz
  have hD := hD0.self (sz := s.heap.size)
  have hA : ∀ q : Nat, s.heap.size ≤ q → va_A (cs_O o9 f S ad cy) s.heap.size q := fun q h => Or.inr h
  have hS9 : va_S (va_A (cs_O o9 f S ad cy) s.heap.size) s.heap s.heap [] := va_S.rf
  have hx := B.exec
  have hb := B.bytes
  have hr := B.returns
  have hts := atoms_spec (ws := wsL_append) B.pre
  have hown : s.vm.findClass RL = some m.cls := findClass_of_methodNamed B.named
  have hlocks := B.notSynchronized
  have hT : c.exceptionTable.toList = tableOf [(0, 10, 13, 21), (0, 10, 17, 13), (0, 10, 21, 15)] := vx_table (x := yL_append) B (hts _ List.mem_cons_self)
  have hl := lv_entry ([.ref (ad 0), .int v, .int u, .ref o9]) (n := 5) (Nat.le_of_ble_eq_true rfl)
  rw [lg_entry_eq]
  generalize (lg_sl ([.ref (ad 0), .int v, .int u, .ref o9]) ++ List.replicate (5 - (lg_sl ([.ref (ad 0), .int v, .int u, .ref o9])).length) Slot.unset).toArray = ls at hl ⊢
  have hl : lv_has ls 5 [(0, .ref (ad 0)), (1, .int v), (2, .int u), (3, .ref o9)] := hl
  have hPL : va_P D vwCl (cs_L S ad cy) s.heap := cs_PR (w1 := ([(o9, .inl (cy 2, 1, .inr (.inl f)))] : va_W)) hP
  have hDL : va_D (va_A (cs_O o9 f S ad cy) s.heap.size) (cs_L S ad cy) := cs_DR (w1 := ([(o9, .inl (cy 2, 1, .inr (.inl f)))] : va_W)) hD
  have hF : ∀ q, va_A (cs_L S ad cy) s.heap.size q → va_A (cs_O o9 f S ad cy) s.heap.size q := cs_inR (w1 := ([(o9, .inl (cy 2, 1, .inr (.inl f)))] : va_W)) hD hS9 hA
  refine lv_aload_n hx hb dL_append_0 rfl (lv_at hl 3 rfl) ?_
  refine lv_iconst (v := nI 0) hx hb dL_append_1 (by decide) ?_
  refine lv_aload_n hx hb dL_append_2 rfl (lv_at hl 0 rfl) ?_
  refine lv_iload_n hx hb dL_append_3 rfl (lv_at hl 1 rfl) ?_
  refine lv_iload_n hx hb dL_append_4 rfl (lv_at hl 2 rfl) ?_
  refine cs_wxcalli (vx_runV (As := [.int v, .int u]) (rest := [.int (nI 0), .ref o9]) ⟨hx, hb, hml, hown, hts⟩ (k_X1_append l hlf D S ad cy s.heap.size hS v u) (cwV 2 hts gL_append_X1_append rfl rfl rfl (by decide +kernel) ⟨(Nat.le_of_ble_eq_true rfl), (Nat.le_of_ble_eq_true rfl)⟩) ⟨cs_By.blind, va_recv hK hPL (ci := 1) (q0 := 0) rfl rfl, cs_By.at hE (hz9.narrow hF) hPL hK hDL⟩ rfl rfl hl.1 rfl (lv_room (Nat.le_of_ble_eq_true rfl)) dL_append_5 ⟨(Nat.le_of_ble_eq_true rfl), (Nat.le_of_ble_eq_true rfl)⟩) hS9 hF (fun E ce q7 H1 locs1 h1 h2 h3 hS9 h4 h5 h6 => ?_) (fun rr u8 H1 locs1 hk hP1 hD1 hz1 hk1 hS9 => ?_)
  · have h9 := h2
    have hP := cs_keep hP h3
    rcases h1 with ⟨hk, rfl⟩ | ⟨hk, rfl⟩ | ⟨hk, rfl⟩
    · refine vx_catch (own := RL) (name := cs_IOB) hown (tableOf []) ⟨0, 10, 13, 21⟩ (tableOf [(0, 10, 17, 13), (0, 10, 21, 15)]) hT (fun z hz => by cases hz) (by decide) (by decide) (hts (.classLink RL 21 cs_IOB) (by decide +kernel)) (va_Nw.use rfl hE.2.1.2.2.1) h4 h5 h6 ?_
      refine lv_astore (lv' := [(4, .ref q7), (0, .ref (ad 0)), (1, .int v), (2, .int u), (3, .ref o9)]) hx hb dL_append_13 hl (by decide) rfl (fun ls hl => ?_)
      refine lv_iconst (v := 1) hx hb dL_append_15 (by decide) ?_
      have es : cs_sApp S v u = S := by unfold cs_sApp; exact if_neg (fun h => absurd (hk.symm.trans h) (by decide))
      refine W.widen (k := 3) (n := 18) (Nat.le_of_ble_eq_true rfl) (Nat.le_of_ble_eq_true rfl) ?_
      exact W.iret (v := 1) hx hb hr (fun t ht _ => cs_wend (K := 1) 1 f ⟨hk.symm, fun h => absurd (hk.symm.trans h) (by decide)⟩ (by show va_P D vwCl (cs_O o9 f (cs_sApp S v u) ad cy) _; rw [es]; exact hP) (by show va_D _ (cs_O o9 f (cs_sApp S v u) ad cy); rw [es]; exact hD) hS9 t ht) hS9.2.2 dL_append_16
    · refine vx_catch (own := RL) (name := cs_IAE) hown (tableOf [(0, 10, 13, 21)]) ⟨0, 10, 17, 13⟩ (tableOf [(0, 10, 21, 15)]) hT (fun z hz => by rcases List.mem_cons.mp hz with rfl | hz; exact Or.inr ⟨by decide, cs_IOB, hts (.classLink RL 21 cs_IOB) (by decide +kernel), hn.2.1⟩; cases hz) (by decide) (by decide) (hts (.classLink RL 13 cs_IAE) (by decide +kernel)) (va_Nw.use rfl hE.2.1.1) h4 h5 h6 ?_
      refine lv_astore (lv' := [(4, .ref q7), (0, .ref (ad 0)), (1, .int v), (2, .int u), (3, .ref o9)]) hx hb dL_append_17 hl (by decide) rfl (fun ls hl => ?_)
      refine lv_iconst (v := 2) hx hb dL_append_19 (by decide) ?_
      have es : cs_sApp S v u = S := by unfold cs_sApp; exact if_neg (fun h => absurd (hk.symm.trans h) (by decide))
      refine W.widen (k := 3) (n := 18) (Nat.le_of_ble_eq_true rfl) (Nat.le_of_ble_eq_true rfl) ?_
      exact W.iret (v := 2) hx hb hr (fun t ht _ => cs_wend (K := 2) 2 f ⟨hk.symm, fun h => absurd (hk.symm.trans h) (by decide)⟩ (by show va_P D vwCl (cs_O o9 f (cs_sApp S v u) ad cy) _; rw [es]; exact hP) (by show va_D _ (cs_O o9 f (cs_sApp S v u) ad cy); rw [es]; exact hD) hS9 t ht) hS9.2.2 dL_append_20
    · refine vx_catch (own := RL) (name := cs_ISE) hown (tableOf [(0, 10, 13, 21), (0, 10, 17, 13)]) ⟨0, 10, 21, 15⟩ (tableOf []) hT (fun z hz => by rcases List.mem_cons.mp hz with rfl | hz; exact Or.inr ⟨by decide, cs_IOB, hts (.classLink RL 21 cs_IOB) (by decide +kernel), hn.2.2.2.1⟩; rcases List.mem_cons.mp hz with rfl | hz; exact Or.inr ⟨by decide, cs_IAE, hts (.classLink RL 13 cs_IAE) (by decide +kernel), hn.2.2.1⟩; cases hz) (by decide) (by decide) (hts (.classLink RL 15 cs_ISE) (by decide +kernel)) (va_Nw.use rfl hE.2.1.2.1) h4 h5 h6 ?_
      refine lv_astore (lv' := [(4, .ref q7), (0, .ref (ad 0)), (1, .int v), (2, .int u), (3, .ref o9)]) hx hb dL_append_21 hl (by decide) rfl (fun ls hl => ?_)
      refine lv_iconst (v := 3) hx hb dL_append_23 (by decide) ?_
      have es : cs_sApp S v u = S := by unfold cs_sApp; exact if_neg (fun h => absurd (hk.symm.trans h) (by decide))
      refine W.widen (k := 3) (n := 18) (Nat.le_of_ble_eq_true rfl) (Nat.le_of_ble_eq_true rfl) ?_
      exact W.iret (v := 3) hx hb hr (fun t ht _ => cs_wend (K := 3) 3 f ⟨hk.symm, fun h => absurd (hk.symm.trans h) (by decide)⟩ (by show va_P D vwCl (cs_O o9 f (cs_sApp S v u) ad cy) _; rw [es]; exact hP) (by show va_D _ (cs_O o9 f (cs_sApp S v u) ad cy); rw [es]; exact hD) hS9 t ht) hS9.2.2 dL_append_24
  · have hk9 := hk
    obtain ⟨hk, rfl⟩ := hk
    obtain ⟨hP, hD⟩ := cs_joinR (w1 := ([(o9, .inl (cy 2, 1, .inr (.inl f)))] : va_W)) hP hD hk1 hF hP1 hD1
    have hP : va_P D vwCl (cs_O o9 f (cs_sApp S v u) ad cy) H1 := hP
    have hD : va_D (va_A (cs_O o9 f S ad cy) s.heap.size) (cs_O o9 f (cs_sApp S v u) ad cy) := hD
    refine lv_i2l (v := Int32.toInt64 (cs_vApp S v)) hx hb dL_append_8 rfl ?_
    refine cs_last (k := 0) hx hb hK hP hD hS9 0 2 cs_O0 rfl (by decide) (by decide) dL_append_9 (fun H locs hP hD hS9 => ?_)
    have hP : va_P D vwCl (cs_O o9 (vp_updL f 0 (Int32.toInt64 (cs_vApp S v))) (cs_sApp S v u) ad cy) H := hP
    have hD : va_D (va_A (cs_O o9 f S ad cy) s.heap.size) (cs_O o9 (vp_updL f 0 (Int32.toInt64 (cs_vApp S v))) (cs_sApp S v u) ad cy) := hD
    refine lv_goto (tgt := 25) hx hb dL_append_10 (by decide) ?_
    refine lv_iconst (v := 0) hx hb dL_append_25 (by decide) ?_
    refine W.widen (k := 3) (n := 18) (Nat.le_of_ble_eq_true rfl) (Nat.le_of_ble_eq_true rfl) ?_
    exact W.iret (v := 0) hx hb hr (fun t ht _ => cs_wend (K := 0) 0 (vp_updL f 0 (Int32.toInt64 (cs_vApp S v))) ⟨hk.symm, fun _ => cs_up0 (f := f) (x := Int32.toInt64 (cs_vApp S v))⟩ hP hD hS9 t ht) hS9.2.2 dL_append_26
set_option maxHeartbeats 4000000 in
set_option maxRecDepth 100000 in
theorem k_L_define (l : Launch) (hlf : l.stackTraces = false) (D : va_G) (S : cs_St) (ad : Nat → Nat) (cy : Nat → ClassId) (o9 : Nat) (f : Nat → Int64) (sz : Nat) (hS : cs_ok S) (v a b : Int32) (q9 t9 : Bool) (d : Int32) : Met l yL_define wsL_define ({ frames := 8, cells := 5, slots := 32, locals := 130 }) (va_Pc [.ref (ad 0), .int v, .int a, .int b, .int (cs_z q9), .int (cs_z t9), .int d, .ref o9] (cs_Bl D (cs_tys cy) (cs_O o9 f S ad cy) sz)) (cs_Qw D (cs_O o9 f S ad cy) (fun (u2 : (Nat → Int64) × (Nat → Nat)) => cs_O o9 u2.1 (cs_sDef S v a b q9 t9 d) u2.2 cy) (fun r9 u2 => (r9 = cs_kDef S v a b d ∧ (cs_kDef S v a b d = 0 → u2.1 0 = Int32.toInt64 (nI (cs_n S)))) ∧ u2.2 0 = ad 0)) 5 32 (va_A (cs_O o9 f S ad cy) sz) := by
  refine cs_ofWH (cc := cL_define) (maxL := 9) (ret := (some .int)) (by decide) rfl ?_
  intro pg e s m args below meth c s₁ B hml hv
  obtain ⟨rfl, hn, hsz, hE, hz9, hP, hK, hD0⟩ := hv
  subst hsz
  have hD := hD0.self (sz := s.heap.size)
  have hA : ∀ q : Nat, s.heap.size ≤ q → va_A (cs_O o9 f S ad cy) s.heap.size q := fun q h => Or.inr h
  have hS9 : va_S (va_A (cs_O o9 f S ad cy) s.heap.size) s.heap s.heap [] := va_S.rf
  have hx := B.exec
  have hb := B.bytes
  have hr := B.returns
  have hts := atoms_spec (ws := wsL_define) B.pre
  have hown : s.vm.findClass RL = some m.cls := findClass_of_methodNamed B.named
  have hlocks := B.notSynchronized
  have hT : c.exceptionTable.toList = tableOf [(0, 18, 21, 13), (0, 18, 25, 15)] := vx_table (x := yL_define) B (hts _ List.mem_cons_self)
  have hl := lv_entry ([.ref (ad 0), .int v, .int a, .int b, .int (cs_z q9), .int (cs_z t9), .int d, .ref o9]) (n := 9) (Nat.le_of_ble_eq_true rfl)
  rw [lg_entry_eq]
  generalize (lg_sl ([.ref (ad 0), .int v, .int a, .int b, .int (cs_z q9), .int (cs_z t9), .int d, .ref o9]) ++ List.replicate (9 - (lg_sl ([.ref (ad 0), .int v, .int a, .int b, .int (cs_z q9), .int (cs_z t9), .int d, .ref o9])).length) Slot.unset).toArray = ls at hl ⊢
  have hl : lv_has ls 9 [(0, .ref (ad 0)), (1, .int v), (2, .int a), (3, .int b), (4, .int (cs_z q9)), (5, .int (cs_z t9)), (6, .int d), (7, .ref o9)] := hl
  have hPL : va_P D vwCl (cs_L S ad cy) s.heap := cs_PR (w1 := ([(o9, .inl (cy 2, 1, .inr (.inl f)))] : va_W)) hP
  have hDL : va_D (va_A (cs_O o9 f S ad cy) s.heap.size) (cs_L S ad cy) := cs_DR (w1 := ([(o9, .inl (cy 2, 1, .inr (.inl f)))] : va_W)) hD
  have hF : ∀ q, va_A (cs_L S ad cy) s.heap.size q → va_A (cs_O o9 f S ad cy) s.heap.size q := cs_inR (w1 := ([(o9, .inl (cy 2, 1, .inr (.inl f)))] : va_W)) hD hS9 hA
  refine lv_aload hx hb dL_define_0 (lv_at hl 7 rfl) ?_
  refine lv_iconst (v := nI 0) hx hb dL_define_2 (by decide) ?_
  refine lv_aload_n hx hb dL_define_3 rfl (lv_at hl 0 rfl) ?_
  refine lv_iload_n hx hb dL_define_4 rfl (lv_at hl 1 rfl) ?_
  refine lv_iload_n hx hb dL_define_5 rfl (lv_at hl 2 rfl) ?_
  refine lv_iload_n hx hb dL_define_6 rfl (lv_at hl 3 rfl) ?_
  refine lv_iload hx hb dL_define_7 (lv_at hl 4 rfl) ?_
  refine lv_iload hx hb dL_define_9 (lv_at hl 5 rfl) ?_
  refine lv_iload hx hb dL_define_11 (lv_at hl 6 rfl) ?_
  refine cs_wxcalli (vx_runV (As := [.int v, .int a, .int b, .int (cs_z q9), .int (cs_z t9), .int d]) (rest := [.int (nI 0), .ref o9]) ⟨hx, hb, hml, hown, hts⟩ (k_X1_define l hlf D S ad cy s.heap.size hS v a b q9 t9 d) (cwV 6 hts gL_define_X1_define rfl rfl rfl (by decide +kernel) ⟨(Nat.le_of_ble_eq_true rfl), (Nat.le_of_ble_eq_true rfl)⟩) ⟨cs_By.blind, va_recv hK hPL (ci := 1) (q0 := 0) rfl rfl, cs_By.at hE (hz9.narrow hF) hPL hK hDL⟩ rfl rfl hl.1 rfl (lv_room (Nat.le_of_ble_eq_true rfl)) dL_define_13 ⟨(Nat.le_of_ble_eq_true rfl), (Nat.le_of_ble_eq_true rfl)⟩) hS9 hF (fun E ce q7 H1 locs1 h1 h2 h3 hS9 h4 h5 h6 => ?_) (fun rr u8 H1 locs1 hk hP1 hD1 hz1 hk1 hS9 => ?_)
  · have h9 := h2
    have hP := cs_keep hP h3
    rcases h1 with ⟨hk, rfl⟩ | ⟨hk, rfl⟩ | ⟨hk, rfl⟩
    · refine vx_catch (own := RL) (name := cs_IAE) hown (tableOf []) ⟨0, 18, 21, 13⟩ (tableOf [(0, 18, 25, 15)]) hT (fun z hz => by cases hz) (by decide) (by decide) (hts (.classLink RL 13 cs_IAE) (by decide +kernel)) (va_Nw.use rfl hE.2.1.1) h4 h5 h6 ?_
      refine lv_astore (lv' := [(8, .ref q7), (0, .ref (ad 0)), (1, .int v), (2, .int a), (3, .int b), (4, .int (cs_z q9)), (5, .int (cs_z t9)), (6, .int d), (7, .ref o9)]) hx hb dL_define_21 hl (by decide) rfl (fun ls hl => ?_)
      refine lv_iconst (v := 1) hx hb dL_define_23 (by decide) ?_
      have es : cs_sDef S v a b q9 t9 d = S := by unfold cs_sDef; exact if_neg (fun h => absurd (hk.symm.trans h) (by decide))
      refine W.widen (k := 5) (n := 32) (Nat.le_of_ble_eq_true rfl) (Nat.le_of_ble_eq_true rfl) ?_
      exact W.iret (v := 1) hx hb hr (fun t ht _ => cs_wend (K := 1) 1 (f, ad) ⟨⟨hk.symm, fun h => absurd (hk.symm.trans h) (by decide)⟩, rfl⟩ (by show va_P D vwCl (cs_O o9 f (cs_sDef S v a b q9 t9 d) ad cy) _; rw [es]; exact hP) (by show va_D _ (cs_O o9 f (cs_sDef S v a b q9 t9 d) ad cy); rw [es]; exact hD) hS9 t ht) hS9.2.2 dL_define_24
    · refine vx_catch (own := RL) (name := cs_ISE) hown (tableOf [(0, 18, 21, 13)]) ⟨0, 18, 25, 15⟩ (tableOf []) hT (fun z hz => by rcases List.mem_cons.mp hz with rfl | hz; exact Or.inr ⟨by decide, cs_IAE, hts (.classLink RL 13 cs_IAE) (by decide +kernel), hn.2.2.1⟩; cases hz) (by decide) (by decide) (hts (.classLink RL 15 cs_ISE) (by decide +kernel)) (va_Nw.use rfl hE.2.1.2.1) h4 h5 h6 ?_
      refine lv_astore (lv' := [(8, .ref q7), (0, .ref (ad 0)), (1, .int v), (2, .int a), (3, .int b), (4, .int (cs_z q9)), (5, .int (cs_z t9)), (6, .int d), (7, .ref o9)]) hx hb dL_define_25 hl (by decide) rfl (fun ls hl => ?_)
      refine lv_iconst (v := 2) hx hb dL_define_27 (by decide) ?_
      have es : cs_sDef S v a b q9 t9 d = S := by unfold cs_sDef; exact if_neg (fun h => absurd (hk.symm.trans h) (by decide))
      refine W.widen (k := 5) (n := 32) (Nat.le_of_ble_eq_true rfl) (Nat.le_of_ble_eq_true rfl) ?_
      exact W.iret (v := 2) hx hb hr (fun t ht _ => cs_wend (K := 2) 2 (f, ad) ⟨⟨hk.symm, fun h => absurd (hk.symm.trans h) (by decide)⟩, rfl⟩ (by show va_P D vwCl (cs_O o9 f (cs_sDef S v a b q9 t9 d) ad cy) _; rw [es]; exact hP) (by show va_D _ (cs_O o9 f (cs_sDef S v a b q9 t9 d) ad cy); rw [es]; exact hD) hS9 t ht) hS9.2.2 dL_define_28
    · exact absurd hk cs_k2n3
  · have hk9 := hk
    obtain ⟨⟨hk, rfl⟩, hu⟩ := hk
    obtain ⟨hP, hD⟩ := cs_joinR (w1 := ([(o9, .inl (cy 2, 1, .inr (.inl f)))] : va_W)) hP hD hk1 hF hP1 hD1
    have hP : va_P D vwCl (cs_O o9 f (cs_sDef S v a b q9 t9 d) u8 cy) H1 := hP
    have hD : va_D (va_A (cs_O o9 f S ad cy) s.heap.size) (cs_O o9 f (cs_sDef S v a b q9 t9 d) u8 cy) := hD
    refine lv_i2l (v := Int32.toInt64 (nI (cs_n S))) hx hb dL_define_16 rfl ?_
    refine cs_last (k := 0) hx hb hK hP hD hS9 0 2 cs_O0 rfl (by decide) (by decide) dL_define_17 (fun H locs hP hD hS9 => ?_)
    have hP : va_P D vwCl (cs_O o9 (vp_updL f 0 (Int32.toInt64 (nI (cs_n S)))) (cs_sDef S v a b q9 t9 d) u8 cy) H := hP
    have hD : va_D (va_A (cs_O o9 f S ad cy) s.heap.size) (cs_O o9 (vp_updL f 0 (Int32.toInt64 (nI (cs_n S)))) (cs_sDef S v a b q9 t9 d) u8 cy) := hD
    refine lv_goto (tgt := 29) hx hb dL_define_18 (by decide) ?_
    refine lv_iconst (v := 0) hx hb dL_define_29 (by decide) ?_
    refine W.widen (k := 5) (n := 32) (Nat.le_of_ble_eq_true rfl) (Nat.le_of_ble_eq_true rfl) ?_
    exact W.iret (v := 0) hx hb hr (fun t ht _ => cs_wend (K := 0) 0 ((vp_updL f 0 (Int32.toInt64 (nI (cs_n S)))), u8) ⟨⟨hk.symm, fun _ => cs_up0 (f := f) (x := Int32.toInt64 (nI (cs_n S)))⟩, hu⟩ hP hD hS9 t ht) hS9.2.2 dL_define_30
set_option maxHeartbeats 4000000 in
set_option maxRecDepth 100000 in
theorem k_L_multiply (l : Launch) (hlf : l.stackTraces = false) (D : va_G) (S : cs_St) (ad : Nat → Nat) (cy : Nat → ClassId) (o9 : Nat) (f : Nat → Int64) (sz : Nat) (hS : cs_ok S) (v a b : Int32) : Met l yL_multiply wsL_multiply ({ frames := 8, cells := 3, slots := 18, locals := 127 }) (va_Pc [.ref (ad 0), .int v, .int a, .int b, .ref o9] (cs_Bl D (cs_tys cy) (cs_O o9 f S ad cy) sz)) (cs_Qw D (cs_O o9 f S ad cy) (fun (f2 : Nat → Int64) => cs_O o9 f2 S ad cy) (fun r9 f2 => r9 = cs_kMul S v a b ∧ (cs_kMul S v a b = 0 → f2 0 = Int32.toInt64 (cs_vMul S v a b)))) 3 18 (va_A (cs_O o9 f S ad cy) sz) := by
  refine cs_ofWH (cc := cL_multiply) (maxL := 6) (ret := (some .int)) (by decide) rfl ?_
  intro pg e s m args below meth c s₁ B hml hv
  obtain ⟨rfl, hn, hsz, hE, hz9, hP, hK, hD0⟩ := hv
  subst hsz
  have hD := hD0.self (sz := s.heap.size)
  have hA : ∀ q : Nat, s.heap.size ≤ q → va_A (cs_O o9 f S ad cy) s.heap.size q := fun q h => Or.inr h
  have hS9 : va_S (va_A (cs_O o9 f S ad cy) s.heap.size) s.heap s.heap [] := va_S.rf
  have hx := B.exec
  have hb := B.bytes
  have hr := B.returns
  have hts := atoms_spec (ws := wsL_multiply) B.pre
  have hown : s.vm.findClass RL = some m.cls := findClass_of_methodNamed B.named
  have hlocks := B.notSynchronized
  have hT : c.exceptionTable.toList = tableOf [(0, 12, 15, 21), (0, 12, 19, 13)] := vx_table (x := yL_multiply) B (hts _ List.mem_cons_self)
  have hl := lv_entry ([.ref (ad 0), .int v, .int a, .int b, .ref o9]) (n := 6) (Nat.le_of_ble_eq_true rfl)
  rw [lg_entry_eq]
  generalize (lg_sl ([.ref (ad 0), .int v, .int a, .int b, .ref o9]) ++ List.replicate (6 - (lg_sl ([.ref (ad 0), .int v, .int a, .int b, .ref o9])).length) Slot.unset).toArray = ls at hl ⊢
  have hl : lv_has ls 6 [(0, .ref (ad 0)), (1, .int v), (2, .int a), (3, .int b), (4, .ref o9)] := hl
  have hPL : va_P D vwCl (cs_L S ad cy) s.heap := cs_PR (w1 := ([(o9, .inl (cy 2, 1, .inr (.inl f)))] : va_W)) hP
  have hDL : va_D (va_A (cs_O o9 f S ad cy) s.heap.size) (cs_L S ad cy) := cs_DR (w1 := ([(o9, .inl (cy 2, 1, .inr (.inl f)))] : va_W)) hD
  have hF : ∀ q, va_A (cs_L S ad cy) s.heap.size q → va_A (cs_O o9 f S ad cy) s.heap.size q := cs_inR (w1 := ([(o9, .inl (cy 2, 1, .inr (.inl f)))] : va_W)) hD hS9 hA
  refine lv_aload hx hb dL_multiply_0 (lv_at hl 4 rfl) ?_
  refine lv_iconst (v := nI 0) hx hb dL_multiply_2 (by decide) ?_
  refine lv_aload_n hx hb dL_multiply_3 rfl (lv_at hl 0 rfl) ?_
  refine lv_iload_n hx hb dL_multiply_4 rfl (lv_at hl 1 rfl) ?_
  refine lv_iload_n hx hb dL_multiply_5 rfl (lv_at hl 2 rfl) ?_
  refine lv_iload_n hx hb dL_multiply_6 rfl (lv_at hl 3 rfl) ?_
  refine cs_xcalli (vx_runV (As := [.int v, .int a, .int b]) (rest := [.int (nI 0), .ref o9]) ⟨hx, hb, hml, hown, hts⟩ (k_X1_multiply l hlf D S ad cy hS v a b) (cwV 3 hts gL_multiply_X1_multiply rfl rfl rfl (by decide +kernel) ⟨(Nat.le_of_ble_eq_true rfl), (Nat.le_of_ble_eq_true rfl)⟩) ⟨cs_Bx.blind, va_recv hK hPL (ci := 1) (q0 := 0) rfl rfl, cs_Bx.at hE (hz9.narrow (fun q h => Or.inr h)) hPL hK⟩ rfl rfl hl.1 rfl (lv_room (Nat.le_of_ble_eq_true rfl)) dL_multiply_7 ⟨(Nat.le_of_ble_eq_true rfl), (Nat.le_of_ble_eq_true rfl)⟩) (fun E ce q7 H1 h1 h2 h3 h4 h5 h6 => ?_) (fun rr hk => ?_)
  · have hS9 : va_S (va_A (cs_O o9 f S ad cy) s.heap.size) s.heap H1 [] := cs_Sx h2 h3
    have hP := cs_keep hP h3
    rcases h1 with ⟨hk, rfl⟩ | ⟨hk, rfl⟩ | ⟨hk, rfl⟩
    · refine vx_catch (own := RL) (name := cs_IOB) hown (tableOf []) ⟨0, 12, 15, 21⟩ (tableOf [(0, 12, 19, 13)]) hT (fun z hz => by cases hz) (by decide) (by decide) (hts (.classLink RL 21 cs_IOB) (by decide +kernel)) (va_Nw.use rfl hE.2.1.2.2.1) h4 h5 h6 ?_
      refine lv_astore (lv' := [(5, .ref q7), (0, .ref (ad 0)), (1, .int v), (2, .int a), (3, .int b), (4, .ref o9)]) hx hb dL_multiply_15 hl (by decide) rfl (fun ls hl => ?_)
      refine lv_iconst (v := 1) hx hb dL_multiply_17 (by decide) ?_
      refine W.widen (k := 3) (n := 18) (Nat.le_of_ble_eq_true rfl) (Nat.le_of_ble_eq_true rfl) ?_
      exact W.iret (v := 1) hx hb hr (fun t ht _ => cs_wend (K := 1) 1 f ⟨hk.symm, fun h => absurd (hk.symm.trans h) (by decide)⟩ hP hD hS9 t ht) hS9.2.2 dL_multiply_18
    · refine vx_catch (own := RL) (name := cs_IAE) hown (tableOf [(0, 12, 15, 21)]) ⟨0, 12, 19, 13⟩ (tableOf []) hT (fun z hz => by rcases List.mem_cons.mp hz with rfl | hz; exact Or.inr ⟨by decide, cs_IOB, hts (.classLink RL 21 cs_IOB) (by decide +kernel), hn.2.1⟩; cases hz) (by decide) (by decide) (hts (.classLink RL 13 cs_IAE) (by decide +kernel)) (va_Nw.use rfl hE.2.1.1) h4 h5 h6 ?_
      refine lv_astore (lv' := [(5, .ref q7), (0, .ref (ad 0)), (1, .int v), (2, .int a), (3, .int b), (4, .ref o9)]) hx hb dL_multiply_19 hl (by decide) rfl (fun ls hl => ?_)
      refine lv_iconst (v := 2) hx hb dL_multiply_21 (by decide) ?_
      refine W.widen (k := 3) (n := 18) (Nat.le_of_ble_eq_true rfl) (Nat.le_of_ble_eq_true rfl) ?_
      exact W.iret (v := 2) hx hb hr (fun t ht _ => cs_wend (K := 2) 2 f ⟨hk.symm, fun h => absurd (hk.symm.trans h) (by decide)⟩ hP hD hS9 t ht) hS9.2.2 dL_multiply_22
    · exact absurd hk cs_k2n3
  · obtain ⟨hk, rfl⟩ := hk
    refine lv_i2l (v := Int32.toInt64 (cs_vMul S v a b)) hx hb dL_multiply_10 rfl ?_
    refine cs_last (k := 0) hx hb hK hP hD hS9 0 2 cs_O0 rfl (by decide) (by decide) dL_multiply_11 (fun H locs hP hD hS9 => ?_)
    have hP : va_P D vwCl (cs_O o9 (vp_updL f 0 (Int32.toInt64 (cs_vMul S v a b))) S ad cy) H := hP
    have hD : va_D (va_A (cs_O o9 f S ad cy) s.heap.size) (cs_O o9 (vp_updL f 0 (Int32.toInt64 (cs_vMul S v a b))) S ad cy) := hD
    refine lv_goto (tgt := 23) hx hb dL_multiply_12 (by decide) ?_
    refine lv_iconst (v := 0) hx hb dL_multiply_23 (by decide) ?_
    refine W.widen (k := 3) (n := 18) (Nat.le_of_ble_eq_true rfl) (Nat.le_of_ble_eq_true rfl) ?_
    exact W.iret (v := 0) hx hb hr (fun t ht _ => cs_wend (K := 0) 0 (vp_updL f 0 (Int32.toInt64 (cs_vMul S v a b))) ⟨hk.symm, fun _ => cs_up0 (f := f) (x := Int32.toInt64 (cs_vMul S v a b))⟩ hP hD hS9 t ht) hS9.2.2 dL_multiply_24
set_option maxHeartbeats 4000000 in
set_option maxRecDepth 100000 in
theorem k_L_power (l : Launch) (hlf : l.stackTraces = false) (D : va_G) (S : cs_St) (ad : Nat → Nat) (cy : Nat → ClassId) (o9 : Nat) (f : Nat → Int64) (sz : Nat) (hS : cs_ok S) (v : Int32) (x : Int64) : Met l yL_power wsL_power ({ frames := 8, cells := 2, slots := 12, locals := 127 }) (va_Pc [.ref (ad 0), .int v, .long x, .ref o9] (cs_Bl D (cs_tys cy) (cs_O o9 f S ad cy) sz)) (cs_Qw D (cs_O o9 f S ad cy) (fun (f2 : Nat → Int64) => cs_O o9 f2 S ad cy) (fun r9 f2 => r9 = cs_kPow S v x ∧ (cs_kPow S v x = 0 → f2 0 = Int32.toInt64 (cs_vPow S v x)))) 2 12 (va_A (cs_O o9 f S ad cy) sz) := by
  refine cs_ofWH (cc := cL_power) (maxL := 6) (ret := (some .int)) (by decide) rfl ?_
  intro pg e s m args below meth c s₁ B hml hv
  obtain ⟨rfl, hn, hsz, hE, hz9, hP, hK, hD0⟩ := hv
  subst hsz
  have hD := hD0.self (sz := s.heap.size)
  have hA : ∀ q : Nat, s.heap.size ≤ q → va_A (cs_O o9 f S ad cy) s.heap.size q := fun q h => Or.inr h
  have hS9 : va_S (va_A (cs_O o9 f S ad cy) s.heap.size) s.heap s.heap [] := va_S.rf
  have hx := B.exec
  have hb := B.bytes
  have hr := B.returns
  have hts := atoms_spec (ws := wsL_power) B.pre
  have hown : s.vm.findClass RL = some m.cls := findClass_of_methodNamed B.named
  have hlocks := B.notSynchronized
  have hT : c.exceptionTable.toList = tableOf [(0, 11, 14, 21), (0, 11, 18, 13)] := vx_table (x := yL_power) B (hts _ List.mem_cons_self)
  have hl := lv_entry ([.ref (ad 0), .int v, .long x, .ref o9]) (n := 6) (Nat.le_of_ble_eq_true rfl)
  rw [lg_entry_eq]
  generalize (lg_sl ([.ref (ad 0), .int v, .long x, .ref o9]) ++ List.replicate (6 - (lg_sl ([.ref (ad 0), .int v, .long x, .ref o9])).length) Slot.unset).toArray = ls at hl ⊢
  have hl : lv_has ls 6 [(0, .ref (ad 0)), (1, .int v), (2, .long x), (4, .ref o9)] := hl
  have hPL : va_P D vwCl (cs_L S ad cy) s.heap := cs_PR (w1 := ([(o9, .inl (cy 2, 1, .inr (.inl f)))] : va_W)) hP
  have hDL : va_D (va_A (cs_O o9 f S ad cy) s.heap.size) (cs_L S ad cy) := cs_DR (w1 := ([(o9, .inl (cy 2, 1, .inr (.inl f)))] : va_W)) hD
  have hF : ∀ q, va_A (cs_L S ad cy) s.heap.size q → va_A (cs_O o9 f S ad cy) s.heap.size q := cs_inR (w1 := ([(o9, .inl (cy 2, 1, .inr (.inl f)))] : va_W)) hD hS9 hA
  refine lv_aload hx hb dL_power_0 (lv_at hl 3 rfl) ?_
  refine lv_iconst (v := nI 0) hx hb dL_power_2 (by decide) ?_
  refine lv_aload_n hx hb dL_power_3 rfl (lv_at hl 0 rfl) ?_
  refine lv_iload_n hx hb dL_power_4 rfl (lv_at hl 1 rfl) ?_
  refine lv_lload_n hx hb dL_power_5 rfl (lv_at hl 2 rfl) ?_
  refine cs_xcalli (vx_runV (As := [.int v, .long x]) (rest := [.int (nI 0), .ref o9]) ⟨hx, hb, hml, hown, hts⟩ (k_X1_power l hlf D S ad cy hS v x) (cwV 2 hts gL_power_X1_power rfl rfl rfl (by decide +kernel) ⟨(Nat.le_of_ble_eq_true rfl), (Nat.le_of_ble_eq_true rfl)⟩) ⟨cs_Bx.blind, va_recv hK hPL (ci := 1) (q0 := 0) rfl rfl, cs_Bx.at hE (hz9.narrow (fun q h => Or.inr h)) hPL hK⟩ rfl rfl hl.1 rfl (lv_room (Nat.le_of_ble_eq_true rfl)) dL_power_6 ⟨(Nat.le_of_ble_eq_true rfl), (Nat.le_of_ble_eq_true rfl)⟩) (fun E ce q7 H1 h1 h2 h3 h4 h5 h6 => ?_) (fun rr hk => ?_)
  · have hS9 : va_S (va_A (cs_O o9 f S ad cy) s.heap.size) s.heap H1 [] := cs_Sx h2 h3
    have hP := cs_keep hP h3
    rcases h1 with ⟨hk, rfl⟩ | ⟨hk, rfl⟩ | ⟨hk, rfl⟩
    · refine vx_catch (own := RL) (name := cs_IOB) hown (tableOf []) ⟨0, 11, 14, 21⟩ (tableOf [(0, 11, 18, 13)]) hT (fun z hz => by cases hz) (by decide) (by decide) (hts (.classLink RL 21 cs_IOB) (by decide +kernel)) (va_Nw.use rfl hE.2.1.2.2.1) h4 h5 h6 ?_
      refine lv_astore (lv' := [(5, .ref q7), (0, .ref (ad 0)), (1, .int v), (2, .long x), (4, .ref o9)]) hx hb dL_power_14 hl (by decide) rfl (fun ls hl => ?_)
      refine lv_iconst (v := 1) hx hb dL_power_16 (by decide) ?_
      refine W.widen (k := 2) (n := 12) (Nat.le_of_ble_eq_true rfl) (Nat.le_of_ble_eq_true rfl) ?_
      exact W.iret (v := 1) hx hb hr (fun t ht _ => cs_wend (K := 1) 1 f ⟨hk.symm, fun h => absurd (hk.symm.trans h) (by decide)⟩ hP hD hS9 t ht) hS9.2.2 dL_power_17
    · refine vx_catch (own := RL) (name := cs_IAE) hown (tableOf [(0, 11, 14, 21)]) ⟨0, 11, 18, 13⟩ (tableOf []) hT (fun z hz => by rcases List.mem_cons.mp hz with rfl | hz; exact Or.inr ⟨by decide, cs_IOB, hts (.classLink RL 21 cs_IOB) (by decide +kernel), hn.2.1⟩; cases hz) (by decide) (by decide) (hts (.classLink RL 13 cs_IAE) (by decide +kernel)) (va_Nw.use rfl hE.2.1.1) h4 h5 h6 ?_
      refine lv_astore (lv' := [(5, .ref q7), (0, .ref (ad 0)), (1, .int v), (2, .long x), (4, .ref o9)]) hx hb dL_power_18 hl (by decide) rfl (fun ls hl => ?_)
      refine lv_iconst (v := 2) hx hb dL_power_20 (by decide) ?_
      refine W.widen (k := 2) (n := 12) (Nat.le_of_ble_eq_true rfl) (Nat.le_of_ble_eq_true rfl) ?_
      exact W.iret (v := 2) hx hb hr (fun t ht _ => cs_wend (K := 2) 2 f ⟨hk.symm, fun h => absurd (hk.symm.trans h) (by decide)⟩ hP hD hS9 t ht) hS9.2.2 dL_power_21
    · exact absurd hk cs_k2n3
  · obtain ⟨hk, rfl⟩ := hk
    refine lv_i2l (v := Int32.toInt64 (cs_vPow S v x)) hx hb dL_power_9 rfl ?_
    refine cs_last (k := 0) hx hb hK hP hD hS9 0 2 cs_O0 rfl (by decide) (by decide) dL_power_10 (fun H locs hP hD hS9 => ?_)
    have hP : va_P D vwCl (cs_O o9 (vp_updL f 0 (Int32.toInt64 (cs_vPow S v x))) S ad cy) H := hP
    have hD : va_D (va_A (cs_O o9 f S ad cy) s.heap.size) (cs_O o9 (vp_updL f 0 (Int32.toInt64 (cs_vPow S v x))) S ad cy) := hD
    refine lv_goto (tgt := 22) hx hb dL_power_11 (by decide) ?_
    refine lv_iconst (v := 0) hx hb dL_power_22 (by decide) ?_
    refine W.widen (k := 2) (n := 12) (Nat.le_of_ble_eq_true rfl) (Nat.le_of_ble_eq_true rfl) ?_
    exact W.iret (v := 0) hx hb hr (fun t ht _ => cs_wend (K := 0) 0 (vp_updL f 0 (Int32.toInt64 (cs_vPow S v x))) ⟨hk.symm, fun _ => cs_up0 (f := f) (x := Int32.toInt64 (cs_vPow S v x))⟩ hP hD hS9 t ht) hS9.2.2 dL_power_23
set_option maxHeartbeats 4000000 in
set_option maxRecDepth 100000 in
theorem k_L_period (l : Launch) (hlf : l.stackTraces = false) (D : va_G) (S : cs_St) (ad : Nat → Nat) (cy : Nat → ClassId) (o9 : Nat) (f : Nat → Int64) (sz : Nat) (hS : cs_ok S) (v a : Int32) : Met l yL_period wsL_period ({ frames := 8, cells := 2, slots := 12, locals := 128 }) (va_Pc [.ref (ad 0), .int v, .int a, .ref o9] (cs_Bl D (cs_tys cy) (cs_O o9 f S ad cy) sz)) (cs_Qw D (cs_O o9 f S ad cy) (fun (f2 : Nat → Int64) => cs_O o9 f2 S ad cy) (fun r9 f2 => r9 = cs_kPer S v a ∧ (cs_kPer S v a = 0 → f2 0 = Int32.toInt64 (cs_vPer S v a)))) 2 12 (va_A (cs_O o9 f S ad cy) sz) := by
  refine cs_ofWH (cc := cL_period) (maxL := 5) (ret := (some .int)) (by decide) rfl ?_
  intro pg e s m args below meth c s₁ B hml hv
  obtain ⟨rfl, hn, hsz, hE, hz9, hP, hK, hD0⟩ := hv
  subst hsz
  have hD := hD0.self (sz := s.heap.size)
  have hA : ∀ q : Nat, s.heap.size ≤ q → va_A (cs_O o9 f S ad cy) s.heap.size q := fun q h => Or.inr h
  have hS9 : va_S (va_A (cs_O o9 f S ad cy) s.heap.size) s.heap s.heap [] := va_S.rf
  have hx := B.exec
  have hb := B.bytes
  have hr := B.returns
  have hts := atoms_spec (ws := wsL_period) B.pre
  have hown : s.vm.findClass RL = some m.cls := findClass_of_methodNamed B.named
  have hlocks := B.notSynchronized
  have hT : c.exceptionTable.toList = tableOf [(0, 10, 13, 21), (0, 10, 17, 13)] := vx_table (x := yL_period) B (hts _ List.mem_cons_self)
  have hl := lv_entry ([.ref (ad 0), .int v, .int a, .ref o9]) (n := 5) (Nat.le_of_ble_eq_true rfl)
  rw [lg_entry_eq]
  generalize (lg_sl ([.ref (ad 0), .int v, .int a, .ref o9]) ++ List.replicate (5 - (lg_sl ([.ref (ad 0), .int v, .int a, .ref o9])).length) Slot.unset).toArray = ls at hl ⊢
  have hl : lv_has ls 5 [(0, .ref (ad 0)), (1, .int v), (2, .int a), (3, .ref o9)] := hl
  have hPL : va_P D vwCl (cs_L S ad cy) s.heap := cs_PR (w1 := ([(o9, .inl (cy 2, 1, .inr (.inl f)))] : va_W)) hP
  have hDL : va_D (va_A (cs_O o9 f S ad cy) s.heap.size) (cs_L S ad cy) := cs_DR (w1 := ([(o9, .inl (cy 2, 1, .inr (.inl f)))] : va_W)) hD
  have hF : ∀ q, va_A (cs_L S ad cy) s.heap.size q → va_A (cs_O o9 f S ad cy) s.heap.size q := cs_inR (w1 := ([(o9, .inl (cy 2, 1, .inr (.inl f)))] : va_W)) hD hS9 hA
  refine lv_aload_n hx hb dL_period_0 rfl (lv_at hl 3 rfl) ?_
  refine lv_iconst (v := nI 0) hx hb dL_period_1 (by decide) ?_
  refine lv_aload_n hx hb dL_period_2 rfl (lv_at hl 0 rfl) ?_
  refine lv_iload_n hx hb dL_period_3 rfl (lv_at hl 1 rfl) ?_
  refine lv_iload_n hx hb dL_period_4 rfl (lv_at hl 2 rfl) ?_
  refine cs_xcalli (vx_runV (As := [.int v, .int a]) (rest := [.int (nI 0), .ref o9]) ⟨hx, hb, hml, hown, hts⟩ (k_X1_period l hlf D S ad cy hS v a) (cwV 2 hts gL_period_X1_period rfl rfl rfl (by decide +kernel) ⟨(Nat.le_of_ble_eq_true rfl), (Nat.le_of_ble_eq_true rfl)⟩) ⟨cs_Bx.blind, va_recv hK hPL (ci := 1) (q0 := 0) rfl rfl, cs_Bx.at hE (hz9.narrow (fun q h => Or.inr h)) hPL hK⟩ rfl rfl hl.1 rfl (lv_room (Nat.le_of_ble_eq_true rfl)) dL_period_5 ⟨(Nat.le_of_ble_eq_true rfl), (Nat.le_of_ble_eq_true rfl)⟩) (fun E ce q7 H1 h1 h2 h3 h4 h5 h6 => ?_) (fun rr hk => ?_)
  · have hS9 : va_S (va_A (cs_O o9 f S ad cy) s.heap.size) s.heap H1 [] := cs_Sx h2 h3
    have hP := cs_keep hP h3
    rcases h1 with ⟨hk, rfl⟩ | ⟨hk, rfl⟩ | ⟨hk, rfl⟩
    · refine vx_catch (own := RL) (name := cs_IOB) hown (tableOf []) ⟨0, 10, 13, 21⟩ (tableOf [(0, 10, 17, 13)]) hT (fun z hz => by cases hz) (by decide) (by decide) (hts (.classLink RL 21 cs_IOB) (by decide +kernel)) (va_Nw.use rfl hE.2.1.2.2.1) h4 h5 h6 ?_
      refine lv_astore (lv' := [(4, .ref q7), (0, .ref (ad 0)), (1, .int v), (2, .int a), (3, .ref o9)]) hx hb dL_period_13 hl (by decide) rfl (fun ls hl => ?_)
      refine lv_iconst (v := 1) hx hb dL_period_15 (by decide) ?_
      refine W.widen (k := 2) (n := 12) (Nat.le_of_ble_eq_true rfl) (Nat.le_of_ble_eq_true rfl) ?_
      exact W.iret (v := 1) hx hb hr (fun t ht _ => cs_wend (K := 1) 1 f ⟨hk.symm, fun h => absurd (hk.symm.trans h) (by decide)⟩ hP hD hS9 t ht) hS9.2.2 dL_period_16
    · refine vx_catch (own := RL) (name := cs_IAE) hown (tableOf [(0, 10, 13, 21)]) ⟨0, 10, 17, 13⟩ (tableOf []) hT (fun z hz => by rcases List.mem_cons.mp hz with rfl | hz; exact Or.inr ⟨by decide, cs_IOB, hts (.classLink RL 21 cs_IOB) (by decide +kernel), hn.2.1⟩; cases hz) (by decide) (by decide) (hts (.classLink RL 13 cs_IAE) (by decide +kernel)) (va_Nw.use rfl hE.2.1.1) h4 h5 h6 ?_
      refine lv_astore (lv' := [(4, .ref q7), (0, .ref (ad 0)), (1, .int v), (2, .int a), (3, .ref o9)]) hx hb dL_period_17 hl (by decide) rfl (fun ls hl => ?_)
      refine lv_iconst (v := 2) hx hb dL_period_19 (by decide) ?_
      refine W.widen (k := 2) (n := 12) (Nat.le_of_ble_eq_true rfl) (Nat.le_of_ble_eq_true rfl) ?_
      exact W.iret (v := 2) hx hb hr (fun t ht _ => cs_wend (K := 2) 2 f ⟨hk.symm, fun h => absurd (hk.symm.trans h) (by decide)⟩ hP hD hS9 t ht) hS9.2.2 dL_period_20
    · exact absurd hk cs_k2n3
  · obtain ⟨hk, rfl⟩ := hk
    refine lv_i2l (v := Int32.toInt64 (cs_vPer S v a)) hx hb dL_period_8 rfl ?_
    refine cs_last (k := 0) hx hb hK hP hD hS9 0 2 cs_O0 rfl (by decide) (by decide) dL_period_9 (fun H locs hP hD hS9 => ?_)
    have hP : va_P D vwCl (cs_O o9 (vp_updL f 0 (Int32.toInt64 (cs_vPer S v a))) S ad cy) H := hP
    have hD : va_D (va_A (cs_O o9 f S ad cy) s.heap.size) (cs_O o9 (vp_updL f 0 (Int32.toInt64 (cs_vPer S v a))) S ad cy) := hD
    refine lv_goto (tgt := 21) hx hb dL_period_10 (by decide) ?_
    refine lv_iconst (v := 0) hx hb dL_period_21 (by decide) ?_
    refine W.widen (k := 2) (n := 12) (Nat.le_of_ble_eq_true rfl) (Nat.le_of_ble_eq_true rfl) ?_
    exact W.iret (v := 0) hx hb hr (fun t ht _ => cs_wend (K := 0) 0 (vp_updL f 0 (Int32.toInt64 (cs_vPer S v a))) ⟨hk.symm, fun _ => cs_up0 (f := f) (x := Int32.toInt64 (cs_vPer S v a))⟩ hP hD hS9 t ht) hS9.2.2 dL_period_22
