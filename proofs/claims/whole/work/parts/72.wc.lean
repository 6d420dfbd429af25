set_option maxHeartbeats 4000000 in
set_option maxRecDepth 100000 in
theorem k_L_appendSeries (l : Launch) (hlf : l.stackTraces = false) (D : va_G) (S : cs_St) (ad : Nat → Nat) (cy : Nat → ClassId) (o9 : Nat) (f : Nat → Int64) (sz : Nat) (hS : cs_ok S) (v a b n : Int32) : Met l yL_appendSeries wsL_appendSeries ({ frames := 8, cells := 5, slots := 30, locals := 130 }) (va_Pc [.ref (ad 0), .int v, .int a, .int b, .int n, .ref o9] (cs_Bl D (cs_tys cy) (cs_O o9 f S ad cy) sz)) (cs_Qw D (cs_O o9 f S ad cy) (fun (f2 : Nat → Int64) => cs_O o9 f2 (cs_sSer S v a b n) ad cy) (fun r9 f2 => r9 = cs_kSer S v a b n ∧ (cs_kSer S v a b n = 0 → f2 0 = Int32.toInt64 (cs_vSer S v n)))) 5 30 (va_A (cs_O o9 f S ad cy) sz) := by
  refine cs_ofWH (cc := cL_appendSeries) (maxL := 7) (ret := (some .int)) (by decide) rfl ?_
  intro pg e s m args below meth c s₁ B hml hv
  obtain ⟨rfl, hn, hsz, hE, hz9, hP, hK, hD0⟩ := hv
  subst hsz
  have hD := hD0.self (sz := s.heap.size)
  have hA : ∀ q : Nat, s.heap.size ≤ q → va_A (cs_O o9 f S ad cy) s.heap.size q := fun q h => Or.inr h
  have hS9 : va_S (va_A (cs_O o9 f S ad cy) s.heap.size) s.heap s.heap [] := va_S.rf
  have hx := B.exec
  have hb := B.bytes
  have hr := B.returns
  have hts := atoms_spec (ws := wsL_appendSeries) B.pre
  have hown : s.vm.findClass RL = some m.cls := findClass_of_methodNamed B.named
  have hlocks := B.notSynchronized
  have hT : c.exceptionTable.toList = tableOf [(0, 14, 17, 21), (0, 14, 21, 13), (0, 14, 25, 15)] := vx_table (x := yL_appendSeries) B (hts _ List.mem_cons_self)
  have hl := lv_entry ([.ref (ad 0), .int v, .int a, .int b, .int n, .ref o9]) (n := 7) (Nat.le_of_ble_eq_true rfl)
  rw [lg_entry_eq]
  generalize (lg_sl ([.ref (ad 0), .int v, .int a, .int b, .int n, .ref o9]) ++ List.replicate (7 - (lg_sl ([.ref (ad 0), .int v, .int a, .int b, .int n, .ref o9])).length) Slot.unset).toArray = ls at hl ⊢
  have hl : lv_has ls 7 [(0, .ref (ad 0)), (1, .int v), (2, .int a), (3, .int b), (4, .int n), (5, .ref o9)] := hl
  have hPL : va_P D vwCl (cs_L S ad cy) s.heap := cs_PR (w1 := ([(o9, .inl (cy 2, 1, .inr (.inl f)))] : va_W)) hP
  have hDL : va_D (va_A (cs_O o9 f S ad cy) s.heap.size) (cs_L S ad cy) := cs_DR (w1 := ([(o9, .inl (cy 2, 1, .inr (.inl f)))] : va_W)) hD
  have hF : ∀ q, va_A (cs_L S ad cy) s.heap.size q → va_A (cs_O o9 f S ad cy) s.heap.size q := cs_inR (w1 := ([(o9, .inl (cy 2, 1, .inr (.inl f)))] : va_W)) hD hS9 hA
  refine lv_aload hx hb dL_appendSeries_0 (lv_at hl 5 rfl) ?_
  refine lv_iconst (v := nI 0) hx hb dL_appendSeries_2 (by decide) ?_
  refine lv_aload_n hx hb dL_appendSeries_3 rfl (lv_at hl 0 rfl) ?_
  refine lv_iload_n hx hb dL_appendSeries_4 rfl (lv_at hl 1 rfl) ?_
  refine lv_iload_n hx hb dL_appendSeries_5 rfl (lv_at hl 2 rfl) ?_
  refine lv_iload_n hx hb dL_appendSeries_6 rfl (lv_at hl 3 rfl) ?_
  refine lv_iload hx hb dL_appendSeries_7 (lv_at hl 4 rfl) ?_
  refine cs_wxcalli (vx_runV (As := [.int v, .int a, .int b, .int n]) (rest := [.int (nI 0), .ref o9]) ⟨hx, hb, hml, hown, hts⟩ (k_X1_appendSeries l hlf D S ad cy s.heap.size hS v a b n) (cwV 4 hts gL_appendSeries_X1_appendSeries rfl rfl rfl (by decide +kernel) ⟨(Nat.le_of_ble_eq_true rfl), (Nat.le_of_ble_eq_true rfl)⟩) ⟨cs_By.blind, va_recv hK hPL (ci := 1) (q0 := 0) rfl rfl, cs_By.at hE (hz9.narrow hF) hPL hK hDL⟩ rfl rfl hl.1 rfl (lv_room (Nat.le_of_ble_eq_true rfl)) dL_appendSeries_9 ⟨(Nat.le_of_ble_eq_true rfl), (Nat.le_of_ble_eq_true rfl)⟩) hS9 hF (fun E ce q7 H1 locs1 h1 h2 h3 hS9 h4 h5 h6 => ?_) (fun rr u8 H1 locs1 hk hP1 hD1 hz1 hk1 hS9 => ?_)
  · have h9 := h2
    have hP := cs_keep hP h3
    rcases h1 with ⟨hk, rfl⟩ | ⟨hk, rfl⟩ | ⟨hk, rfl⟩
    · refine vx_catch (own := RL) (name := cs_IOB) hown (tableOf []) ⟨0, 14, 17, 21⟩ (tableOf [(0, 14, 21, 13), (0, 14, 25, 15)]) hT (fun z hz => by cases hz) (by decide) (by decide) (hts (.classLink RL 21 cs_IOB) (by decide +kernel)) (va_Nw.use rfl hE.2.1.2.2.1) h4 h5 h6 ?_
      refine lv_astore (lv' := [(6, .ref q7), (0, .ref (ad 0)), (1, .int v), (2, .int a), (3, .int b), (4, .int n), (5, .ref o9)]) hx hb dL_appendSeries_17 hl (by decide) rfl (fun ls hl => ?_)
      refine lv_iconst (v := 1) hx hb dL_appendSeries_19 (by decide) ?_
      have es : cs_sSer S v a b n = S := by unfold cs_sSer; exact if_neg (fun h => absurd (hk.symm.trans h) (by decide))
      refine W.widen (k := 5) (n := 30) (Nat.le_of_ble_eq_true rfl) (Nat.le_of_ble_eq_true rfl) ?_
      exact W.iret (v := 1) hx hb hr (fun t ht _ => cs_wend (K := 1) 1 f ⟨hk.symm, fun h => absurd (hk.symm.trans h) (by decide)⟩ (by show va_P D vwCl (cs_O o9 f (cs_sSer S v a b n) ad cy) _; rw [es]; exact hP) (by show va_D _ (cs_O o9 f (cs_sSer S v a b n) ad cy); rw [es]; exact hD) hS9 t ht) hS9.2.2 dL_appendSeries_20
    · refine vx_catch (own := RL) (name := cs_IAE) hown (tableOf [(0, 14, 17, 21)]) ⟨0, 14, 21, 13⟩ (tableOf [(0, 14, 25, 15)]) hT (fun z hz => by rcases List.mem_cons.mp hz with rfl | hz; exact Or.inr ⟨by decide, cs_IOB, hts (.classLink RL 21 cs_IOB) (by decide +kernel), hn.2.1⟩; cases hz) (by decide) (by decide) (hts (.classLink RL 13 cs_IAE) (by decide +kernel)) (va_Nw.use rfl hE.2.1.1) h4 h5 h6 ?_
      refine lv_astore (lv' := [(6, .ref q7), (0, .ref (ad 0)), (1, .int v), (2, .int a), (3, .int b), (4, .int n), (5, .ref o9)]) hx hb dL_appendSeries_21 hl (by decide) rfl (fun ls hl => ?_)
      refine lv_iconst (v := 2) hx hb dL_appendSeries_23 (by decide) ?_
      have es : cs_sSer S v a b n = S := by unfold cs_sSer; exact if_neg (fun h => absurd (hk.symm.trans h) (by decide))
      refine W.widen (k := 5) (n := 30) (Nat.le_of_ble_eq_true rfl) (Nat.le_of_ble_eq_true rfl) ?_
      exact W.iret (v := 2) hx hb hr (fun t ht _ => cs_wend (K := 2) 2 f ⟨hk.symm, fun h => absurd (hk.symm.trans h) (by decide)⟩ (by show va_P D vwCl (cs_O o9 f (cs_sSer S v a b n) ad cy) _; rw [es]; exact hP) (by show va_D _ (cs_O o9 f (cs_sSer S v a b n) ad cy); rw [es]; exact hD) hS9 t ht) hS9.2.2 dL_appendSeries_24
    · refine vx_catch (own := RL) (name := cs_ISE) hown (tableOf [(0, 14, 17, 21), (0, 14, 21, 13)]) ⟨0, 14, 25, 15⟩ (tableOf []) hT (fun z hz => by rcases List.mem_cons.mp hz with rfl | hz; exact Or.inr ⟨by decide, cs_IOB, hts (.classLink RL 21 cs_IOB) (by decide +kernel), hn.2.2.2.1⟩; rcases List.mem_cons.mp hz with rfl | hz; exact Or.inr ⟨by decide, cs_IAE, hts (.classLink RL 13 cs_IAE) (by decide +kernel), hn.2.2.1⟩; cases hz) (by decide) (by decide) (hts (.classLink RL 15 cs_ISE) (by decide +kernel)) (va_Nw.use rfl hE.2.1.2.1) h4 h5 h6 ?_
      refine lv_astore (lv' := [(6, .ref q7), (0, .ref (ad 0)), (1, .int v), (2, .int a), (3, .int b), (4, .int n), (5, .ref o9)]) hx hb dL_appendSeries_25 hl (by decide) rfl (fun ls hl => ?_)
      refine lv_iconst (v := 3) hx hb dL_appendSeries_27 (by decide) ?_
      have es : cs_sSer S v a b n = S := by unfold cs_sSer; exact if_neg (fun h => absurd (hk.symm.trans h) (by decide))
      refine W.widen (k := 5) (n := 30) (Nat.le_of_ble_eq_true rfl) (Nat.le_of_ble_eq_true rfl) ?_
      exact W.iret (v := 3) hx hb hr (fun t ht _ => cs_wend (K := 3) 3 f ⟨hk.symm, fun h => absurd (hk.symm.trans h) (by decide)⟩ (by show va_P D vwCl (cs_O o9 f (cs_sSer S v a b n) ad cy) _; rw [es]; exact hP) (by show va_D _ (cs_O o9 f (cs_sSer S v a b n) ad cy); rw [es]; exact hD) hS9 t ht) hS9.2.2 dL_appendSeries_28
  · have hk9 := hk
    obtain ⟨hk, rfl⟩ := hk
    obtain ⟨hP, hD⟩ := cs_joinR (w1 := ([(o9, .inl (cy 2, 1, .inr (.inl f)))] : va_W)) hP hD hk1 hF hP1 hD1
    have hP : va_P D vwCl (cs_O o9 f (cs_sSer S v a b n) ad cy) H1 := hP
    have hD : va_D (va_A (cs_O o9 f S ad cy) s.heap.size) (cs_O o9 f (cs_sSer S v a b n) ad cy) := hD
    refine lv_i2l (v := Int32.toInt64 (cs_vSer S v n)) hx hb dL_appendSeries_12 rfl ?_
    refine cs_last (k := 0) hx hb hK hP hD hS9 0 2 cs_O0 rfl (by decide) (by decide) dL_appendSeries_13 (fun H locs hP hD hS9 => ?_)
    have hP : va_P D vwCl (cs_O o9 (vp_updL f 0 (Int32.toInt64 (cs_vSer S v n))) (cs_sSer S v a b n) ad cy) H := hP
    have hD : va_D (va_A (cs_O o9 f S ad cy) s.heap.size) (cs_O o9 (vp_updL f 0 (Int32.toInt64 (cs_vSer S v n))) (cs_sSer S v a b n) ad cy) := hD
    refine lv_goto (tgt := 29) hx hb dL_appendSeries_14 (by decide) ?_
    refine lv_iconst (v := 0) hx hb dL_appendSeries_29 (by decide) ?_
    refine W.widen (k := 5) (n := 30) (Nat.le_of_ble_eq_true rfl) (Nat.le_of_ble_eq_true rfl) ?_
    exact W.iret (v := 0) hx hb hr (fun t ht _ => cs_wend (K := 0) 0 (vp_updL f 0 (Int32.toInt64 (cs_vSer S v n))) ⟨hk.symm, fun _ => cs_up0 (f := f) (x := Int32.toInt64 (cs_vSer S v n))⟩ hP hD hS9 t ht) hS9.2.2 dL_appendSeries_30
set_option maxHeartbeats 4000000 in
set_option maxRecDepth 100000 in
theorem k_L_appendRow (l : Launch) (hlf : l.stackTraces = false) (D : va_G) (S : cs_St) (ad : Nat → Nat) (cy : Nat → ClassId) (o9 : Nat) (f : Nat → Int64) (sz : Nat) (hS : cs_ok S) (v u : Int32) : Met l yL_appendRow wsL_appendRow ({ frames := 8, cells := 3, slots := 18, locals := 129 }) (va_Pc [.ref (ad 0), .int v, .int u, .ref o9] (cs_Bl D (cs_tys cy) (cs_O o9 f S ad cy) sz)) (cs_Qw D (cs_O o9 f S ad cy) (fun (f2 : Nat → Int64) => cs_O o9 f2 (cs_sRow S v u) ad cy) (fun r9 f2 => r9 = cs_kRow S v u ∧ (cs_kRow S v u = 0 → f2 0 = Int32.toInt64 (cs_vRow S v u)))) 3 18 (va_A (cs_O o9 f S ad cy) sz) := by
  refine cs_ofWH (cc := cL_appendRow) (maxL := 5) (ret := (some .int)) (by decide) rfl ?_
  intro pg e s m args below meth c s₁ B hml hv
  obtain ⟨rfl, hn, hsz, hE, hz9, hP, hK, hD0⟩ := hv
  subst hsz
  have hD := hD0.self (sz := s.heap.size)
  have hA : ∀ q : Nat, s.heap.size ≤ q → va_A (cs_O o9 f S ad cy) s.heap.size q := fun q h => Or.inr h
  have hS9 : va_S (va_A (cs_O o9 f S ad cy) s.heap.size) s.heap s.heap [] := va_S.rf
  have hx := B.exec
  have hb := B.bytes
  have hr := B.returns
  have hts := atoms_spec (ws := wsL_appendRow) B.pre
  have hown : s.vm.findClass RL = some m.cls := findClass_of_methodNamed B.named
  have hlocks := B.notSynchronized
  have hT : c.exceptionTable.toList = tableOf [(0, 10, 13, 21), (0, 10, 17, 15)] := vx_table (x := yL_appendRow) B (hts _ List.mem_cons_self)
  have hl := lv_entry ([.ref (ad 0), .int v, .int u, .ref o9]) (n := 5) (Nat.le_of_ble_eq_true rfl)
  rw [lg_entry_eq]
  generalize (lg_sl ([.ref (ad 0), .int v, .int u, .ref o9]) ++ List.replicate (5 - (lg_sl ([.ref (ad 0), .int v, .int u, .ref o9])).length) Slot.unset).toArray = ls at hl ⊢
  have hl : lv_has ls 5 [(0, .ref (ad 0)), (1, .int v), (2, .int u), (3, .ref o9)] := hl
  have hPL : va_P D vwCl (cs_L S ad cy) s.heap := cs_PR (w1 := ([(o9, .inl (cy 2, 1, .inr (.inl f)))] : va_W)) hP
  have hDL : va_D (va_A (cs_O o9 f S ad cy) s.heap.size) (cs_L S ad cy) := cs_DR (w1 := ([(o9, .inl (cy 2, 1, .inr (.inl f)))] : va_W)) hD
  have hF : ∀ q, va_A (cs_L S ad cy) s.heap.size q → va_A (cs_O o9 f S ad cy) s.heap.size q := cs_inR (w1 := ([(o9, .inl (cy 2, 1, .inr (.inl f)))] : va_W)) hD hS9 hA
  refine lv_aload_n hx hb dL_appendRow_0 rfl (lv_at hl 3 rfl) ?_
  refine lv_iconst (v := nI 0) hx hb dL_appendRow_1 (by decide) ?_
  refine lv_aload_n hx hb dL_appendRow_2 rfl (lv_at hl 0 rfl) ?_
  refine lv_iload_n hx hb dL_appendRow_3 rfl (lv_at hl 1 rfl) ?_
  refine lv_iload_n hx hb dL_appendRow_4 rfl (lv_at hl 2 rfl) ?_
  refine cs_wxcalli (vx_runV (As := [.int v, .int u]) (rest := [.int (nI 0), .ref o9]) ⟨hx, hb, hml, hown, hts⟩ (k_X1_appendRow l hlf D S ad cy s.heap.size hS v u) (cwV 2 hts gL_appendRow_X1_appendRow rfl rfl rfl (by decide +kernel) ⟨(Nat.le_of_ble_eq_true rfl), (Nat.le_of_ble_eq_true rfl)⟩) ⟨cs_By.blind, va_recv hK hPL (ci := 1) (q0 := 0) rfl rfl, cs_By.at hE (hz9.narrow hF) hPL hK hDL⟩ rfl rfl hl.1 rfl (lv_room (Nat.le_of_ble_eq_true rfl)) dL_appendRow_5 ⟨(Nat.le_of_ble_eq_true rfl), (Nat.le_of_ble_eq_true rfl)⟩) hS9 hF (fun E ce q7 H1 locs1 h1 h2 h3 hS9 h4 h5 h6 => ?_) (fun rr u8 H1 locs1 hk hP1 hD1 hz1 hk1 hS9 => ?_)
  · have h9 := h2
    have hP := cs_keep hP h3
    rcases h1 with ⟨hk, rfl⟩ | ⟨hk, rfl⟩ | ⟨hk, rfl⟩
    · refine vx_catch (own := RL) (name := cs_IOB) hown (tableOf []) ⟨0, 10, 13, 21⟩ (tableOf [(0, 10, 17, 15)]) hT (fun z hz => by cases hz) (by decide) (by decide) (hts (.classLink RL 21 cs_IOB) (by decide +kernel)) (va_Nw.use rfl hE.2.1.2.2.1) h4 h5 h6 ?_
      refine lv_astore (lv' := [(4, .ref q7), (0, .ref (ad 0)), (1, .int v), (2, .int u), (3, .ref o9)]) hx hb dL_appendRow_13 hl (by decide) rfl (fun ls hl => ?_)
      refine lv_iconst (v := 1) hx hb dL_appendRow_15 (by decide) ?_
      have es : cs_sRow S v u = S := by unfold cs_sRow; exact if_neg (fun h => absurd (hk.symm.trans h) (by decide))
      refine W.widen (k := 3) (n := 18) (Nat.le_of_ble_eq_true rfl) (Nat.le_of_ble_eq_true rfl) ?_
      exact W.iret (v := 1) hx hb hr (fun t ht _ => cs_wend (K := 1) 1 f ⟨hk.symm, fun h => absurd (hk.symm.trans h) (by decide)⟩ (by show va_P D vwCl (cs_O o9 f (cs_sRow S v u) ad cy) _; rw [es]; exact hP) (by show va_D _ (cs_O o9 f (cs_sRow S v u) ad cy); rw [es]; exact hD) hS9 t ht) hS9.2.2 dL_appendRow_16
    · refine vx_catch (own := RL) (name := cs_ISE) hown (tableOf [(0, 10, 13, 21)]) ⟨0, 10, 17, 15⟩ (tableOf []) hT (fun z hz => by rcases List.mem_cons.mp hz with rfl | hz; exact Or.inr ⟨by decide, cs_IOB, hts (.classLink RL 21 cs_IOB) (by decide +kernel), hn.2.2.2.1⟩; cases hz) (by decide) (by decide) (hts (.classLink RL 15 cs_ISE) (by decide +kernel)) (va_Nw.use rfl hE.2.1.2.1) h4 h5 h6 ?_
      refine lv_astore (lv' := [(4, .ref q7), (0, .ref (ad 0)), (1, .int v), (2, .int u), (3, .ref o9)]) hx hb dL_appendRow_17 hl (by decide) rfl (fun ls hl => ?_)
      refine lv_iconst (v := 2) hx hb dL_appendRow_19 (by decide) ?_
      have es : cs_sRow S v u = S := by unfold cs_sRow; exact if_neg (fun h => absurd (hk.symm.trans h) (by decide))
      refine W.widen (k := 3) (n := 18) (Nat.le_of_ble_eq_true rfl) (Nat.le_of_ble_eq_true rfl) ?_
      exact W.iret (v := 2) hx hb hr (fun t ht _ => cs_wend (K := 2) 2 f ⟨hk.symm, fun h => absurd (hk.symm.trans h) (by decide)⟩ (by show va_P D vwCl (cs_O o9 f (cs_sRow S v u) ad cy) _; rw [es]; exact hP) (by show va_D _ (cs_O o9 f (cs_sRow S v u) ad cy); rw [es]; exact hD) hS9 t ht) hS9.2.2 dL_appendRow_20
    · exact absurd hk cs_k2n3
  · have hk9 := hk
    obtain ⟨hk, rfl⟩ := hk
    obtain ⟨hP, hD⟩ := cs_joinR (w1 := ([(o9, .inl (cy 2, 1, .inr (.inl f)))] : va_W)) hP hD hk1 hF hP1 hD1
    have hP : va_P D vwCl (cs_O o9 f (cs_sRow S v u) ad cy) H1 := hP
    have hD : va_D (va_A (cs_O o9 f S ad cy) s.heap.size) (cs_O o9 f (cs_sRow S v u) ad cy) := hD
    refine lv_i2l (v := Int32.toInt64 (cs_vRow S v u)) hx hb dL_appendRow_8 rfl ?_
    refine cs_last (k := 0) hx hb hK hP hD hS9 0 2 cs_O0 rfl (by decide) (by decide) dL_appendRow_9 (fun H locs hP hD hS9 => ?_)
    have hP : va_P D vwCl (cs_O o9 (vp_updL f 0 (Int32.toInt64 (cs_vRow S v u))) (cs_sRow S v u) ad cy) H := hP
    have hD : va_D (va_A (cs_O o9 f S ad cy) s.heap.size) (cs_O o9 (vp_updL f 0 (Int32.toInt64 (cs_vRow S v u))) (cs_sRow S v u) ad cy) := hD
    refine lv_goto (tgt := 21) hx hb dL_appendRow_10 (by decide) ?_
    refine lv_iconst (v := 0) hx hb dL_appendRow_21 (by decide) ?_
    refine W.widen (k := 3) (n := 18) (Nat.le_of_ble_eq_true rfl) (Nat.le_of_ble_eq_true rfl) ?_
    exact W.iret (v := 0) hx hb hr (fun t ht _ => cs_wend (K := 0) 0 (vp_updL f 0 (Int32.toInt64 (cs_vRow S v u))) ⟨hk.symm, fun _ => cs_up0 (f := f) (x := Int32.toInt64 (cs_vRow S v u))⟩ hP hD hS9 t ht) hS9.2.2 dL_appendRow_22
set_option maxHeartbeats 4000000 in
set_option maxRecDepth 100000 in
theorem k_L_setByte (l : Launch) (hlf : l.stackTraces = false) (D : va_G) (S : cs_St) (ad : Nat → Nat) (cy : Nat → ClassId) (o9 : Nat) (f : Nat → Int64) (sz : Nat) (hS : cs_ok S) (v u d : Int32) : Met l yL_setByte wsL_setByte ({ frames := 8, cells := 3, slots := 18, locals := 128 }) (va_Pc [.ref (ad 0), .int v, .int u, .int d, .ref o9] (cs_Bl D (cs_tys cy) (cs_O o9 f S ad cy) sz)) (cs_Qw D (cs_O o9 f S ad cy) (fun (f2 : Nat → Int64) => cs_O o9 f2 (cs_sSet S v u d) ad cy) (fun r9 f2 => r9 = cs_kSet S v u d ∧ (cs_kSet S v u d = 0 → f2 0 = Int32.toInt64 (cs_vByt S v u)))) 3 18 (va_A (cs_O o9 f S ad cy) sz) := by
  refine cs_ofWH (cc := cL_setByte) (maxL := 6) (ret := (some .int)) (by decide) rfl ?_
  intro pg e s m args below meth c s₁ B hml hv
  obtain ⟨rfl, hn, hsz, hE, hz9, hP, hK, hD0⟩ := hv
  subst hsz
  have hD := hD0.self (sz := s.heap.size)
  have hA : ∀ q : Nat, s.heap.size ≤ q → va_A (cs_O o9 f S ad cy) s.heap.size q := fun q h => Or.inr h
  have hS9 : va_S (va_A (cs_O o9 f S ad cy) s.heap.size) s.heap s.heap [] := va_S.rf
  have hx := B.exec
  have hb := B.bytes
  have hr := B.returns
  have hts := atoms_spec (ws := wsL_setByte) B.pre
  have hown : s.vm.findClass RL = some m.cls := findClass_of_methodNamed B.named
  have hlocks := B.notSynchronized
  have hT : c.exceptionTable.toList = tableOf [(0, 12, 15, 21), (0, 12, 19, 13)] := vx_table (x := yL_setByte) B (hts _ List.mem_cons_self)
  have hl := lv_entry ([.ref (ad 0), .int v, .int u, .int d, .ref o9]) (n := 6) (Nat.le_of_ble_eq_true rfl)
  rw [lg_entry_eq]
  generalize (lg_sl ([.ref (ad 0), .int v, .int u, .int d, .ref o9]) ++ List.replicate (6 - (lg_sl ([.ref (ad 0), .int v, .int u, .int d, .ref o9])).length) Slot.unset).toArray = ls at hl ⊢
  have hl : lv_has ls 6 [(0, .ref (ad 0)), (1, .int v), (2, .int u), (3, .int d), (4, .ref o9)] := hl
  have hPL : va_P D vwCl (cs_L S ad cy) s.heap := cs_PR (w1 := ([(o9, .inl (cy 2, 1, .inr (.inl f)))] : va_W)) hP
  have hDL : va_D (va_A (cs_O o9 f S ad cy) s.heap.size) (cs_L S ad cy) := cs_DR (w1 := ([(o9, .inl (cy 2, 1, .inr (.inl f)))] : va_W)) hD
  have hF : ∀ q, va_A (cs_L S ad cy) s.heap.size q → va_A (cs_O o9 f S ad cy) s.heap.size q := cs_inR (w1 := ([(o9, .inl (cy 2, 1, .inr (.inl f)))] : va_W)) hD hS9 hA
  refine lv_aload hx hb dL_setByte_0 (lv_at hl 4 rfl) ?_
  refine lv_iconst (v := nI 0) hx hb dL_setByte_2 (by decide) ?_
  refine lv_aload_n hx hb dL_setByte_3 rfl (lv_at hl 0 rfl) ?_
  refine lv_iload_n hx hb dL_setByte_4 rfl (lv_at hl 1 rfl) ?_
  refine lv_iload_n hx hb dL_setByte_5 rfl (lv_at hl 2 rfl) ?_
  refine lv_iload_n hx hb dL_setByte_6 rfl (lv_at hl 3 rfl) ?_
  refine cs_wxcalli (vx_runV (As := [.int v, .int u, .int d]) (rest := [.int (nI 0), .ref o9]) ⟨hx, hb, hml, hown, hts⟩ (k_X1_setByte l hlf D S ad cy s.heap.size hS v u d) (cwV 3 hts gL_setByte_X1_setByte rfl rfl rfl (by decide +kernel) ⟨(Nat.le_of_ble_eq_true rfl), (Nat.le_of_ble_eq_true rfl)⟩) ⟨cs_By.blind, va_recv hK hPL (ci := 1) (q0 := 0) rfl rfl, cs_By.at hE (hz9.narrow hF) hPL hK hDL⟩ rfl rfl hl.1 rfl (lv_room (Nat.le_of_ble_eq_true rfl)) dL_setByte_7 ⟨(Nat.le_of_ble_eq_true rfl), (Nat.le_of_ble_eq_true rfl)⟩) hS9 hF (fun E ce q7 H1 locs1 h1 h2 h3 hS9 h4 h5 h6 => ?_) (fun rr u8 H1 locs1 hk hP1 hD1 hz1 hk1 hS9 => ?_)
  · have h9 := h2
    have hP := cs_keep hP h3
    rcases h1 with ⟨hk, rfl⟩ | ⟨hk, rfl⟩ | ⟨hk, rfl⟩
    · refine vx_catch (own := RL) (name := cs_IOB) hown (tableOf []) ⟨0, 12, 15, 21⟩ (tableOf [(0, 12, 19, 13)]) hT (fun z hz => by cases hz) (by decide) (by decide) (hts (.classLink RL 21 cs_IOB) (by decide +kernel)) (va_Nw.use rfl hE.2.1.2.2.1) h4 h5 h6 ?_
      refine lv_astore (lv' := [(5, .ref q7), (0, .ref (ad 0)), (1, .int v), (2, .int u), (3, .int d), (4, .ref o9)]) hx hb dL_setByte_15 hl (by decide) rfl (fun ls hl => ?_)
      refine lv_iconst (v := 1) hx hb dL_setByte_17 (by decide) ?_
      have es : cs_sSet S v u d = S := by unfold cs_sSet; exact if_neg (fun h => absurd (hk.symm.trans h) (by decide))
      refine W.widen (k := 3) (n := 18) (Nat.le_of_ble_eq_true rfl) (Nat.le_of_ble_eq_true rfl) ?_
      exact W.iret (v := 1) hx hb hr (fun t ht _ => cs_wend (K := 1) 1 f ⟨hk.symm, fun h => absurd (hk.symm.trans h) (by decide)⟩ (by show va_P D vwCl (cs_O o9 f (cs_sSet S v u d) ad cy) _; rw [es]; exact hP) (by show va_D _ (cs_O o9 f (cs_sSet S v u d) ad cy); rw [es]; exact hD) hS9 t ht) hS9.2.2 dL_setByte_18
    · refine vx_catch (own := RL) (name := cs_IAE) hown (tableOf [(0, 12, 15, 21)]) ⟨0, 12, 19, 13⟩ (tableOf []) hT (fun z hz => by rcases List.mem_cons.mp hz with rfl | hz; exact Or.inr ⟨by decide, cs_IOB, hts (.classLink RL 21 cs_IOB) (by decide +kernel), hn.2.1⟩; cases hz) (by decide) (by decide) (hts (.classLink RL 13 cs_IAE) (by decide +kernel)) (va_Nw.use rfl hE.2.1.1) h4 h5 h6 ?_
      refine lv_astore (lv' := [(5, .ref q7), (0, .ref (ad 0)), (1, .int v), (2, .int u), (3, .int d), (4, .ref o9)]) hx hb dL_setByte_19 hl (by decide) rfl (fun ls hl => ?_)
      refine lv_iconst (v := 2) hx hb dL_setByte_21 (by decide) ?_
      have es : cs_sSet S v u d = S := by unfold cs_sSet; exact if_neg (fun h => absurd (hk.symm.trans h) (by decide))
      refine W.widen (k := 3) (n := 18) (Nat.le_of_ble_eq_true rfl) (Nat.le_of_ble_eq_true rfl) ?_
      exact W.iret (v := 2) hx hb hr (fun t ht _ => cs_wend (K := 2) 2 f ⟨hk.symm, fun h => absurd (hk.symm.trans h) (by decide)⟩ (by show va_P D vwCl (cs_O o9 f (cs_sSet S v u d) ad cy) _; rw [es]; exact hP) (by show va_D _ (cs_O o9 f (cs_sSet S v u d) ad cy); rw [es]; exact hD) hS9 t ht) hS9.2.2 dL_setByte_22
    · exact absurd hk cs_k2n3
  · have hk9 := hk
    obtain ⟨hk, rfl⟩ := hk
    obtain ⟨hP, hD⟩ := cs_joinR (w1 := ([(o9, .inl (cy 2, 1, .inr (.inl f)))] : va_W)) hP hD hk1 hF hP1 hD1
    have hP : va_P D vwCl (cs_O o9 f (cs_sSet S v u d) ad cy) H1 := hP
    have hD : va_D (va_A (cs_O o9 f S ad cy) s.heap.size) (cs_O o9 f (cs_sSet S v u d) ad cy) := hD
    refine lv_i2l (v := Int32.toInt64 (cs_vByt S v u)) hx hb dL_setByte_10 rfl ?_
    refine cs_last (k := 0) hx hb hK hP hD hS9 0 2 cs_O0 rfl (by decide) (by decide) dL_setByte_11 (fun H locs hP hD hS9 => ?_)
    have hP : va_P D vwCl (cs_O o9 (vp_updL f 0 (Int32.toInt64 (cs_vByt S v u))) (cs_sSet S v u d) ad cy) H := hP
    have hD : va_D (va_A (cs_O o9 f S ad cy) s.heap.size) (cs_O o9 (vp_updL f 0 (Int32.toInt64 (cs_vByt S v u))) (cs_sSet S v u d) ad cy) := hD
    refine lv_goto (tgt := 23) hx hb dL_setByte_12 (by decide) ?_
    refine lv_iconst (v := 0) hx hb dL_setByte_23 (by decide) ?_
    refine W.widen (k := 3) (n := 18) (Nat.le_of_ble_eq_true rfl) (Nat.le_of_ble_eq_true rfl) ?_
    exact W.iret (v := 0) hx hb hr (fun t ht _ => cs_wend (K := 0) 0 (vp_updL f 0 (Int32.toInt64 (cs_vByt S v u))) ⟨hk.symm, fun _ => cs_up0 (f := f) (x := Int32.toInt64 (cs_vByt S v u))⟩ hP hD hS9 t ht) hS9.2.2 dL_setByte_24
set_option maxHeartbeats 4000000 in
set_option maxRecDepth 100000 in
theorem k_L_truncate (l : Launch) (hlf : l.stackTraces = false) (D : va_G) (S : cs_St) (ad : Nat → Nat) (cy : Nat → ClassId) (o9 : Nat) (f : Nat → Int64) (sz : Nat) (hS : cs_ok S) (v u : Int32) : Met l yL_truncate wsL_truncate ({ frames := 8, cells := 2, slots := 12, locals := 125 }) (va_Pc [.ref (ad 0), .int v, .int u, .ref o9] (cs_Bl D (cs_tys cy) (cs_O o9 f S ad cy) sz)) (cs_Qw D (cs_O o9 f S ad cy) (fun (f2 : Nat → Int64) => cs_O o9 f2 (cs_sTru S v u) ad cy) (fun r9 f2 => r9 = cs_kTru S v u ∧ (cs_kTru S v u = 0 → f2 0 = Int32.toInt64 (cs_vTru S v u)))) 2 12 (va_A (cs_O o9 f S ad cy) sz) := by
  refine cs_ofWH (cc := cL_truncate) (maxL := 5) (ret := (some .int)) (by decide) rfl ?_
  intro pg e s m args below meth c s₁ B hml hv
  obtain ⟨rfl, hn, hsz, hE, hz9, hP, hK, hD0⟩ := hv
  subst hsz
  have hD := hD0.self (sz := s.heap.size)
  have hA : ∀ q : Nat, s.heap.size ≤ q → va_A (cs_O o9 f S ad cy) s.heap.size q := fun q h => Or.inr h
  have hS9 : va_S (va_A (cs_O o9 f S ad cy) s.heap.size) s.heap s.heap [] := va_S.rf
  have hx := B.exec
  have hb := B.bytes
  have hr := B.returns
  have hts := atoms_spec (ws := wsL_truncate) B.pre
  have hown : s.vm.findClass RL = some m.cls := findClass_of_methodNamed B.named
  have hlocks := B.notSynchronized
  have hT : c.exceptionTable.toList = tableOf [(0, 10, 13, 21), (0, 10, 17, 13)] := vx_table (x := yL_truncate) B (hts _ List.mem_cons_self)
  have hl := lv_entry ([.ref (ad 0), .int v, .int u, .ref o9]) (n := 5) (Nat.le_of_ble_eq_true rfl)
  rw [lg_entry_eq]
  generalize (lg_sl ([.ref (ad 0), .int v, .int u, .ref o9]) ++ List.replicate (5 - (lg_sl ([.ref (ad 0), .int v, .int u, .ref o9])).length) Slot.unset).toArray = ls at hl ⊢
  have hl : lv_has ls 5 [(0, .ref (ad 0)), (1, .int v), (2, .int u), (3, .ref o9)] := hl
  have hPL : va_P D vwCl (cs_L S ad cy) s.heap := cs_PR (w1 := ([(o9, .inl (cy 2, 1, .inr (.inl f)))] : va_W)) hP
  have hDL : va_D (va_A (cs_O o9 f S ad cy) s.heap.size) (cs_L S ad cy) := cs_DR (w1 := ([(o9, .inl (cy 2, 1, .inr (.inl f)))] : va_W)) hD
  have hF : ∀ q, va_A (cs_L S ad cy) s.heap.size q → va_A (cs_O o9 f S ad cy) s.heap.size q := cs_inR (w1 := ([(o9, .inl (cy 2, 1, .inr (.inl f)))] : va_W)) hD hS9 hA
  refine lv_aload_n hx hb dL_truncate_0 rfl (lv_at hl 3 rfl) ?_
  refine lv_iconst (v := nI 0) hx hb dL_truncate_1 (by decide) ?_
  refine lv_aload_n hx hb dL_truncate_2 rfl (lv_at hl 0 rfl) ?_
  refine lv_iload_n hx hb dL_truncate_3 rfl (lv_at hl 1 rfl) ?_
  refine lv_iload_n hx hb dL_truncate_4 rfl (lv_at hl 2 rfl) ?_
  refine cs_wxcalli (vx_runV (As := [.int v, .int u]) (rest := [.int (nI 0), .ref o9]) ⟨hx, hb, hml, hown, hts⟩ (k_X1_truncate l hlf D S ad cy s.heap.size hS v u) (cwV 2 hts gL_truncate_X1_truncate rfl rfl rfl (by decide +kernel) ⟨(Nat.le_of_ble_eq_true rfl), (Nat.le_of_ble_eq_true rfl)⟩) ⟨cs_By.blind, va_recv hK hPL (ci := 1) (q0 := 0) rfl rfl, cs_By.at hE (hz9.narrow hF) hPL hK hDL⟩ rfl rfl hl.1 rfl (lv_room (Nat.le_of_ble_eq_true rfl)) dL_truncate_5 ⟨(Nat.le_of_ble_eq_true rfl), (Nat.le_of_ble_eq_true rfl)⟩) hS9 hF (fun E ce q7 H1 locs1 h1 h2 h3 hS9 h4 h5 h6 => ?_) (fun rr u8 H1 locs1 hk hP1 hD1 hz1 hk1 hS9 => ?_)
  · have h9 := h2
    have hP := cs_keep hP h3
    rcases h1 with ⟨hk, rfl⟩ | ⟨hk, rfl⟩ | ⟨hk, rfl⟩
    · refine vx_catch (own := RL) (name := cs_IOB) hown (tableOf []) ⟨0, 10, 13, 21⟩ (tableOf [(0, 10, 17, 13)]) hT (fun z hz => by cases hz) (by decide) (by decide) (hts (.classLink RL 21 cs_IOB) (by decide +kernel)) (va_Nw.use rfl hE.2.1.2.2.1) h4 h5 h6 ?_
      refine lv_astore (lv' := [(4, .ref q7), (0, .ref (ad 0)), (1, .int v), (2, .int u), (3, .ref o9)]) hx hb dL_truncate_13 hl (by decide) rfl (fun ls hl => ?_)
      refine lv_iconst (v := 1) hx hb dL_truncate_15 (by decide) ?_
      have es : cs_sTru S v u = S := by unfold cs_sTru; exact if_neg (fun h => absurd (hk.symm.trans h) (by decide))
      refine W.widen (k := 2) (n := 12) (Nat.le_of_ble_eq_true rfl) (Nat.le_of_ble_eq_true rfl) ?_
      exact W.iret (v := 1) hx hb hr (fun t ht _ => cs_wend (K := 1) 1 f ⟨hk.symm, fun h => absurd (hk.symm.trans h) (by decide)⟩ (by show va_P D vwCl (cs_O o9 f (cs_sTru S v u) ad cy) _; rw [es]; exact hP) (by show va_D _ (cs_O o9 f (cs_sTru S v u) ad cy); rw [es]; exact hD) hS9 t ht) hS9.2.2 dL_truncate_16
    · refine vx_catch (own := RL) (name := cs_IAE) hown (tableOf [(0, 10, 13, 21)]) ⟨0, 10, 17, 13⟩ (tableOf []) hT (fun z hz => by rcases List.mem_cons.mp hz with rfl | hz; exact Or.inr ⟨by decide, cs_IOB, hts (.classLink RL 21 cs_IOB) (by decide +kernel), hn.2.1⟩; cases hz) (by decide) (by decide) (hts (.classLink RL 13 cs_IAE) (by decide +kernel)) (va_Nw.use rfl hE.2.1.1) h4 h5 h6 ?_
      refine lv_astore (lv' := [(4, .ref q7), (0, .ref (ad 0)), (1, .int v), (2, .int u), (3, .ref o9)]) hx hb dL_truncate_17 hl (by decide) rfl (fun ls hl => ?_)
      refine lv_iconst (v := 2) hx hb dL_truncate_19 (by decide) ?_
      have es : cs_sTru S v u = S := by unfold cs_sTru; exact if_neg (fun h => absurd (hk.symm.trans h) (by decide))
      refine W.widen (k := 2) (n := 12) (Nat.le_of_ble_eq_true rfl) (Nat.le_of_ble_eq_true rfl) ?_
      exact W.iret (v := 2) hx hb hr (fun t ht _ => cs_wend (K := 2) 2 f ⟨hk.symm, fun h => absurd (hk.symm.trans h) (by decide)⟩ (by show va_P D vwCl (cs_O o9 f (cs_sTru S v u) ad cy) _; rw [es]; exact hP) (by show va_D _ (cs_O o9 f (cs_sTru S v u) ad cy); rw [es]; exact hD) hS9 t ht) hS9.2.2 dL_truncate_20
    · exact absurd hk cs_k2n3
  · have hk9 := hk
    obtain ⟨hk, rfl⟩ := hk
    obtain ⟨hP, hD⟩ := cs_joinR (w1 := ([(o9, .inl (cy 2, 1, .inr (.inl f)))] : va_W)) hP hD hk1 hF hP1 hD1
    have hP : va_P D vwCl (cs_O o9 f (cs_sTru S v u) ad cy) H1 := hP
    have hD : va_D (va_A (cs_O o9 f S ad cy) s.heap.size) (cs_O o9 f (cs_sTru S v u) ad cy) := hD
    refine lv_i2l (v := Int32.toInt64 (cs_vTru S v u)) hx hb dL_truncate_8 rfl ?_
    refine cs_last (k := 0) hx hb hK hP hD hS9 0 2 cs_O0 rfl (by decide) (by decide) dL_truncate_9 (fun H locs hP hD hS9 => ?_)
    have hP : va_P D vwCl (cs_O o9 (vp_updL f 0 (Int32.toInt64 (cs_vTru S v u))) (cs_sTru S v u) ad cy) H := hP
    have hD : va_D (va_A (cs_O o9 f S ad cy) s.heap.size) (cs_O o9 (vp_updL f 0 (Int32.toInt64 (cs_vTru S v u))) (cs_sTru S v u) ad cy) := hD
    refine lv_goto (tgt := 21) hx hb dL_truncate_10 (by decide) ?_
    refine lv_iconst (v := 0) hx hb dL_truncate_21 (by decide) ?_
    refine W.widen (k := 2) (n := 12) (Nat.le_of_ble_eq_true rfl) (Nat.le_of_ble_eq_true rfl) ?_
    exact W.iret (v := 0) hx hb hr (fun t ht _ => cs_wend (K := 0) 0 (vp_updL f 0 (Int32.toInt64 (cs_vTru S v u))) ⟨hk.symm, fun _ => cs_up0 (f := f) (x := Int32.toInt64 (cs_vTru S v u))⟩ hP hD hS9 t ht) hS9.2.2 dL_truncate_22
set_option maxHeartbeats 4000000 in
set_option maxRecDepth 100000 in
theorem k_L_length (l : Launch) (hlf : l.stackTraces = false) (D : va_G) (S : cs_St) (ad : Nat → Nat) (cy : Nat → ClassId) (o9 : Nat) (f : Nat → Int64) (sz : Nat) (hS : cs_ok S) (v : Int32) : Met l yL_length wsL_length ({ frames := 8, cells := 1, slots := 6, locals := 123 }) (va_Pc [.ref (ad 0), .int v, .ref o9] (cs_Bl D (cs_tys cy) (cs_O o9 f S ad cy) sz)) (cs_Qw D (cs_O o9 f S ad cy) (fun (f2 : Nat → Int64) => cs_O o9 f2 S ad cy) (fun r9 f2 => r9 = cs_k1 (cs_in v 0 3) ∧ (cs_k1 (cs_in v 0 3) = 0 → f2 0 = Int32.toInt64 (nI (cs_ln S (cs_c v)))))) 1 6 (va_A (cs_O o9 f S ad cy) sz) := by
  refine cs_ofWH (cc := cL_length) (maxL := 4) (ret := (some .int)) (by decide) rfl ?_
  intro pg e s m args below meth c s₁ B hml hv
  obtain ⟨rfl, hn, hsz, hE, hz9, hP, hK, hD0⟩ := hv
  subst hsz
  have hD := hD0.self (sz := s.heap.size)
  have hA : ∀ q : Nat, s.heap.size ≤ q → va_A (cs_O o9 f S ad cy) s.heap.size q := fun q h => Or.inr h
  have hS9 : va_S (va_A (cs_O o9 f S ad cy) s.heap.size) s.heap s.heap [] := va_S.rf
  have hx := B.exec
  have hb := B.bytes
  have hr := B.returns
  have hts := atoms_spec (ws := wsL_length) B.pre
  have hown : s.vm.findClass RL = some m.cls := findClass_of_methodNamed B.named
  have hlocks := B.notSynchronized
  have hT : c.exceptionTable.toList = tableOf [(0, 9, 12, 21)] := vx_table (x := yL_length) B (hts _ List.mem_cons_self)
  have hl := lv_entry ([.ref (ad 0), .int v, .ref o9]) (n := 4) (Nat.le_of_ble_eq_true rfl)
  rw [lg_entry_eq]
  generalize (lg_sl ([.ref (ad 0), .int v, .ref o9]) ++ List.replicate (4 - (lg_sl ([.ref (ad 0), .int v, .ref o9])).length) Slot.unset).toArray = ls at hl ⊢
  have hl : lv_has ls 4 [(0, .ref (ad 0)), (1, .int v), (2, .ref o9)] := hl
  have hPL : va_P D vwCl (cs_L S ad cy) s.heap := cs_PR (w1 := ([(o9, .inl (cy 2, 1, .inr (.inl f)))] : va_W)) hP
  have hDL : va_D (va_A (cs_O o9 f S ad cy) s.heap.size) (cs_L S ad cy) := cs_DR (w1 := ([(o9, .inl (cy 2, 1, .inr (.inl f)))] : va_W)) hD
  have hF : ∀ q, va_A (cs_L S ad cy) s.heap.size q → va_A (cs_O o9 f S ad cy) s.heap.size q := cs_inR (w1 := ([(o9, .inl (cy 2, 1, .inr (.inl f)))] : va_W)) hD hS9 hA
  refine lv_aload_n hx hb dL_length_0 rfl (lv_at hl 2 rfl) ?_
  refine lv_iconst (v := nI 0) hx hb dL_length_1 (by decide) ?_
  refine lv_aload_n hx hb dL_length_2 rfl (lv_at hl 0 rfl) ?_
  refine lv_iload_n hx hb dL_length_3 rfl (lv_at hl 1 rfl) ?_
  refine cs_xcalli (vx_runV (As := [.int v]) (rest := [.int (nI 0), .ref o9]) ⟨hx, hb, hml, hown, hts⟩ (k_X1_length l hlf D S ad cy hS v) (cwV 1 hts gL_length_X1_length rfl rfl rfl (by decide +kernel) ⟨(Nat.le_of_ble_eq_true rfl), (Nat.le_of_ble_eq_true rfl)⟩) ⟨cs_Bx.blind, va_recv hK hPL (ci := 1) (q0 := 0) rfl rfl, cs_Bx.at hE (hz9.narrow (fun q h => Or.inr h)) hPL hK⟩ rfl rfl hl.1 rfl (lv_room (Nat.le_of_ble_eq_true rfl)) dL_length_4 ⟨(Nat.le_of_ble_eq_true rfl), (Nat.le_of_ble_eq_true rfl)⟩) (fun E ce q7 H1 h1 h2 h3 h4 h5 h6 => ?_) (fun rr hk => ?_)
  · have hS9 : va_S (va_A (cs_O o9 f S ad cy) s.heap.size) s.heap H1 [] := cs_Sx h2 h3
    have hP := cs_keep hP h3
    rcases h1 with ⟨hk, rfl⟩ | ⟨hk, rfl⟩ | ⟨hk, rfl⟩
    · refine vx_catch (own := RL) (name := cs_IOB) hown (tableOf []) ⟨0, 9, 12, 21⟩ (tableOf []) hT (fun z hz => by cases hz) (by decide) (by decide) (hts (.classLink RL 21 cs_IOB) (by decide +kernel)) (va_Nw.use rfl hE.2.1.2.2.1) h4 h5 h6 ?_
      refine lv_astore_n (lv' := [(3, .ref q7), (0, .ref (ad 0)), (1, .int v), (2, .ref o9)]) hx hb dL_length_12 rfl hl (by decide) rfl (fun ls hl => ?_)
      refine lv_iconst (v := 1) hx hb dL_length_13 (by decide) ?_
      refine W.widen (k := 1) (n := 6) (Nat.le_of_ble_eq_true rfl) (Nat.le_of_ble_eq_true rfl) ?_
      exact W.iret (v := 1) hx hb hr (fun t ht _ => cs_wend (K := 1) 1 f ⟨hk.symm, fun h => absurd (hk.symm.trans h) (by decide)⟩ hP hD hS9 t ht) hS9.2.2 dL_length_14
    · exact absurd hk cs_k1n2
    · exact absurd hk cs_k1n3
  · obtain ⟨hk, rfl⟩ := hk
    refine lv_i2l (v := Int32.toInt64 (nI (cs_ln S (cs_c v)))) hx hb dL_length_7 rfl ?_
    refine cs_last (k := 0) hx hb hK hP hD hS9 0 2 cs_O0 rfl (by decide) (by decide) dL_length_8 (fun H locs hP hD hS9 => ?_)
    have hP : va_P D vwCl (cs_O o9 (vp_updL f 0 (Int32.toInt64 (nI (cs_ln S (cs_c v))))) S ad cy) H := hP
    have hD : va_D (va_A (cs_O o9 f S ad cy) s.heap.size) (cs_O o9 (vp_updL f 0 (Int32.toInt64 (nI (cs_ln S (cs_c v))))) S ad cy) := hD
    refine lv_goto (tgt := 15) hx hb dL_length_9 (by decide) ?_
    refine lv_iconst (v := 0) hx hb dL_length_15 (by decide) ?_
    refine W.widen (k := 1) (n := 6) (Nat.le_of_ble_eq_true rfl) (Nat.le_of_ble_eq_true rfl) ?_
    exact W.iret (v := 0) hx hb hr (fun t ht _ => cs_wend (K := 0) 0 (vp_updL f 0 (Int32.toInt64 (nI (cs_ln S (cs_c v))))) ⟨hk.symm, fun _ => cs_up0 (f := f) (x := Int32.toInt64 (nI (cs_ln S (cs_c v))))⟩ hP hD hS9 t ht) hS9.2.2 dL_length_16
set_option maxHeartbeats 4000000 in
set_option maxRecDepth 100000 in
theorem k_L_byteAt (l : Launch) (hlf : l.stackTraces = false) (D : va_G) (S : cs_St) (ad : Nat → Nat) (cy : Nat → ClassId) (o9 : Nat) (f : Nat → Int64) (sz : Nat) (hS : cs_ok S) (v u : Int32) : Met l yL_byteAt wsL_byteAt ({ frames := 8, cells := 2, slots := 12, locals := 126 }) (va_Pc [.ref (ad 0), .int v, .int u, .ref o9] (cs_Bl D (cs_tys cy) (cs_O o9 f S ad cy) sz)) (cs_Qw D (cs_O o9 f S ad cy) (fun (f2 : Nat → Int64) => cs_O o9 f2 S ad cy) (fun r9 f2 => r9 = cs_k1 (cs_pl S v u) ∧ (cs_k1 (cs_pl S v u) = 0 → f2 0 = Int32.toInt64 (cs_vByt S v u)))) 2 12 (va_A (cs_O o9 f S ad cy) sz) := by
  refine cs_ofWH (cc := cL_byteAt) (maxL := 5) (ret := (some .int)) (by decide) rfl ?_
  intro pg e s m args below meth c s₁ B hml hv
  obtain ⟨rfl, hn, hsz, hE, hz9, hP, hK, hD0⟩ := hv
  subst hsz
  have hD := hD0.self (sz := s.heap.size)
  have hA : ∀ q : Nat, s.heap.size ≤ q → va_A (cs_O o9 f S ad cy) s.heap.size q := fun q h => Or.inr h
  have hS9 : va_S (va_A (cs_O o9 f S ad cy) s.heap.size) s.heap s.heap [] := va_S.rf
  have hx := B.exec
  have hb := B.bytes
  have hr := B.returns
  have hts := atoms_spec (ws := wsL_byteAt) B.pre
  have hown : s.vm.findClass RL = some m.cls := findClass_of_methodNamed B.named
  have hlocks := B.notSynchronized
  have hT : c.exceptionTable.toList = tableOf [(0, 10, 13, 21)] := vx_table (x := yL_byteAt) B (hts _ List.mem_cons_self)
  have hl := lv_entry ([.ref (ad 0), .int v, .int u, .ref o9]) (n := 5) (Nat.le_of_ble_eq_true rfl)
  rw [lg_entry_eq]
  generalize (lg_sl ([.ref (ad 0), .int v, .int u, .ref o9]) ++ List.replicate (5 - (lg_sl ([.ref (ad 0), .int v, .int u, .ref o9])).length) Slot.unset).toArray = ls at hl ⊢
  have hl : lv_has ls 5 [(0, .ref (ad 0)), (1, .int v), (2, .int u), (3, .ref o9)] := hl
  have hPL : va_P D vwCl (cs_L S ad cy) s.heap := cs_PR (w1 := ([(o9, .inl (cy 2, 1, .inr (.inl f)))] : va_W)) hP
  have hDL : va_D (va_A (cs_O o9 f S ad cy) s.heap.size) (cs_L S ad cy) := cs_DR (w1 := ([(o9, .inl (cy 2, 1, .inr (.inl f)))] : va_W)) hD
  have hF : ∀ q, va_A (cs_L S ad cy) s.heap.size q → va_A (cs_O o9 f S ad cy) s.heap.size q := cs_inR (w1 := ([(o9, .inl (cy 2, 1, .inr (.inl f)))] : va_W)) hD hS9 hA
  refine lv_aload_n hx hb dL_byteAt_0 rfl (lv_at hl 3 rfl) ?_
  refine lv_iconst (v := nI 0) hx hb dL_byteAt_1 (by decide) ?_
  refine lv_aload_n hx hb dL_byteAt_2 rfl (lv_at hl 0 rfl) ?_
  refine lv_iload_n hx hb dL_byteAt_3 rfl (lv_at hl 1 rfl) ?_
  refine lv_iload_n hx hb dL_byteAt_4 rfl (lv_at hl 2 rfl) ?_
  refine cs_xcalli (vx_runV (As := [.int v, .int u]) (rest := [.int (nI 0), .ref o9]) ⟨hx, hb, hml, hown, hts⟩ (k_X1_byteAt l hlf D S ad cy hS v u) (cwV 2 hts gL_byteAt_X1_byteAt rfl rfl rfl (by decide +kernel) ⟨(Nat.le_of_ble_eq_true rfl), (Nat.le_of_ble_eq_true rfl)⟩) ⟨cs_Bx.blind, va_recv hK hPL (ci := 1) (q0 := 0) rfl rfl, cs_Bx.at hE (hz9.narrow (fun q h => Or.inr h)) hPL hK⟩ rfl rfl hl.1 rfl (lv_room (Nat.le_of_ble_eq_true rfl)) dL_byteAt_5 ⟨(Nat.le_of_ble_eq_true rfl), (Nat.le_of_ble_eq_true rfl)⟩) (fun E ce q7 H1 h1 h2 h3 h4 h5 h6 => ?_) (fun rr hk => ?_)
  · have hS9 : va_S (va_A (cs_O o9 f S ad cy) s.heap.size) s.heap H1 [] := cs_Sx h2 h3
    have hP := cs_keep hP h3
    rcases h1 with ⟨hk, rfl⟩ | ⟨hk, rfl⟩ | ⟨hk, rfl⟩
    · refine vx_catch (own := RL) (name := cs_IOB) hown (tableOf []) ⟨0, 10, 13, 21⟩ (tableOf []) hT (fun z hz => by cases hz) (by decide) (by decide) (hts (.classLink RL 21 cs_IOB) (by decide +kernel)) (va_Nw.use rfl hE.2.1.2.2.1) h4 h5 h6 ?_
      refine lv_astore (lv' := [(4, .ref q7), (0, .ref (ad 0)), (1, .int v), (2, .int u), (3, .ref o9)]) hx hb dL_byteAt_13 hl (by decide) rfl (fun ls hl => ?_)
      refine lv_iconst (v := 1) hx hb dL_byteAt_15 (by decide) ?_
      refine W.widen (k := 2) (n := 12) (Nat.le_of_ble_eq_true rfl) (Nat.le_of_ble_eq_true rfl) ?_
      exact W.iret (v := 1) hx hb hr (fun t ht _ => cs_wend (K := 1) 1 f ⟨hk.symm, fun h => absurd (hk.symm.trans h) (by decide)⟩ hP hD hS9 t ht) hS9.2.2 dL_byteAt_16
    · exact absurd hk cs_k1n2
    · exact absurd hk cs_k1n3
  · obtain ⟨hk, rfl⟩ := hk
    refine lv_i2l (v := Int32.toInt64 (cs_vByt S v u)) hx hb dL_byteAt_8 rfl ?_
    refine cs_last (k := 0) hx hb hK hP hD hS9 0 2 cs_O0 rfl (by decide) (by decide) dL_byteAt_9 (fun H locs hP hD hS9 => ?_)
    have hP : va_P D vwCl (cs_O o9 (vp_updL f 0 (Int32.toInt64 (cs_vByt S v u))) S ad cy) H := hP
    have hD : va_D (va_A (cs_O o9 f S ad cy) s.heap.size) (cs_O o9 (vp_updL f 0 (Int32.toInt64 (cs_vByt S v u))) S ad cy) := hD
    refine lv_goto (tgt := 17) hx hb dL_byteAt_10 (by decide) ?_
    refine lv_iconst (v := 0) hx hb dL_byteAt_17 (by decide) ?_
    refine W.widen (k := 2) (n := 12) (Nat.le_of_ble_eq_true rfl) (Nat.le_of_ble_eq_true rfl) ?_
    exact W.iret (v := 0) hx hb hr (fun t ht _ => cs_wend (K := 0) 0 (vp_updL f 0 (Int32.toInt64 (cs_vByt S v u))) ⟨hk.symm, fun _ => cs_up0 (f := f) (x := Int32.toInt64 (cs_vByt S v u))⟩ hP hD hS9 t ht) hS9.2.2 dL_byteAt_18
set_option maxHeartbeats 4000000 in
set_option maxRecDepth 100000 in
theorem k_L_sum (l : Launch) (hlf : l.stackTraces = false) (D : va_G) (S : cs_St) (ad : Nat → Nat) (cy : Nat → ClassId) (o9 : Nat) (f : Nat → Int64) (sz : Nat) (hS : cs_ok S) (v u : Int32) : Met l yL_sum wsL_sum ({ frames := 8, cells := 2, slots := 12, locals := 126 }) (va_Pc [.ref (ad 0), .int v, .int u, .ref o9] (cs_Bl D (cs_tys cy) (cs_O o9 f S ad cy) sz)) (cs_Qw D (cs_O o9 f S ad cy) (fun (f2 : Nat → Int64) => cs_O o9 f2 S ad cy) (fun r9 f2 => r9 = cs_k1 (cs_M S v && cs_in u 0 3) ∧ (cs_k1 (cs_M S v && cs_in u 0 3) = 0 → f2 0 = Int32.toInt64 (cs_vSum S v u)))) 2 12 (va_A (cs_O o9 f S ad cy) sz) := by
  refine cs_ofWH (cc := cL_sum) (maxL := 5) (ret := (some .int)) (by decide) rfl ?_
  intro pg e s m args below meth c s₁ B hml hv
  obtain ⟨rfl, hn, hsz, hE, hz9, hP, hK, hD0⟩ := hv
  subst hsz
  have hD := hD0.self (sz := s.heap.size)
  have hA : ∀ q : Nat, s.heap.size ≤ q → va_A (cs_O o9 f S ad cy) s.heap.size q := fun q h => Or.inr h
  have hS9 : va_S (va_A (cs_O o9 f S ad cy) s.heap.size) s.heap s.heap [] := va_S.rf
  have hx := B.exec
  have hb := B.bytes
  have hr := B.returns
  have hts := atoms_spec (ws := wsL_sum) B.pre
  have hown : s.vm.findClass RL = some m.cls := findClass_of_methodNamed B.named
  have hlocks := B.notSynchronized
  have hT : c.exceptionTable.toList = tableOf [(0, 10, 13, 21)] := vx_table (x := yL_sum) B (hts _ List.mem_cons_self)
  have hl := lv_entry ([.ref (ad 0), .int v, .int u, .ref o9]) (n := 5) (Nat.le_of_ble_eq_true rfl)
  rw [lg_entry_eq]
  generalize (lg_sl ([.ref (ad 0), .int v, .int u, .ref o9]) ++ List.replicate (5 - (lg_sl ([.ref (ad 0), .int v, .int u, .ref o9])).length) Slot.unset).toArray = ls at hl ⊢
  have hl : lv_has ls 5 [(0, .ref (ad 0)), (1, .int v), (2, .int u), (3, .ref o9)] := hl
  have hPL : va_P D vwCl (cs_L S ad cy) s.heap := cs_PR (w1 := ([(o9, .inl (cy 2, 1, .inr (.inl f)))] : va_W)) hP
  have hDL : va_D (va_A (cs_O o9 f S ad cy) s.heap.size) (cs_L S ad cy) := cs_DR (w1 := ([(o9, .inl (cy 2, 1, .inr (.inl f)))] : va_W)) hD
  have hF : ∀ q, va_A (cs_L S ad cy) s.heap.size q → va_A (cs_O o9 f S ad cy) s.heap.size q := cs_inR (w1 := ([(o9, .inl (cy 2, 1, .inr (.inl f)))] : va_W)) hD hS9 hA
  refine lv_aload_n hx hb dL_sum_0 rfl (lv_at hl 3 rfl) ?_
  refine lv_iconst (v := nI 0) hx hb dL_sum_1 (by decide) ?_
  refine lv_aload_n hx hb dL_sum_2 rfl (lv_at hl 0 rfl) ?_
  refine lv_iload_n hx hb dL_sum_3 rfl (lv_at hl 1 rfl) ?_
  refine lv_iload_n hx hb dL_sum_4 rfl (lv_at hl 2 rfl) ?_
  refine cs_xcalli (vx_runV (As := [.int v, .int u]) (rest := [.int (nI 0), .ref o9]) ⟨hx, hb, hml, hown, hts⟩ (k_X1_sum l hlf D S ad cy hS v u) (cwV 2 hts gL_sum_X1_sum rfl rfl rfl (by decide +kernel) ⟨(Nat.le_of_ble_eq_true rfl), (Nat.le_of_ble_eq_true rfl)⟩) ⟨cs_Bx.blind, va_recv hK hPL (ci := 1) (q0 := 0) rfl rfl, cs_Bx.at hE (hz9.narrow (fun q h => Or.inr h)) hPL hK⟩ rfl rfl hl.1 rfl (lv_room (Nat.le_of_ble_eq_true rfl)) dL_sum_5 ⟨(Nat.le_of_ble_eq_true rfl), (Nat.le_of_ble_eq_true rfl)⟩) (fun E ce q7 H1 h1 h2 h3 h4 h5 h6 => ?_) (fun rr hk => ?_)
  · have hS9 : va_S (va_A (cs_O o9 f S ad cy) s.heap.size) s.heap H1 [] := cs_Sx h2 h3
    have hP := cs_keep hP h3
    rcases h1 with ⟨hk, rfl⟩ | ⟨hk, rfl⟩ | ⟨hk, rfl⟩
    · refine vx_catch (own := RL) (name := cs_IOB) hown (tableOf []) ⟨0, 10, 13, 21⟩ (tableOf []) hT (fun z hz => by cases hz) (by decide) (by decide) (hts (.classLink RL 21 cs_IOB) (by decide +kernel)) (va_Nw.use rfl hE.2.1.2.2.1) h4 h5 h6 ?_
      refine lv_astore (lv' := [(4, .ref q7), (0, .ref (ad 0)), (1, .int v), (2, .int u), (3, .ref o9)]) hx hb dL_sum_13 hl (by decide) rfl (fun ls hl => ?_)
      refine lv_iconst (v := 1) hx hb dL_sum_15 (by decide) ?_
      refine W.widen (k := 2) (n := 12) (Nat.le_of_ble_eq_true rfl) (Nat.le_of_ble_eq_true rfl) ?_
      exact W.iret (v := 1) hx hb hr (fun t ht _ => cs_wend (K := 1) 1 f ⟨hk.symm, fun h => absurd (hk.symm.trans h) (by decide)⟩ hP hD hS9 t ht) hS9.2.2 dL_sum_16
    · exact absurd hk cs_k1n2
    · exact absurd hk cs_k1n3
  · obtain ⟨hk, rfl⟩ := hk
    refine lv_i2l (v := Int32.toInt64 (cs_vSum S v u)) hx hb dL_sum_8 rfl ?_
    refine cs_last (k := 0) hx hb hK hP hD hS9 0 2 cs_O0 rfl (by decide) (by decide) dL_sum_9 (fun H locs hP hD hS9 => ?_)
    have hP : va_P D vwCl (cs_O o9 (vp_updL f 0 (Int32.toInt64 (cs_vSum S v u))) S ad cy) H := hP
    have hD : va_D (va_A (cs_O o9 f S ad cy) s.heap.size) (cs_O o9 (vp_updL f 0 (Int32.toInt64 (cs_vSum S v u))) S ad cy) := hD
    refine lv_goto (tgt := 17) hx hb dL_sum_10 (by decide) ?_
    refine lv_iconst (v := 0) hx hb dL_sum_17 (by decide) ?_
    refine W.widen (k := 2) (n := 12) (Nat.le_of_ble_eq_true rfl) (Nat.le_of_ble_eq_true rfl) ?_
    exact W.iret (v := 0) hx hb hr (fun t ht _ => cs_wend (K := 0) 0 (vp_updL f 0 (Int32.toInt64 (cs_vSum S v u))) ⟨hk.symm, fun _ => cs_up0 (f := f) (x := Int32.toInt64 (cs_vSum S v u))⟩ hP hD hS9 t ht) hS9.2.2 dL_sum_18
