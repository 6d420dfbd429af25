set_option maxHeartbeats 4000000 in
set_option maxRecDepth 100000 in
theorem k_L_added (l : Launch) (hlf : l.stackTraces = false) (D : va_G) (S : cs_St) (ad : Nat → Nat) (cy : Nat → ClassId) (sz : Nat) (hS : cs_ok S) (v u : Int32) (hk0 : cs_kApp S v u = 0) : Met l yL_added wsL_added ({ frames := 8, cells := 3, slots := 18, locals := 126 }) (va_Pc [.ref (ad 0), .int v, .int u] (cs_By D (cs_tys cy) (cs_L S ad cy) sz)) (cs_Qw D (cs_L S ad cy) (fun (_ : Unit) => cs_L (cs_sApp S v u) ad cy) (fun r9 _ => r9 = cs_vApp S v)) 3 18 (va_A (cs_L S ad cy) sz) := by
  refine cs_ofWH (cc := cL_added) (maxL := 4) (ret := (some .int)) (by decide) rfl ?_
  intro pg e s m args below meth c s₁ B hml hv
  obtain ⟨rfl, hsz, hE, hz9, hP, hK, hD0⟩ := hv
  subst hsz
  have hD := hD0.self (sz := s.heap.size)
  have hS9 : va_S (va_A (cs_L S ad cy) s.heap.size) s.heap s.heap [] := va_S.rf
  have hx := B.exec
  have hb := B.bytes
  have hr := B.returns
  have hts := atoms_spec (ws := wsL_added) B.pre
  have hown : s.vm.findClass RL = some m.cls := findClass_of_methodNamed B.named
  have hlocks := B.notSynchronized
  have hl := lv_entry ([.ref (ad 0), .int v, .int u]) (n := 4) (Nat.le_of_ble_eq_true rfl)
  rw [lg_entry_eq]
  generalize (lg_sl ([.ref (ad 0), .int v, .int u]) ++ List.replicate (4 - (lg_sl ([.ref (ad 0), .int v, .int u])).length) Slot.unset).toArray = ls at hl ⊢
  have hl : lv_has ls 4 [(0, .ref (ad 0)), (1, .int v), (2, .int u)] := hl
  refine lv_aload_n hx hb dL_added_0 rfl (lv_at hl 0 rfl) ?_
  refine lv_iload_n hx hb dL_added_1 rfl (lv_at hl 1 rfl) ?_
  refine lv_iload_n hx hb dL_added_2 rfl (lv_at hl 2 rfl) ?_
  refine cs_wxcalli (vx_runV (As := [.int v, .int u]) (rest := []) ⟨hx, hb, hml, hown, hts⟩ (k_X1_append l hlf D S ad cy s.heap.size hS v u) (cwV 2 hts gL_added_X1_append rfl rfl rfl (by decide +kernel) ⟨(Nat.le_of_ble_eq_true rfl), (Nat.le_of_ble_eq_true rfl)⟩) ⟨cs_By.blind, va_recv hK hP (ci := 1) (q0 := 0) rfl rfl, cs_By.at hE hz9 hP hK hD⟩ rfl rfl hl.1 rfl (lv_room (Nat.le_of_ble_eq_true rfl)) dL_added_3 ⟨(Nat.le_of_ble_eq_true rfl), (Nat.le_of_ble_eq_true rfl)⟩) hS9 (fun _ h => h) (fun E ce q7 H1 locs1 h1 h2 h3 hS9 h4 h5 h6 => ?_) (fun rr u8 H1 locs1 hk hP1 hD1 hz1 hk1 hS9 => ?_)
  · exfalso
    rcases h1 with ⟨hk, -⟩ | ⟨hk, -⟩ | ⟨hk, -⟩ <;> exact absurd (hk0.symm.trans hk) (by decide)
  · obtain ⟨-, rfl⟩ := hk
    refine W.widen (k := 3) (n := 18) (Nat.le_of_ble_eq_true rfl) (Nat.le_of_ble_eq_true rfl) ?_
    exact W.iret (v := cs_vApp S v) hx hb hr (fun t ht _ => cs_wend (K := 0) (cs_vApp S v) u8 rfl hP1 hD1 hS9 t ht) hS9.2.2 dL_added_6
set_option maxHeartbeats 4000000 in
set_option maxRecDepth 100000 in
theorem k_L_changed (l : Launch) (hlf : l.stackTraces = false) (D : va_G) (S : cs_St) (ad : Nat → Nat) (cy : Nat → ClassId) (sz : Nat) (hS : cs_ok S) (v u d : Int32) (hk0 : cs_kSet S v u d = 0) : Met l yL_changed wsL_changed ({ frames := 8, cells := 3, slots := 18, locals := 128 }) (va_Pc [.ref (ad 0), .int v, .int u, .int d] (cs_By D (cs_tys cy) (cs_L S ad cy) sz)) (cs_Qw D (cs_L S ad cy) (fun (_ : Unit) => cs_L (cs_sSet S v u d) ad cy) (fun r9 _ => r9 = cs_vByt S v u)) 3 18 (va_A (cs_L S ad cy) sz) := by
  refine cs_ofWH (cc := cL_changed) (maxL := 5) (ret := (some .int)) (by decide) rfl ?_
  intro pg e s m args below meth c s₁ B hml hv
  obtain ⟨rfl, hsz, hE, hz9, hP, hK, hD0⟩ := hv
  subst hsz
  have hD := hD0.self (sz := s.heap.size)
  have hS9 : va_S (va_A (cs_L S ad cy) s.heap.size) s.heap s.heap [] := va_S.rf
  have hx := B.exec
  have hb := B.bytes
  have hr := B.returns
  have hts := atoms_spec (ws := wsL_changed) B.pre
  have hown : s.vm.findClass RL = some m.cls := findClass_of_methodNamed B.named
  have hlocks := B.notSynchronized
  have hl := lv_entry ([.ref (ad 0), .int v, .int u, .int d]) (n := 5) (Nat.le_of_ble_eq_true rfl)
  rw [lg_entry_eq]
  generalize (lg_sl ([.ref (ad 0), .int v, .int u, .int d]) ++ List.replicate (5 - (lg_sl ([.ref (ad 0), .int v, .int u, .int d])).length) Slot.unset).toArray = ls at hl ⊢
  have hl : lv_has ls 5 [(0, .ref (ad 0)), (1, .int v), (2, .int u), (3, .int d)] := hl
  refine lv_aload_n hx hb dL_changed_0 rfl (lv_at hl 0 rfl) ?_
  refine lv_iload_n hx hb dL_changed_1 rfl (lv_at hl 1 rfl) ?_
  refine lv_iload_n hx hb dL_changed_2 rfl (lv_at hl 2 rfl) ?_
  refine lv_iload_n hx hb dL_changed_3 rfl (lv_at hl 3 rfl) ?_
  refine cs_wxcalli (vx_runV (As := [.int v, .int u, .int d]) (rest := []) ⟨hx, hb, hml, hown, hts⟩ (k_X1_setByte l hlf D S ad cy s.heap.size hS v u d) (cwV 3 hts gL_changed_X1_setByte rfl rfl rfl (by decide +kernel) ⟨(Nat.le_of_ble_eq_true rfl), (Nat.le_of_ble_eq_true rfl)⟩) ⟨cs_By.blind, va_recv hK hP (ci := 1) (q0 := 0) rfl rfl, cs_By.at hE hz9 hP hK hD⟩ rfl rfl hl.1 rfl (lv_room (Nat.le_of_ble_eq_true rfl)) dL_changed_4 ⟨(Nat.le_of_ble_eq_true rfl), (Nat.le_of_ble_eq_true rfl)⟩) hS9 (fun _ h => h) (fun E ce q7 H1 locs1 h1 h2 h3 hS9 h4 h5 h6 => ?_) (fun rr u8 H1 locs1 hk hP1 hD1 hz1 hk1 hS9 => ?_)
  · exfalso
    rcases h1 with ⟨hk, -⟩ | ⟨hk, -⟩ | ⟨hk, -⟩ <;> exact absurd (hk0.symm.trans hk) (by decide)
  · obtain ⟨-, rfl⟩ := hk
    refine W.widen (k := 3) (n := 18) (Nat.le_of_ble_eq_true rfl) (Nat.le_of_ble_eq_true rfl) ?_
    exact W.iret (v := cs_vByt S v u) hx hb hr (fun t ht _ => cs_wend (K := 0) (cs_vByt S v u) u8 rfl hP1 hD1 hS9 t ht) hS9.2.2 dL_changed_7
set_option maxHeartbeats 4000000 in
set_option maxRecDepth 100000 in
theorem k_L_model (l : Launch) (hlf : l.stackTraces = false) (D : va_G) (S : cs_St) (ad : Nat → Nat) (cy : Nat → ClassId) (sz : Nat) (hS : cs_ok S) (v a b x : Int32) (q9 t9 : Bool) (d : Int32) (hq : cs_rem x 2 = 1 ↔ q9 = true) (ht9 : x ≤ 1 ↔ t9 = false) (hk0 : cs_kDef S v a b d = 0) : Met l yL_model wsL_model ({ frames := 8, cells := 5, slots := 32, locals := 130 }) (va_Pc [.ref (ad 0), .int v, .int a, .int b, .int x, .int d] (cs_By D (cs_tys cy) (cs_L S ad cy) sz)) (cs_Qw D (cs_L S ad cy) (fun (ad2 : Nat → Nat) => cs_L (cs_sDef S v a b q9 t9 d) ad2 cy) (fun r9 ad2 => r9 = nI (cs_n S) ∧ ad2 0 = ad 0)) 5 32 (va_A (cs_L S ad cy) sz) := by
  refine cs_ofWH (cc := cL_model) (maxL := 7) (ret := (some .int)) (by decide) rfl ?_
  intro pg e s m args below meth c s₁ B hml hv
  obtain ⟨rfl, hsz, hE, hz9, hP, hK, hD0⟩ := hv
  subst hsz
  have hD := hD0.self (sz := s.heap.size)
  have hS9 : va_S (va_A (cs_L S ad cy) s.heap.size) s.heap s.heap [] := va_S.rf
  have hx := B.exec
  have hb := B.bytes
  have hr := B.returns
  have hts := atoms_spec (ws := wsL_model) B.pre
  have hown : s.vm.findClass RL = some m.cls := findClass_of_methodNamed B.named
  have hlocks := B.notSynchronized
  have hl := lv_entry ([.ref (ad 0), .int v, .int a, .int b, .int x, .int d]) (n := 7) (Nat.le_of_ble_eq_true rfl)
  rw [lg_entry_eq]
  generalize (lg_sl ([.ref (ad 0), .int v, .int a, .int b, .int x, .int d]) ++ List.replicate (7 - (lg_sl ([.ref (ad 0), .int v, .int a, .int b, .int x, .int d])).length) Slot.unset).toArray = ls at hl ⊢
  have hl : lv_has ls 7 [(0, .ref (ad 0)), (1, .int v), (2, .int a), (3, .int b), (4, .int x), (5, .int d)] := hl
  have k28 : W pg l e (headSpec wsL_model ({ frames := 8, cells := 5, slots := 32, locals := 130 })).room s m [Value.ref (ad 0), Value.int v, Value.int a, Value.int b, Value.int x, Value.int d].toArray below meth c s.heap [] 0 0 (MQ below (cs_Qw D (cs_L S ad cy) (fun (ad2 : Nat → Nat) => cs_L (cs_sDef S v a b q9 t9 d) ad2 cy) (fun r9 ad2 => r9 = nI (cs_n S) ∧ ad2 0 = ad 0)) [Value.ref (ad 0), Value.int v, Value.int a, Value.int b, Value.int x, Value.int d].toArray s 5 32 (va_A (cs_L S ad cy) s.heap.size)) (F0 m 28 ls (.int (cs_z t9) :: .int (cs_z q9) :: [.int b, .int a, .int v, .ref (ad 0)])) := by
    refine lv_iload hx hb dL_model_28 (lv_at hl 5 rfl) ?_
    refine cs_wxcalli (vx_runV (As := [.int v, .int a, .int b, .int (cs_z q9), .int (cs_z t9), .int d]) (rest := []) ⟨hx, hb, hml, hown, hts⟩ (k_X1_define l hlf D S ad cy s.heap.size hS v a b q9 t9 d) (cwV 6 hts gL_model_X1_define rfl rfl rfl (by decide +kernel) ⟨(Nat.le_of_ble_eq_true rfl), (Nat.le_of_ble_eq_true rfl)⟩) ⟨cs_By.blind, va_recv hK hP (ci := 1) (q0 := 0) rfl rfl, cs_By.at hE hz9 hP hK hD⟩ rfl rfl hl.1 rfl (lv_room (Nat.le_of_ble_eq_true rfl)) dL_model_30 ⟨(Nat.le_of_ble_eq_true rfl), (Nat.le_of_ble_eq_true rfl)⟩) hS9 (fun _ h => h) (fun E ce q7 H1 locs1 h1 h2 h3 hS9 h4 h5 h6 => ?_) (fun rr u8 H1 locs1 hk hP1 hD1 hz1 hk1 hS9 => ?_)
    · exfalso
      rcases h1 with ⟨hk, -⟩ | ⟨hk, -⟩ | ⟨hk, -⟩ <;> exact absurd (hk0.symm.trans hk) (by decide)
    · obtain ⟨⟨-, rfl⟩, hu⟩ := hk
      refine W.widen (k := 5) (n := 32) (Nat.le_of_ble_eq_true rfl) (Nat.le_of_ble_eq_true rfl) ?_
      exact W.iret (v := nI (cs_n S)) hx hb hr (fun t ht _ => cs_wend (K := 0) (nI (cs_n S)) u8 ⟨rfl, hu⟩ hP1 hD1 hS9 t ht) hS9.2.2 dL_model_33
  have k17 : W pg l e (headSpec wsL_model ({ frames := 8, cells := 5, slots := 32, locals := 130 })).room s m [Value.ref (ad 0), Value.int v, Value.int a, Value.int b, Value.int x, Value.int d].toArray below meth c s.heap [] 0 0 (MQ below (cs_Qw D (cs_L S ad cy) (fun (ad2 : Nat → Nat) => cs_L (cs_sDef S v a b q9 t9 d) ad2 cy) (fun r9 ad2 => r9 = nI (cs_n S) ∧ ad2 0 = ad 0)) [Value.ref (ad 0), Value.int v, Value.int a, Value.int b, Value.int x, Value.int d].toArray s 5 32 (va_A (cs_L S ad cy) s.heap.size)) (F0 m 17 ls (.int (cs_z q9) :: [.int b, .int a, .int v, .ref (ad 0)])) := by
    refine lv_iload hx hb dL_model_17 (lv_at hl 4 rfl) ?_
    refine lv_iconst (v := 1) hx hb dL_model_19 (by decide) ?_
    refine lv_icmp_le (tgt := 27) hx hb dL_model_20 (by decide) (fun h => ?_) (fun h => ?_)
    · have e9 : cs_z t9 = 0 := cs_z_0.mpr (ht9.mp h)
      refine lv_iconst (v := 0) hx hb dL_model_27 (by decide) ?_
      rw [← e9]
      exact k28
    · have e9 : cs_z t9 = 1 := cs_z_1.mpr (cs_tt (fun q => h (ht9.mpr q)))
      refine lv_iconst (v := 1) hx hb dL_model_23 (by decide) ?_
      refine lv_goto (tgt := 28) hx hb dL_model_24 (by decide) ?_
      rw [← e9]
      exact k28
  refine lv_aload_n hx hb dL_model_0 rfl (lv_at hl 0 rfl) ?_
  refine lv_iload_n hx hb dL_model_1 rfl (lv_at hl 1 rfl) ?_
  refine lv_iload_n hx hb dL_model_2 rfl (lv_at hl 2 rfl) ?_
  refine lv_iload_n hx hb dL_model_3 rfl (lv_at hl 3 rfl) ?_
  refine lv_iload hx hb dL_model_4 (lv_at hl 4 rfl) ?_
  refine lv_iconst (v := 2) hx hb dL_model_6 (by decide) ?_
  refine lv_irem hx hb dL_model_7 (by decide) ?_
  refine cs_top (y := cs_rem x 2) rfl ?_
  refine lv_iconst (v := 1) hx hb dL_model_8 (by decide) ?_
  refine lv_icmp_ne (tgt := 16) hx hb dL_model_9 (by decide) (fun h => ?_) (fun h => ?_)
  · have e9 : cs_z q9 = 0 := cs_z_0.mpr (cs_ff (fun q => h (hq.mpr q)))
    refine lv_iconst (v := 0) hx hb dL_model_16 (by decide) ?_
    rw [← e9]
    exact k17
  · have e9 : cs_z q9 = 1 := cs_z_1.mpr (hq.mp h)
    refine lv_iconst (v := 1) hx hb dL_model_12 (by decide) ?_
    refine lv_goto (tgt := 17) hx hb dL_model_13 (by decide) ?_
    rw [← e9]
    exact k17
