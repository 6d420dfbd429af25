set_option maxHeartbeats 4000000 in
set_option maxRecDepth 100000 in
theorem k_X1_append (l : Launch) (hlf : l.stackTraces = false) (D : va_G) (S : cs_St) (ad : Nat → Nat) (cy : Nat → ClassId) (sz : Nat) (hS : cs_ok S) (v u : Int32) : cs_Xw l yX1_append wsX1_append ({ frames := 7, cells := 3, slots := 18, locals := 104 }) D (cs_tys cy) (cs_L S ad cy) sz [.ref (ad 0), .int v, .int u] (fun (_ : Unit) => cs_L (cs_sApp S v u) ad cy) (fun rr _ => cs_kApp S v u = 0 ∧ rr = cs_vApp S v) (cs_E (cs_kApp S v u) cs_IOB cs_IAE cs_ISE) 3 18 := by
  refine vx_ofW (cc := cX1_append) (maxL := 3) (ret := (some .int)) (by decide) rfl ?_
  intro pg e s m args below meth c s₁ B hml hout hv
  obtain ⟨rfl, hsz, hE, hz9, hP, hK, hD0⟩ := hv
  subst hsz
  have hD := hD0.self (sz := s.heap.size)
  have hA : ∀ q : Nat, s.heap.size ≤ q → va_A (cs_L S ad cy) s.heap.size q := fun q h => Or.inr h
  have hS9 : va_S (va_A (cs_L S ad cy) s.heap.size) s.heap s.heap [] := va_S.rf
  have hz := hz9.narrow (B := fun q => s.heap.size ≤ q) (fun q h => Or.inr h)
  have hx := B.exec
  have hb := B.bytes
  have hr := B.returns
  have hts := atoms_spec (ws := wsX1_append) B.pre
  have hown : s.vm.findClass RX1 = some m.cls := findClass_of_methodNamed B.named
  have hlocks := B.notSynchronized
  have hl := lv_entry ([.ref (ad 0), .int v, .int u]) (n := 3) (Nat.le_of_ble_eq_true rfl)
  rw [lg_entry_eq]
  generalize (lg_sl ([.ref (ad 0), .int v, .int u]) ++ List.replicate (3 - (lg_sl ([.ref (ad 0), .int v, .int u])).length) Slot.unset).toArray = ls at hl ⊢
  have hl : lv_has ls 3 [(0, .ref (ad 0)), (1, .int v), (2, .int u)] := hl
  have hinX1 : ∀ w ∈ wsX10, w ∈ wsX1_append := fun _ h => by unfold wsX1_append; exact List.mem_cons_of_mem _ (List.mem_append_left _ (List.mem_append_left _ (List.mem_append_left _ (List.mem_append_right _ (h)))))
  have h6 := hS.1
  refine lv_iload_n hx hb dX1_append_0 rfl (lv_at hl 1 rfl) ?_
  refine cs_xcallv (vx_runS (As := [.int v]) (rest := []) ⟨hx, hb, hml, hown, hts⟩ (k_X1_requireRow l hlf D S ad cy v) (va_cwS 1 hts gX1_append_X1_requireRow rfl rfl rfl (by decide +kernel) ⟨(Nat.le_of_ble_eq_true rfl), (Nat.le_of_ble_eq_true rfl)⟩) ⟨cs_Bx.blind, cs_Bx.at hE hz cs_none hK⟩ rfl rfl hl.1 rfl (lv_room (Nat.le_of_ble_eq_true rfl)) dX1_append_1 ⟨(Nat.le_of_ble_eq_true rfl), (Nat.le_of_ble_eq_true rfl)⟩) (fun E ce q9 H1 h1 h2 h3 h4 h5 h6 => cs_xout hout hlocks (fun E h => Or.inl ⟨(by unfold cs_kApp; simp [cs_k1, cs_k2, cs_nS, cs_pl, cs_bRow, cs_bSer, cs_bDef, h.2]), h.1⟩) (Nat.le_of_ble_eq_true rfl) (Nat.le_of_ble_eq_true rfl) E ce q9 H1 h1 h2 h3 h4 h5 h6) (fun okR => ?_)
  obtain ⟨r, hr4, rfl⟩ := cs_row_of okR
  have r31 : r < 2 ^ 31 := by omega
  have rc : cs_c (nI r) = r := cs_cI r31
  have hl8 := hS.2.2.1 r
  refine lv_iload_n hx hb dX1_append_4 rfl (lv_at hl 2 rfl) ?_
  refine cs_xcallv (vx_runS (As := [.int u]) (rest := []) ⟨hx, hb, hml, hown, hts⟩ (k_X1_requireByte l hlf D S ad cy u) (va_cwS 1 hts gX1_append_X1_requireByte rfl rfl rfl (by decide +kernel) ⟨(Nat.le_of_ble_eq_true rfl), (Nat.le_of_ble_eq_true rfl)⟩) ⟨cs_Bx.blind, cs_Bx.at hE hz cs_none hK⟩ rfl rfl hl.1 rfl (lv_room (Nat.le_of_ble_eq_true rfl)) dX1_append_5 ⟨(Nat.le_of_ble_eq_true rfl), (Nat.le_of_ble_eq_true rfl)⟩) (fun E ce q9 H1 h1 h2 h3 h4 h5 h6 => cs_xout hout hlocks (fun E h => Or.inr (Or.inl ⟨(by unfold cs_kApp; simp [cs_k1, cs_k2, cs_nS, cs_pl, cs_bRow, cs_bSer, cs_bDef, okR, rc, h.2]), h.1⟩)) (Nat.le_of_ble_eq_true rfl) (Nat.le_of_ble_eq_true rfl) E ce q9 H1 h1 h2 h3 h4 h5 h6) (fun okB => ?_)
  obtain ⟨b, hbz, rfl⟩ := cs_byte_of okB
  have b31 : b < 2 ^ 31 := by omega
  have bc : cs_c (nI b) = b := cs_cI b31
  refine lv_aload_n hx hb dX1_append_8 rfl (lv_at hl 0 rfl) ?_
  refine lv_iload_n hx hb dX1_append_9 rfl (lv_at hl 1 rfl) ?_
  refine lv_iconst (v := 1) hx hb dX1_append_10 (by decide) ?_
  refine cs_xcallv (vx_runV (As := [.int (nI r), .int 1]) (rest := []) ⟨hx, hb, hml, hown, hts⟩ (k_X1_requireRoom l hlf D S ad cy r hr4 1) (cwV 2 hts gX1_append_X1_requireRoom rfl rfl rfl (by decide +kernel) ⟨(Nat.le_of_ble_eq_true rfl), (Nat.le_of_ble_eq_true rfl)⟩) ⟨cs_Bx.blind, va_recv hK hP (ci := 1) (q0 := 0) rfl rfl, cs_Bx.at hE hz hP hK⟩ rfl rfl hl.1 rfl (lv_room (Nat.le_of_ble_eq_true rfl)) dX1_append_11 ⟨(Nat.le_of_ble_eq_true rfl), (Nat.le_of_ble_eq_true rfl)⟩) (fun E ce q9 H1 h1 h2 h3 h4 h5 h6 => cs_xout hout hlocks (fun E h => Or.inr (Or.inr ⟨(cs_kApp3 okR okB rc hl8 h.2), h.1⟩)) (Nat.le_of_ble_eq_true rfl) (Nat.le_of_ble_eq_true rfl) E ce q9 H1 h1 h2 h3 h4 h5 h6) (fun okQ => ?_)
  obtain ⟨ek, hl9⟩ := cs_kApp0 okR okB rc hl8 okQ
  have es : cs_sApp S (nI r) (nI b) = cs_put S r (cs_ln S r + 1) (va_up (cs_by S r) (cs_ln S r) b) := by unfold cs_sApp; rw [if_pos ek, rc, bc]
  refine lv_aload_n hx hb dX1_append_14 rfl (lv_at hl 0 rfl) ?_
  refine va_get (D := D) (ci := 1) (v := .ref (ad 2)) (C := RX1) (T := TX1) (N := 4) hx hb hts hinX1 hown hK hP 0 cs_L0 rfl 2 (by decide) (hts (.fieldLink RX1 21 "ChecksumLab" "rows" "[[I") (by decide +kernel)) (fun _ h9 => h9) rfl dX1_append_15 ?_
  refine lv_iload_n hx hb dX1_append_18 rfl (lv_at hl 1 rfl) ?_
  refine cs_aldA hx hb hK hP 2 4 cs_L2 rfl (k := r) (hr4) (by decide) dX1_append_19 ?_
  refine cs_topv (y := .ref (ad (4 + r))) (by rw [if_pos (hr4)]; rfl) ?_
  refine lv_aload_n hx hb dX1_append_20 rfl (lv_at hl 0 rfl) ?_
  refine va_get (D := D) (ci := 1) (v := .ref (ad 3)) (C := RX1) (T := TX1) (N := 4) hx hb hts hinX1 hown hK hP 0 cs_L0 rfl 3 (by decide) (hts (.fieldLink RX1 24 "ChecksumLab" "sizes" "[I") (by decide +kernel)) (fun _ h9 => h9) rfl dX1_append_21 ?_
  refine lv_iload_n hx hb dX1_append_24 rfl (lv_at hl 1 rfl) ?_
  refine cs_iald hx hb hK hP 3 0 cs_L3 rfl (k := r) (hr4) (by decide) dX1_append_25 ?_
  refine cs_top (y := nI (cs_ln S r)) rfl ?_
  refine lv_iload_n hx hb dX1_append_26 rfl (lv_at hl 2 rfl) ?_
  refine cs_iast hx hb hK hP hD hS9 (4 + r) 0 (cs_Lr hr4) rfl (k := cs_ln S r) (by omega) (by decide) dX1_append_27 (fun H locs hP hD hS9 => ?_)
  rw [cs_LsetR hr4] at hP hD
  have hP : va_P D vwCl (cs_L (cs_put S r (cs_ln S r) (va_up (cs_by S r) (cs_ln S r) b)) ad cy) H := hP
  have hD : va_D (va_A (cs_L S ad cy) s.heap.size) (cs_L (cs_put S r (cs_ln S r) (va_up (cs_by S r) (cs_ln S r) b)) ad cy) := hD
  refine lv_aload_n hx hb dX1_append_28 rfl (lv_at hl 0 rfl) ?_
  refine va_get (D := D) (ci := 1) (v := .ref (ad 3)) (C := RX1) (T := TX1) (N := 4) hx hb hts hinX1 hown hK hP 0 cs_L0 rfl 3 (by decide) (hts (.fieldLink RX1 24 "ChecksumLab" "sizes" "[I") (by decide +kernel)) (fun _ h9 => h9) rfl dX1_append_29 ?_
  refine lv_iload_n hx hb dX1_append_32 rfl (lv_at hl 1 rfl) ?_
  refine lv_dup2_11 hx hb dX1_append_33 rfl rfl ?_
  refine cs_iald hx hb hK hP 3 0 cs_L3 rfl (k := r) (hr4) (by decide) dX1_append_34 ?_
  refine cs_top (y := nI (cs_ln S r)) (congrArg nI cs_put_ln) ?_
  refine lv_iconst (v := 1) hx hb dX1_append_35 (by decide) ?_
  refine lv_iadd hx hb dX1_append_36 ?_
  refine cs_top (y := nI (cs_ln S r + 1)) (nI_1 _) ?_
  refine cs_iast hx hb hK hP hD hS9 3 0 cs_L3 rfl (k := r) (hr4) (by decide) dX1_append_37 (fun H locs hP hD hS9 => ?_)
  rw [cs_LsetL, cs_put_by, cs_put_put] at hP hD
  have hP : va_P D vwCl (cs_L (cs_put S r (cs_ln S r + 1) (va_up (cs_by S r) (cs_ln S r) b)) ad cy) H := hP
  have hD : va_D (va_A (cs_L S ad cy) s.heap.size) (cs_L (cs_put S r (cs_ln S r + 1) (va_up (cs_by S r) (cs_ln S r) b)) ad cy) := hD
  refine lv_aload_n hx hb dX1_append_38 rfl (lv_at hl 0 rfl) ?_
  refine va_get (D := D) (ci := 1) (v := .ref (ad 3)) (C := RX1) (T := TX1) (N := 4) hx hb hts hinX1 hown hK hP 0 cs_L0 rfl 3 (by decide) (hts (.fieldLink RX1 24 "ChecksumLab" "sizes" "[I") (by decide +kernel)) (fun _ h9 => h9) rfl dX1_append_39 ?_
  refine lv_iload_n hx hb dX1_append_42 rfl (lv_at hl 1 rfl) ?_
  refine cs_iald hx hb hK hP 3 0 cs_L3 rfl (k := r) (hr4) (by decide) dX1_append_43 ?_
  refine cs_top (y := nI (cs_ln S r + 1)) (congrArg nI cs_put_ln) ?_
  refine W.widen (k := 3) (n := 18) (Nat.le_of_ble_eq_true rfl) (Nat.le_of_ble_eq_true rfl) ?_
  exact vx_ret (W.iret (v := nI (cs_ln S r + 1)) hx hb hr (fun t ht _ => ⟨nI (cs_ln S r + 1), (), rfl, ⟨ek, by unfold cs_vApp; rw [rc]⟩, by rw [ht, es]; exact hP, by rw [es]; exact hD, hS9.F ht⟩) hS9.2.2 dX1_append_44)
set_option maxHeartbeats 4000000 in
set_option maxRecDepth 100000 in
theorem k_X1_setByte (l : Launch) (hlf : l.stackTraces = false) (D : va_G) (S : cs_St) (ad : Nat → Nat) (cy : Nat → ClassId) (sz : Nat) (hS : cs_ok S) (v u d : Int32) : cs_Xw l yX1_setByte wsX1_setByte ({ frames := 7, cells := 3, slots := 18, locals := 104 }) D (cs_tys cy) (cs_L S ad cy) sz [.ref (ad 0), .int v, .int u, .int d] (fun (_ : Unit) => cs_L (cs_sSet S v u d) ad cy) (fun rr _ => cs_kSet S v u d = 0 ∧ rr = cs_vByt S v u) (cs_E (cs_kSet S v u d) cs_IOB cs_IAE "") 3 18 := by
  refine vx_ofW (cc := cX1_setByte) (maxL := 5) (ret := (some .int)) (by decide) rfl ?_
  intro pg e s m args below meth c s₁ B hml hout hv
  obtain ⟨rfl, hsz, hE, hz9, hP, hK, hD0⟩ := hv
  subst hsz
  have hD := hD0.self (sz := s.heap.size)
  have hA : ∀ q : Nat, s.heap.size ≤ q → va_A (cs_L S ad cy) s.heap.size q := fun q h => Or.inr h
  have hS9 : va_S (va_A (cs_L S ad cy) s.heap.size) s.heap s.heap [] := va_S.rf
  have hz := hz9.narrow (B := fun q => s.heap.size ≤ q) (fun q h => Or.inr h)
  have hx := B.exec
  have hb := B.bytes
  have hr := B.returns
  have hts := atoms_spec (ws := wsX1_setByte) B.pre
  have hown : s.vm.findClass RX1 = some m.cls := findClass_of_methodNamed B.named
  have hlocks := B.notSynchronized
  have hl := lv_entry ([.ref (ad 0), .int v, .int u, .int d]) (n := 5) (Nat.le_of_ble_eq_true rfl)
  rw [lg_entry_eq]
  generalize (lg_sl ([.ref (ad 0), .int v, .int u, .int d]) ++ List.replicate (5 - (lg_sl ([.ref (ad 0), .int v, .int u, .int d])).length) Slot.unset).toArray = ls at hl ⊢
  have hl : lv_has ls 5 [(0, .ref (ad 0)), (1, .int v), (2, .int u), (3, .int d)] := hl
  have hinX1 : ∀ w ∈ wsX10, w ∈ wsX1_setByte := fun _ h => by unfold wsX1_setByte; exact List.mem_cons_of_mem _ (List.mem_append_left _ (List.mem_append_left _ (List.mem_append_right _ (h))))
  have h6 := hS.1
  refine lv_iload_n hx hb dX1_setByte_0 rfl (lv_at hl 1 rfl) ?_
  refine cs_xcallv (vx_runS (As := [.int v]) (rest := []) ⟨hx, hb, hml, hown, hts⟩ (k_X1_requireRow l hlf D S ad cy v) (va_cwS 1 hts gX1_setByte_X1_requireRow rfl rfl rfl (by decide +kernel) ⟨(Nat.le_of_ble_eq_true rfl), (Nat.le_of_ble_eq_true rfl)⟩) ⟨cs_Bx.blind, cs_Bx.at hE hz cs_none hK⟩ rfl rfl hl.1 rfl (lv_room (Nat.le_of_ble_eq_true rfl)) dX1_setByte_1 ⟨(Nat.le_of_ble_eq_true rfl), (Nat.le_of_ble_eq_true rfl)⟩) (fun E ce q9 H1 h1 h2 h3 h4 h5 h6 => cs_xout hout hlocks (fun E h => Or.inl ⟨(by unfold cs_kSet; simp [cs_k1, cs_k2, cs_nS, cs_pl, cs_bRow, cs_bSer, cs_bDef, h.2]), h.1⟩) (Nat.le_of_ble_eq_true rfl) (Nat.le_of_ble_eq_true rfl) E ce q9 H1 h1 h2 h3 h4 h5 h6) (fun okR => ?_)
  obtain ⟨r, hr4, rfl⟩ := cs_row_of okR
  have r31 : r < 2 ^ 31 := by omega
  have rc : cs_c (nI r) = r := cs_cI r31
  have hl8 := hS.2.2.1 r
  refine lv_aload_n hx hb dX1_setByte_4 rfl (lv_at hl 0 rfl) ?_
  refine lv_iload_n hx hb dX1_setByte_5 rfl (lv_at hl 1 rfl) ?_
  refine lv_iload_n hx hb dX1_setByte_6 rfl (lv_at hl 2 rfl) ?_
  have rc7 : (nI r).toNatClampNeg = r := rc
  refine cs_xcallv (vx_runV (As := [.int (nI r), .int u]) (rest := []) ⟨hx, hb, hml, hown, hts⟩ (k_X1_requireIndex l hlf D S ad cy hS r hr4 u) (cwV 2 hts gX1_setByte_X1_requireIndex rfl rfl rfl (by decide +kernel) ⟨(Nat.le_of_ble_eq_true rfl), (Nat.le_of_ble_eq_true rfl)⟩) ⟨cs_Bx.blind, va_recv hK hP (ci := 1) (q0 := 0) rfl rfl, cs_Bx.at hE hz hP hK⟩ rfl rfl hl.1 rfl (lv_room (Nat.le_of_ble_eq_true rfl)) dX1_setByte_7 ⟨(Nat.le_of_ble_eq_true rfl), (Nat.le_of_ble_eq_true rfl)⟩) (fun E ce q9 H1 h1 h2 h3 h4 h5 h6 => cs_xout hout hlocks (fun E h => Or.inl ⟨(by unfold cs_kSet; simp [cs_k1, cs_k2, cs_nS, cs_pl, cs_bRow, cs_bSer, cs_bDef, okR, rc, rc7, h.2]), h.1⟩) (Nat.le_of_ble_eq_true rfl) (Nat.le_of_ble_eq_true rfl) E ce q9 H1 h1 h2 h3 h4 h5 h6) (fun okI => ?_)
  obtain ⟨j, hj, rfl⟩ := cs_idx hl8 okI
  have jc : cs_c (nI j) = j := cs_cI (by omega)
  refine lv_iload_n hx hb dX1_setByte_10 rfl (lv_at hl 3 rfl) ?_
  refine cs_xcallv (vx_runS (As := [.int d]) (rest := []) ⟨hx, hb, hml, hown, hts⟩ (k_X1_requireByte l hlf D S ad cy d) (va_cwS 1 hts gX1_setByte_X1_requireByte rfl rfl rfl (by decide +kernel) ⟨(Nat.le_of_ble_eq_true rfl), (Nat.le_of_ble_eq_true rfl)⟩) ⟨cs_Bx.blind, cs_Bx.at hE hz cs_none hK⟩ rfl rfl hl.1 rfl (lv_room (Nat.le_of_ble_eq_true rfl)) dX1_setByte_11 ⟨(Nat.le_of_ble_eq_true rfl), (Nat.le_of_ble_eq_true rfl)⟩) (fun E ce q9 H1 h1 h2 h3 h4 h5 h6 => cs_xout hout hlocks (fun E h => Or.inr (Or.inl ⟨(by unfold cs_kSet; simp [cs_k1, cs_k2, cs_nS, cs_pl, cs_bRow, cs_bSer, cs_bDef, okR, rc, rc7, okI, jc, h.2]), h.1⟩)) (Nat.le_of_ble_eq_true rfl) (Nat.le_of_ble_eq_true rfl) E ce q9 H1 h1 h2 h3 h4 h5 h6) (fun okB => ?_)
  obtain ⟨b, hbz, rfl⟩ := cs_byte_of okB
  have b31 : b < 2 ^ 31 := by omega
  have bc : cs_c (nI b) = b := cs_cI b31
  have ek : cs_kSet S (nI r) (nI j) (nI b) = 0 := (by unfold cs_kSet; simp [cs_k1, cs_k2, cs_nS, cs_pl, cs_bRow, cs_bSer, cs_bDef, okR, rc, rc7, okI, jc, okB, bc])
  have es : cs_sSet S (nI r) (nI j) (nI b) = cs_put S r (cs_ln S r) (va_up (cs_by S r) j b) := by unfold cs_sSet; rw [if_pos ek, rc, jc, bc]
  refine lv_aload_n hx hb dX1_setByte_14 rfl (lv_at hl 0 rfl) ?_
  refine va_get (D := D) (ci := 1) (v := .ref (ad 2)) (C := RX1) (T := TX1) (N := 4) hx hb hts hinX1 hown hK hP 0 cs_L0 rfl 2 (by decide) (hts (.fieldLink RX1 21 "ChecksumLab" "rows" "[[I") (by decide +kernel)) (fun _ h9 => h9) rfl dX1_setByte_15 ?_
  refine lv_iload_n hx hb dX1_setByte_18 rfl (lv_at hl 1 rfl) ?_
  refine cs_aldA hx hb hK hP 2 4 cs_L2 rfl (k := r) (hr4) (by decide) dX1_setByte_19 ?_
  refine cs_topv (y := .ref (ad (4 + r))) (by rw [if_pos (hr4)]; rfl) ?_
  refine lv_iload_n hx hb dX1_setByte_20 rfl (lv_at hl 2 rfl) ?_
  refine cs_iald hx hb hK hP (4 + r) 0 (cs_Lr hr4) rfl (k := j) (by omega) (by decide) dX1_setByte_21 ?_
  refine cs_top (y := nI (cs_by S r j)) rfl ?_
  refine lv_istore (lv' := [(4, .int (nI (cs_by S r j))), (0, .ref (ad 0)), (1, .int (nI r)), (2, .int (nI j)), (3, .int (nI b))]) hx hb dX1_setByte_22 hl (by decide) rfl (fun ls hl => ?_)
  refine lv_aload_n hx hb dX1_setByte_24 rfl (lv_at hl 1 rfl) ?_
  refine va_get (D := D) (ci := 1) (v := .ref (ad 2)) (C := RX1) (T := TX1) (N := 4) hx hb hts hinX1 hown hK hP 0 cs_L0 rfl 2 (by decide) (hts (.fieldLink RX1 21 "ChecksumLab" "rows" "[[I") (by decide +kernel)) (fun _ h9 => h9) rfl dX1_setByte_25 ?_
  refine lv_iload_n hx hb dX1_setByte_28 rfl (lv_at hl 2 rfl) ?_
  refine cs_aldA hx hb hK hP 2 4 cs_L2 rfl (k := r) (hr4) (by decide) dX1_setByte_29 ?_
  refine cs_topv (y := .ref (ad (4 + r))) (by rw [if_pos (hr4)]; rfl) ?_
  refine lv_iload_n hx hb dX1_setByte_30 rfl (lv_at hl 3 rfl) ?_
  refine lv_iload_n hx hb dX1_setByte_31 rfl (lv_at hl 4 rfl) ?_
  refine cs_iast hx hb hK hP hD hS9 (4 + r) 0 (cs_Lr hr4) rfl (k := j) (by omega) (by decide) dX1_setByte_32 (fun H locs hP hD hS9 => ?_)
  rw [cs_LsetR hr4] at hP hD
  have hP : va_P D vwCl (cs_L (cs_put S r (cs_ln S r) (va_up (cs_by S r) j b)) ad cy) H := hP
  have hD : va_D (va_A (cs_L S ad cy) s.heap.size) (cs_L (cs_put S r (cs_ln S r) (va_up (cs_by S r) j b)) ad cy) := hD
  refine lv_iload hx hb dX1_setByte_33 (lv_at hl 0 rfl) ?_
  refine W.widen (k := 3) (n := 18) (Nat.le_of_ble_eq_true rfl) (Nat.le_of_ble_eq_true rfl) ?_
  exact vx_ret (W.iret (v := nI (cs_by S r j)) hx hb hr (fun t ht _ => ⟨nI (cs_by S r j), (), rfl, ⟨ek, by unfold cs_vByt; rw [rc, jc]⟩, by rw [ht, es]; exact hP, by rw [es]; exact hD, hS9.F ht⟩) hS9.2.2 dX1_setByte_35)
