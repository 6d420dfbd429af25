set_option maxHeartbeats 4000000 in
set_option maxRecDepth 100000 in
theorem k_X1_append (l : Launch) (hlf : l.stackTraces = false) (D : va_G) (S : cs_St) (ad : Nat → Nat) (cy : Nat → ClassId) (sz : Nat) (hS : cs_ok S) (v u : Int32) : cs_Xw l yX1_append wsX1_append ({ frames := 7, cells := 3, slots := 18, locals := 104 }) D (cs_tys cy) (cs_L S ad cy) sz [.ref (ad 0), .int v, .int u] (fun (_ : Unit) => cs_L (cs_sApp S v u) ad cy) (fun rr _ => cs_kApp S v u = 0 ∧ rr = cs_vApp S v) (cs_E (cs_kApp S v u) cs_IOB cs_IAE cs_ISE) 3 18 := by
  refine vx_ofW (cc := cX1_append) (maxL := 3) (ret := (some .int)) (by decide) rfl ?_
  intro pg e s m args below meth c s₁ B hml hout hv
  obtain ⟨rfl, hsz, hE, hz9, hP, hK, hD0⟩ := hv
  subst hsz
  have hD := hD0.self (sz := s.heap.size)
  have hA : ∀ q : Nat, s.heap.size ≤ q → va_A (cs_L S ad cy) s.heap.size q := fun q h => Or.inr h
  have hS9 : va_S (va_A (cs_L S ad cy) s.heap.size) s.heap s.heap [] := va_S.rf
  have hz := hz9.narrow (B := fun q => s.heap.size ≤ q) (fun q h => Or.inr h)
  have hx := B.exec
  have hb := B.bytes
  have hr := B.returns
  have hts := atoms_spec (ws := wsX1_append) B.pre
  have hown : s.vm.findClass RX1 = some m.cls := findClass_of_methodNamed B.named
  have hlocks := B.notSynchronized
  have hl := lv_entry ([.ref (ad 0), .int v, .int u]) (n := 3) (Nat.le_of_ble_eq_true rfl)
  rw [lg_entry_eq]
  generalize (lg_sl ([.ref (ad 0), .int v, .int u]) ++ List.replicate (3 - (lg_sl ([.ref (ad 0), .int v, .int u])).length) Slot.unset).toArray = ls at hl ⊢
  have hl : lv_has ls 3 [(0, .ref (ad 0)), (1, .int v), (2, .int u)] := hl
  have hinX1 : ∀ w ∈ wsX10, w ∈ wsX1_append := fun _ h => by unfold wsX1_append; exact List.mem_cons_of_mem _ (List.mem_append_left _ (List.mem_append_left _ (List.mem_append_left _ (List.mem_append_right _ (h)))))
  have h6 := hS.1
  refine lv_iload_n hx hb dX1_append_0 rfl (lv_at hl 1 rfl) ?_
  refine cs_xcallv (vx_runS (As := [.int v]) (rest := []) ⟨hx, hb, hml, hown, hts⟩ (k_X1_requireRow l hlf D S ad cy v) (va_cwS 1 hts gX1_append_X1_requireRow rfl rfl rfl (by decide +kernel) ⟨(Nat.le_of_ble_eq_true rfl), (Nat.le_of_ble_eq_true rfl)⟩) ⟨cs_Bx.blind, cs_Bx.at hE hz cs_none hK⟩ rfl rfl hl.1 rfl (lv_room (Nat.le_of_ble_eq_true rfl)) dX1_append_1 ⟨(Nat.le_of_ble_eq_true rfl), (Nat.le_of_ble_eq_true rfl)⟩) (fun E ce q9 H1 h1 h2 h3 h4 h5 h6 => cs_xout hout hlocks (fun E h => Or.inl ⟨(by unfold cs_kApp; simp [cs_k1, cs_k2, cs_nS, cs_pl, cs_bRow, cs_bSer, cs_bDef, h.2]), h.1⟩) (Nat.le_of_ble_eq_true rfl) (Nat.le_of_ble_eq_true rfl) E ce q9 H1 h1 h2 h3 h4 h5 h6) (fun okR => ?_)
  obtain ⟨r, hr4, rfl⟩ := cs_row_of okR
  have r31 : r < 2 ^ 31 := by omega
  have rc : cs_c (nI r) = r := cs_cI r31
  have hl8 := hS.2.2.1 r
  refine lv_iload_n hx hb dX1_append_4 rfl (lv_at hl 2 rfl) ?_
  refine cs_xcallv (vx_runS (As := [.int u]) (rest := []) ⟨hx, hb, hml, hown, hts⟩ (k_X1_requireByte l hlf D S ad cy u) (va_cwS 1 hts gX1_append_X1_requireByte rfl rfl rfl (by decide +kernel) ⟨(Nat.le_of_ble_eq_true rfl), (Nat.le_of_ble_eq_true rfl)⟩) ⟨cs_Bx.blind, cs_Bx.at hE hz cs_none hK⟩ rfl rfl hl.1 rfl (lv_room (Nat.le_of_ble_eq_true rfl)) dX1_append_5 ⟨(Nat.le_of_ble_eq_true rfl), (Nat.le_of_ble_eq_true rfl)⟩) (fun E ce q9 H1 h1 h2 h3 h4 h5 h6 => cs_xout hout hlocks (fun E h => Or.inr (Or.inl ⟨(by unfold cs_kApp; simp [cs_k1, cs_k2, cs_nS, cs_pl, cs_bRow, cs_bSer, cs_bDef, okR, rc, h.2]), h.1⟩)) (Nat.le_of_ble_eq_true rfl) (Nat.le_of_ble_eq_true rfl) E ce q9 H1 h1 h2 h3 h4 h5 h6) (fun okB => ?_)
  obtain ⟨b, hbz, rfl⟩ := cs_byte_of okB
  have b31 : b < 2 ^ 31 := by omega
  have bc : cs_c (nI b) = b := cs_cI b31
  refine lv_aload_n hx hb dX1_append_8 rfl (lv_at hl 0 rfl) ?_
  refine lv_iload_n hx hb dX1_append_9 rfl (lv_at hl 1 rfl) ?_
  refine lv_iconst (v := 1) hx hb dX1_append_10 (by decide) ?_
  refine cs_xcallv (vx_runV (As := [.int (nI r), .int 1]) (rest := []) ⟨hx, hb, hml, hown, hts⟩ (k_X1_requireRoom l hlf D S ad cy r hr4 1) (cwV 2 hts gX1_append_X1_requireRoom rfl rfl rfl (by decide +kernel) ⟨(Nat.le_of_ble_eq_true rfl), (Nat.le_of_ble_eq_true rfl)⟩) ⟨cs_Bx.blind, va_recv hK hP (ci := 1) (q0 := 0) rfl rfl, cs_Bx.at hE hz hP hK⟩ rfl rfl hl.1 rfl (lv_room (Nat.le_of_ble_eq_true rfl)) dX1_append_11 ⟨(Nat.le_of_ble_eq_true rfl), (Nat.le_of_ble_eq_true rfl)⟩) (fun E ce q9 H1 h1 h2 h3 h4 h5 h6 => cs_xout hout hlocks (fun E h => Or.inr (Or.inr ⟨(cs_kApp3 okR okB rc hl8 h.2), h.1⟩)) (Nat.le_of_ble_eq_true rfl) (Nat.le_of_ble_eq_true rfl) E ce q9 H1 h1 h2 h3 h4 h5 h6) (fun okQ => ?_)
  obtain ⟨ek, hl9⟩ := cs_kApp0 okR okB rc hl8 okQ
  have es : cs_sApp S (nI r) (nI b) = cs_put S r (cs_ln S r + 1) (va_up (cs_by S r) (cs_ln S r) b) := by unfold cs_sApp; rw [if_pos ek, rc, bc]
  refine lv_aload_n hx hb dX1_append_14 rfl (lv_at hl 0 rfl) ?_
  refine va_get (D := D) (ci := 1) (v := .ref (ad 2)) (C := RX1) (T := TX1) (N := 4) hx hb hts hinX1 hown hK hP 0 cs_L0 rfl 2 (by decide) (hts (.fieldLink RX1 21 "ChecksumLab" "rows" "[[I") (by decide +kernel)) (fun _ h9 => h9) rfl dX1_append_15 ?_
  refine lv_iload_n hx hb dX1_append_18 rfl (lv_at hl 1 rfl) ?_
  refine cs_aldA hx hb hK hP 2 4 cs_L2 rfl (k := r) (hr4) (by decide) dX1_append_19 ?_
  refine cs_topv (y := .ref (ad (4 + r))) (by rw [if_pos (hr4)]; rfl) ?_
  refine lv_aload_n hx hb dX1_append_20 rfl (lv_at hl 0 rfl) ?_
  refine va_get (D := D) (ci := 1) (v := .ref (ad 3)) (C := RX1) (T := TX1) (N := 4) hx hb hts hinX1 hown hK hP 0 cs_L0 rfl 3 (by decide) (hts (.fieldLink RX1 24 "ChecksumLab" "sizes" "[I") (by decide +kernel)) (fun _ h9 => h9) rfl dX1_append_21 ?_
  refine lv_iload_n hx hb dX1_append_24 rfl (lv_at hl 1 rfl) ?_
  refine cs_iald hx hb hK hP 3 0 cs_L3 rfl (k := r) (hr4) (by decide) dX1_append_25 ?_
  refine cs_top (y := nI (cs_ln S r)) rfl ?_
  refine lv_iload_n hx hb dX1_append_26 rfl (lv_at hl 2 rfl) ?_
  refine cs_iast hx hb hK hP hD hS9 (4 + r) 0 (cs_Lr hr4) rfl (k := cs_ln S r) (by omega) (by decide) dX1_append_27 (fun H locs hP hD hS9 => ?_)
  rw [cs_LsetR hr4] at hP hD
  have hP : va_P D vwCl (cs_L (cs_put S r (cs_ln S r) (va_up (cs_by S r) (cs_ln S r) b)) ad cy) H := hP
  have hD : va_D (va_A (cs_L S ad cy) s.heap.size) (cs_L (cs_put S r (cs_ln S r) (va_up (cs_by S r) (cs_ln S r) b)) ad cy) := hD
  refine lv_aload_n hx hb dX1_append_28 rfl (lv_at hl 0 rfl) ?_
  refine va_get (D := D) (ci := 1) (v := .ref (ad 3)) (C := RX1) (T := TX1) (N := 4) hx hb hts hinX1 hown hK hP 0 cs_L0 rfl 3 (by decide) (hts (.fieldLink RX1 24 "ChecksumLab" "sizes" "[I") (by decide +kernel)) (fun _ h9 => h9) rfl dX1_append_29 ?_
  refine lv_iload_n hx hb dX1_append_32 rfl (lv_at hl 1 rfl) ?_
  refine lv_dup2_11 hx hb dX1_append_33 rfl rfl ?_
  refine cs_iald hx hb hK hP 3 0 cs_L3 rfl (k := r) (hr4) (by decide) dX1_append_34 ?_
  refine cs_top (y := nI (cs_ln S r)) (congrArg nI cs_put_ln) ?_
  refine lv_iconst (v := 1) hx hb dX1_append_35 (by decide) ?_
  refine lv_iadd hx hb dX1_append_36 ?_
  refine cs_top (y := nI (cs_ln S r + 1)) (nI_1 _) ?_
  refine cs_iast hx hb hK hP hD hS9 3 0 cs_L3 rfl (k := r) (hr4) (by decide) dX1_append_37 (fun H locs hP hD hS9 => ?_)
  rw [cs_LsetL, cs_put_by, cs_put_put] at hP hD
  have hP : va_P D vwCl (cs_L (cs_put S r (cs_ln S r + 1) (va_up (cs_by S r) (cs_ln S r) b)) ad cy) H := hP
  have hD : va_D (va_A (cs_L S ad cy) s.heap.size) (cs_L (cs_put S r (cs_ln S r + 1) (va_up (cs_by S r) (cs_ln S r) b)) ad cy) := hD
  refine lv_aload_n hx hb dX1_append_38 rfl (lv_at hl 0 rfl) ?_
  refine va_get (D := D) (ci := 1) (v := .ref (ad 3)) (C := RX1) (T := TX1) (N := 4) hx hb hts hinX1 hown hK hP 0 cs_L0 rfl 3 (by decide) (hts (.fieldLink RX1 24 "ChecksumLab" "sizes" "[I") (by decide +kernel)) (fun _ h9 => h9) rfl dX1_append_39 ?_
  refine lv_iload_n hx hb dX1_append_42 rfl (lv_at hl 1 rfl) ?_
  refine cs_iald hx hb hK hP 3 0 cs_L3 rfl (k := r) (hr4) (by decide) dX1_append_43 ?_
  refine cs_top (y := nI (cs_ln S r + 1)) (congrArg nI cs_put_ln) ?_
  refine W.widen (k := 3) (n := 18) (Nat.le_of_ble_eq_true rfl) (Nat.le_of_ble_eq_true rfl) ?_
  exact vx_ret (W.iret (v := nI (cs_ln S r + 1)) hx hb hr (fun t ht _ => ⟨nI (cs_ln S r + 1), (), rfl, ⟨ek, by unfold cs_vApp; rw [rc]⟩, by rw [ht, es]; exact hP, by rw [es]; exact hD, hS9.F ht⟩) hS9.2.2 dX1_append_44)
set_option maxHeartbeats 4000000 in
set_option maxRecDepth 100000 in
theorem k_X1_appendSeries (l : Launch) (hlf : l.stackTraces = false) (D : va_G) (S : cs_St) (ad : Nat → Nat) (cy : Nat → ClassId) (sz : Nat) (hS : cs_ok S) (v a b n : Int32) : cs_Xw l yX1_appendSeries wsX1_appendSeries ({ frames := 7, cells := 5, slots := 30, locals := 104 }) D (cs_tys cy) (cs_L S ad cy) sz [.ref (ad 0), .int v, .int a, .int b, .int n] (fun (_ : Unit) => cs_L (cs_sSer S v a b n) ad cy) (fun rr _ => cs_kSer S v a b n = 0 ∧ rr = cs_vSer S v n) (cs_E (cs_kSer S v a b n) cs_IOB cs_IAE cs_ISE) 5 30 := by
  refine vx_ofW (cc := cX1_appendSeries) (maxL := 7) (ret := (some .int)) (by decide) rfl ?_
  intro pg e s m args below meth c s₁ B hml hout hv
  obtain ⟨rfl, hsz, hE, hz9, hP, hK, hD0⟩ := hv
  subst hsz
  have hD := hD0.self (sz := s.heap.size)
  have hA : ∀ q : Nat, s.heap.size ≤ q → va_A (cs_L S ad cy) s.heap.size q := fun q h => Or.inr h
  have hS9 : va_S (va_A (cs_L S ad cy) s.heap.size) s.heap s.heap [] := va_S.rf
  have hz := hz9.narrow (B := fun q => s.heap.size ≤ q) (fun q h => Or.inr h)
  have hx := B.exec
  have hb := B.bytes
  have hr := B.returns
  have hts := atoms_spec (ws := wsX1_appendSeries) B.pre
  have hown : s.vm.findClass RX1 = some m.cls := findClass_of_methodNamed B.named
  have hlocks := B.notSynchronized
  have hl := lv_entry ([.ref (ad 0), .int v, .int a, .int b, .int n]) (n := 7) (Nat.le_of_ble_eq_true rfl)
  rw [lg_entry_eq]
  generalize (lg_sl ([.ref (ad 0), .int v, .int a, .int b, .int n]) ++ List.replicate (7 - (lg_sl ([.ref (ad 0), .int v, .int a, .int b, .int n])).length) Slot.unset).toArray = ls at hl ⊢
  have hl : lv_has ls 7 [(0, .ref (ad 0)), (1, .int v), (2, .int a), (3, .int b), (4, .int n)] := hl
  have hinX1 : ∀ w ∈ wsX10, w ∈ wsX1_appendSeries := fun _ h => by unfold wsX1_appendSeries; exact List.mem_cons_of_mem _ (List.mem_append_left _ (List.mem_append_left _ (List.mem_append_left _ (List.mem_append_right _ (h)))))
  have h6 := hS.1
  refine lv_iload_n hx hb dX1_appendSeries_0 rfl (lv_at hl 1 rfl) ?_
  refine cs_xcallv (vx_runS (As := [.int v]) (rest := []) ⟨hx, hb, hml, hown, hts⟩ (k_X1_requireRow l hlf D S ad cy v) (va_cwS 1 hts gX1_appendSeries_X1_requireRow rfl rfl rfl (by decide +kernel) ⟨(Nat.le_of_ble_eq_true rfl), (Nat.le_of_ble_eq_true rfl)⟩) ⟨cs_Bx.blind, cs_Bx.at hE hz cs_none hK⟩ rfl rfl hl.1 rfl (lv_room (Nat.le_of_ble_eq_true rfl)) dX1_appendSeries_1 ⟨(Nat.le_of_ble_eq_true rfl), (Nat.le_of_ble_eq_true rfl)⟩) (fun E ce q9 H1 h1 h2 h3 h4 h5 h6 => cs_xout hout hlocks (fun E h => Or.inl ⟨(by unfold cs_kSer; simp [cs_k1, cs_k2, cs_nS, cs_pl, cs_bRow, cs_bSer, cs_bDef, h.2]), h.1⟩) (Nat.le_of_ble_eq_true rfl) (Nat.le_of_ble_eq_true rfl) E ce q9 H1 h1 h2 h3 h4 h5 h6) (fun okR => ?_)
  obtain ⟨r, hr4, rfl⟩ := cs_row_of okR
  have r31 : r < 2 ^ 31 := by omega
  have rc : cs_c (nI r) = r := cs_cI r31
  have hl8 := hS.2.2.1 r
  refine lv_iload_n hx hb dX1_appendSeries_4 rfl (lv_at hl 2 rfl) ?_
  refine cs_xcallv (vx_runS (As := [.int a]) (rest := []) ⟨hx, hb, hml, hown, hts⟩ (k_X1_requireByte l hlf D S ad cy a) (va_cwS 1 hts gX1_appendSeries_X1_requireByte rfl rfl rfl (by decide +kernel) ⟨(Nat.le_of_ble_eq_true rfl), (Nat.le_of_ble_eq_true rfl)⟩) ⟨cs_Bx.blind, cs_Bx.at hE hz cs_none hK⟩ rfl rfl hl.1 rfl (lv_room (Nat.le_of_ble_eq_true rfl)) dX1_appendSeries_5 ⟨(Nat.le_of_ble_eq_true rfl), (Nat.le_of_ble_eq_true rfl)⟩) (fun E ce q9 H1 h1 h2 h3 h4 h5 h6 => cs_xout hout hlocks (fun E h => Or.inr (Or.inl ⟨(by unfold cs_kSer; simp [cs_k1, cs_k2, cs_nS, cs_pl, cs_bRow, cs_bSer, cs_bDef, okR, rc, h.2]), h.1⟩)) (Nat.le_of_ble_eq_true rfl) (Nat.le_of_ble_eq_true rfl) E ce q9 H1 h1 h2 h3 h4 h5 h6) (fun ok1 => ?_)
  obtain ⟨a0, ha0z, rfl⟩ := cs_byte_of ok1
  have a031 : a0 < 2 ^ 31 := by omega
  have a0c : cs_c (nI a0) = a0 := cs_cI a031
  refine lv_iload_n hx hb dX1_appendSeries_8 rfl (lv_at hl 3 rfl) ?_
  refine cs_xcallv (vx_runS (As := [.int b]) (rest := []) ⟨hx, hb, hml, hown, hts⟩ (k_X1_requireByte l hlf D S ad cy b) (va_cwS 1 hts gX1_appendSeries_X1_requireByte rfl rfl rfl (by decide +kernel) ⟨(Nat.le_of_ble_eq_true rfl), (Nat.le_of_ble_eq_true rfl)⟩) ⟨cs_Bx.blind, cs_Bx.at hE hz cs_none hK⟩ rfl rfl hl.1 rfl (lv_room (Nat.le_of_ble_eq_true rfl)) dX1_appendSeries_9 ⟨(Nat.le_of_ble_eq_true rfl), (Nat.le_of_ble_eq_true rfl)⟩) (fun E ce q9 H1 h1 h2 h3 h4 h5 h6 => cs_xout hout hlocks (fun E h => Or.inr (Or.inl ⟨(by unfold cs_kSer; simp [cs_k1, cs_k2, cs_nS, cs_pl, cs_bRow, cs_bSer, cs_bDef, okR, rc, ok1, a0c, h.2]), h.1⟩)) (Nat.le_of_ble_eq_true rfl) (Nat.le_of_ble_eq_true rfl) E ce q9 H1 h1 h2 h3 h4 h5 h6) (fun ok2 => ?_)
  obtain ⟨b0, hb0z, rfl⟩ := cs_byte_of ok2
  have b031 : b0 < 2 ^ 31 := by omega
  have b0c : cs_c (nI b0) = b0 := cs_cI b031
  refine lv_iload hx hb dX1_appendSeries_12 (lv_at hl 4 rfl) ?_
  refine lv_iconst (v := 1) hx hb dX1_appendSeries_14 (by decide) ?_
  refine lv_icmp_lt (tgt := 26) hx hb dX1_appendSeries_15 (by decide) (fun c_15 => ?_) (fun c_15 => ?_)
  · have h0 : cs_in n 1 256 = false := cs_inF1 (Int32.not_le.mpr c_15)
    exact cs_throw (cls := cs_IAE) (text := "count is out of range") hx hb hlf hown hts (by decide +kernel) cs_at1 hE hE.2.1.1 cs_ot1 (fun _ h => by unfold wsX1_appendSeries; exact List.mem_cons_of_mem _ (List.mem_append_left _ (List.mem_append_left _ (List.mem_append_right _ (h))))) (by decide +kernel) (by decide +kernel) (hE.2.2 (90, "count is out of range") (by decide +kernel)) hz (hl.1.trans hml.symm) dX1_appendSeries_26 dX1_appendSeries_29 dX1_appendSeries_30 dX1_appendSeries_32 dX1_appendSeries_35 hout (Nat.le_of_ble_eq_true rfl) (Nat.le_of_ble_eq_true rfl) (Nat.le_of_ble_eq_true rfl) (Nat.le_of_ble_eq_true rfl) hlocks (Or.inr (Or.inl ⟨(by unfold cs_kSer; simp [cs_k1, cs_k2, cs_nS, cs_pl, cs_bRow, cs_bSer, cs_bDef, okR, rc, ok1, a0c, ok2, b0c, h0]), rfl⟩)) (Nat.le_of_ble_eq_true rfl) (Nat.le_of_ble_eq_true rfl)
  · refine lv_iload hx hb dX1_appendSeries_18 (lv_at hl 4 rfl) ?_
    refine lv_sipush (v := 256) hx hb dX1_appendSeries_20 (by decide) ?_
    refine lv_icmp_le (tgt := 36) hx hb dX1_appendSeries_23 (by decide) (fun c_23 => ?_) (fun c_23 => ?_)
    · have ok3 : cs_in n 1 256 = true := cs_inT (Int32.not_lt.mp c_15) c_23
      have okS : cs_bSer (nI a0) (nI b0) n = true := by unfold cs_bSer; rw [ok1, ok2, ok3]; rfl
      obtain ⟨n0, hn1, hn2, rfl⟩ := cs_in1_of (n := 256) (by decide) ok3
      have nc : cs_c (nI n0) = n0 := cs_cI (by omega)
      refine lv_aload_n hx hb dX1_appendSeries_36 rfl (lv_at hl 0 rfl) ?_
      refine lv_iload_n hx hb dX1_appendSeries_37 rfl (lv_at hl 1 rfl) ?_
      refine lv_iload hx hb dX1_appendSeries_38 (lv_at hl 4 rfl) ?_
      refine cs_xcallv (vx_runV (As := [.int (nI r), .int (nI n0)]) (rest := []) ⟨hx, hb, hml, hown, hts⟩ (k_X1_requireRoom l hlf D S ad cy r hr4 (nI n0)) (cwV 2 hts gX1_appendSeries_X1_requireRoom rfl rfl rfl (by decide +kernel) ⟨(Nat.le_of_ble_eq_true rfl), (Nat.le_of_ble_eq_true rfl)⟩) ⟨cs_Bx.blind, va_recv hK hP (ci := 1) (q0 := 0) rfl rfl, cs_Bx.at hE hz hP hK⟩ rfl rfl hl.1 rfl (lv_room (Nat.le_of_ble_eq_true rfl)) dX1_appendSeries_40 ⟨(Nat.le_of_ble_eq_true rfl), (Nat.le_of_ble_eq_true rfl)⟩) (fun E ce q9 H1 h1 h2 h3 h4 h5 h6 => cs_xout hout hlocks (fun E h => Or.inr (Or.inr ⟨(cs_kSer3 okR okS rc nc hl8 hn2 h.2), h.1⟩)) (Nat.le_of_ble_eq_true rfl) (Nat.le_of_ble_eq_true rfl) E ce q9 H1 h1 h2 h3 h4 h5 h6) (fun okQ => ?_)
      obtain ⟨ek, hl9⟩ := cs_kSer0 okR okS rc nc hl8 hn2 okQ
      have es : cs_sSer S (nI r) (nI a0) (nI b0) (nI n0) = cs_put S r (cs_ln S r + n0) (cs_fil (cs_by S r) (cs_gSer (nI a0) (nI b0)) (cs_ln S r) n0) := by unfold cs_sSer; rw [if_pos ek, rc, nc]
      refine lv_aload_n hx hb dX1_appendSeries_43 rfl (lv_at hl 0 rfl) ?_
      refine va_get (D := D) (ci := 1) (v := .ref (ad 3)) (C := RX1) (T := TX1) (N := 4) hx hb hts hinX1 hown hK hP 0 cs_L0 rfl 3 (by decide) (hts (.fieldLink RX1 24 "ChecksumLab" "sizes" "[I") (by decide +kernel)) (fun _ h9 => h9) rfl dX1_appendSeries_44 ?_
      refine lv_iload_n hx hb dX1_appendSeries_47 rfl (lv_at hl 1 rfl) ?_
      refine cs_iald hx hb hK hP 3 0 cs_L3 rfl (k := r) (hr4) (by decide) dX1_appendSeries_48 ?_
      refine cs_top (y := nI (cs_ln S r)) rfl ?_
      refine lv_istore (lv' := [(5, .int (nI (cs_ln S r))), (0, .ref (ad 0)), (1, .int (nI r)), (2, .int (nI a0)), (3, .int (nI b0)), (4, .int (nI n0))]) hx hb dX1_appendSeries_49 hl (by decide) rfl (fun ls hl => ?_)
      refine lv_iconst (v := 0) hx hb dX1_appendSeries_51 (by decide) ?_
      refine lv_istore (lv' := [(6, .int 0), (5, .int (nI (cs_ln S r))), (0, .ref (ad 0)), (1, .int (nI r)), (2, .int (nI a0)), (3, .int (nI b0)), (4, .int (nI n0))]) hx hb dX1_appendSeries_52 hl (by decide) rfl (fun ls hl => ?_)
      have loop : ∀ (n i : Nat), i + n = n0 → ∀ (H : Heap) (locs : List Loc), va_P D vwCl (cs_L (cs_put S r (cs_ln S r) (cs_fil (cs_by S r) (cs_gSer (nI a0) (nI b0)) (cs_ln S r) i)) ad cy) H → va_D (va_A (cs_L S ad cy) s.heap.size) (cs_L (cs_put S r (cs_ln S r) (cs_fil (cs_by S r) (cs_gSer (nI a0) (nI b0)) (cs_ln S r) i)) ad cy) → va_S (va_A (cs_L S ad cy) s.heap.size) s.heap H locs → ∀ ls : Array Slot, lv_has ls 7 [(0, .ref (ad 0)), (1, .int (nI r)), (2, .int (nI a0)), (3, .int (nI b0)), (4, .int (nI n0)), (5, .int (nI (cs_ln S r))), (6, .int (nI i))] → W pg l e (headSpec wsX1_appendSeries ({ frames := 7, cells := 5, slots := 30, locals := 104 })).room s m [Value.ref (ad 0), Value.int (nI r), Value.int (nI a0), Value.int (nI b0), Value.int (nI n0)].toArray below meth c H locs 4 24 (vx_MQ below (cs_Qw D (cs_L S ad cy) (fun (_ : Unit) => cs_L (cs_sSer S (nI r) (nI a0) (nI b0) (nI n0)) ad cy) (fun rr _ => cs_kSer S (nI r) (nI a0) (nI b0) (nI n0) = 0 ∧ rr = cs_vSer S (nI r) (nI n0))) (cs_XC (cs_E (cs_kSer S (nI r) (nI a0) (nI b0) (nI n0)) cs_IOB cs_IAE cs_ISE)) [Value.ref (ad 0), Value.int (nI r), Value.int (nI a0), Value.int (nI b0), Value.int (nI n0)].toArray s 5 30 (va_A (cs_L S ad cy) s.heap.size)) (F0 m 54 ls []) := by
        intro n
        induction n with
        | zero =>
          intro i hi H locs hP hD hS9 ls hl
          refine lv_iload hx hb dX1_appendSeries_54 (lv_at hl 6 rfl) ?_
          refine lv_iload hx hb dX1_appendSeries_56 (lv_at hl 4 rfl) ?_
          refine lv_icmp_ge (tgt := 89) hx hb dX1_appendSeries_58 (by decide) (fun c_58 => ?_) (fun c_58 => ?_)
          · obtain rfl : i = n0 := by omega
            refine lv_aload_n hx hb dX1_appendSeries_89 rfl (lv_at hl 0 rfl) ?_
            refine va_get (D := D) (ci := 1) (v := .ref (ad 3)) (C := RX1) (T := TX1) (N := 4) hx hb hts hinX1 hown hK hP 0 cs_L0 rfl 3 (by decide) (hts (.fieldLink RX1 24 "ChecksumLab" "sizes" "[I") (by decide +kernel)) (fun _ h9 => h9) rfl dX1_appendSeries_90 ?_
            refine lv_iload_n hx hb dX1_appendSeries_93 rfl (lv_at hl 1 rfl) ?_
            refine lv_iload hx hb dX1_appendSeries_94 (lv_at hl 5 rfl) ?_
            refine lv_iload hx hb dX1_appendSeries_96 (lv_at hl 4 rfl) ?_
            refine lv_iadd hx hb dX1_appendSeries_98 ?_
            refine cs_top (y := nI (cs_ln S r + i)) (nI_add _ _) ?_
            refine cs_iast hx hb hK hP hD hS9 3 0 cs_L3 rfl (k := r) (hr4) (by decide) dX1_appendSeries_99 (fun H locs hP hD hS9 => ?_)
            rw [cs_LsetL, cs_put_by, cs_put_put] at hP hD
            have hP : va_P D vwCl (cs_L (cs_put S r (cs_ln S r + i) (cs_fil (cs_by S r) (cs_gSer (nI a0) (nI b0)) (cs_ln S r) i)) ad cy) H := hP
            have hD : va_D (va_A (cs_L S ad cy) s.heap.size) (cs_L (cs_put S r (cs_ln S r + i) (cs_fil (cs_by S r) (cs_gSer (nI a0) (nI b0)) (cs_ln S r) i)) ad cy) := hD
            refine lv_aload_n hx hb dX1_appendSeries_100 rfl (lv_at hl 0 rfl) ?_
            refine va_get (D := D) (ci := 1) (v := .ref (ad 3)) (C := RX1) (T := TX1) (N := 4) hx hb hts hinX1 hown hK hP 0 cs_L0 rfl 3 (by decide) (hts (.fieldLink RX1 24 "ChecksumLab" "sizes" "[I") (by decide +kernel)) (fun _ h9 => h9) rfl dX1_appendSeries_101 ?_
            refine lv_iload_n hx hb dX1_appendSeries_104 rfl (lv_at hl 1 rfl) ?_
            refine cs_iald hx hb hK hP 3 0 cs_L3 rfl (k := r) (hr4) (by decide) dX1_appendSeries_105 ?_
            refine cs_top (y := nI (cs_ln S r + i)) (congrArg nI cs_put_ln) ?_
            refine W.widen (k := 5) (n := 30) (Nat.le_of_ble_eq_true rfl) (Nat.le_of_ble_eq_true rfl) ?_
            exact vx_ret (W.iret (v := nI (cs_ln S r + i)) hx hb hr (fun t ht _ => ⟨nI (cs_ln S r + i), (), rfl, ⟨ek, by unfold cs_vSer; rw [rc, nc]⟩, by rw [ht, es]; exact hP, by rw [es]; exact hD, hS9.F ht⟩) hS9.2.2 dX1_appendSeries_106)
          · exact absurd (nI_le (a := n0) (b := i) (by omega) (by omega)) c_58
        | succ n ih =>
          intro i hi H locs hP hD hS9 ls hl
          refine lv_iload hx hb dX1_appendSeries_54 (lv_at hl 6 rfl) ?_
          refine lv_iload hx hb dX1_appendSeries_56 (lv_at hl 4 rfl) ?_
          refine lv_icmp_ge (tgt := 89) hx hb dX1_appendSeries_58 (by decide) (fun c_58 => ?_) (fun c_58 => ?_)
          · exact absurd c_58 (nI_ge (a := i) (b := n0) (by omega) (by omega))
          · refine lv_aload_n hx hb dX1_appendSeries_61 rfl (lv_at hl 0 rfl) ?_
            refine va_get (D := D) (ci := 1) (v := .ref (ad 2)) (C := RX1) (T := TX1) (N := 4) hx hb hts hinX1 hown hK hP 0 cs_L0 rfl 2 (by decide) (hts (.fieldLink RX1 21 "ChecksumLab" "rows" "[[I") (by decide +kernel)) (fun _ h9 => h9) rfl dX1_appendSeries_62 ?_
            refine lv_iload_n hx hb dX1_appendSeries_65 rfl (lv_at hl 1 rfl) ?_
            refine cs_aldA hx hb hK hP 2 4 cs_L2 rfl (k := r) (hr4) (by decide) dX1_appendSeries_66 ?_
            refine cs_topv (y := .ref (ad (4 + r))) (by rw [if_pos (hr4)]; rfl) ?_
            refine lv_iload hx hb dX1_appendSeries_67 (lv_at hl 5 rfl) ?_
            refine lv_iload hx hb dX1_appendSeries_69 (lv_at hl 6 rfl) ?_
            refine lv_iadd hx hb dX1_appendSeries_71 ?_
            refine cs_top (y := nI (cs_ln S r + i)) (nI_add _ _) ?_
            refine lv_iload_n hx hb dX1_appendSeries_72 rfl (lv_at hl 2 rfl) ?_
            refine lv_iload hx hb dX1_appendSeries_73 (lv_at hl 6 rfl) ?_
            refine lv_iload_n hx hb dX1_appendSeries_75 rfl (lv_at hl 3 rfl) ?_
            refine lv_imul hx hb dX1_appendSeries_76 ?_
            refine lv_iadd hx hb dX1_appendSeries_77 ?_
            refine lv_sipush (v := 255) hx hb dX1_appendSeries_78 (by decide) ?_
            refine lv_iand hx hb dX1_appendSeries_81 ?_
            refine cs_top (y := nI (cs_gSer (nI a0) (nI b0) i)) (by unfold cs_gSer; rw [a0c, b0c]; exact cs_serA ha0z hb0z (by omega)) ?_
            refine cs_iast hx hb hK hP hD hS9 (4 + r) 0 (cs_Lr hr4) rfl (k := (cs_ln S r + i)) (by omega) (by decide) dX1_appendSeries_82 (fun H locs hP hD hS9 => ?_)
            rw [cs_LsetR hr4, cs_put_ln, cs_put_put, cs_put_by] at hP hD
            have hP : va_P D vwCl (cs_L (cs_put S r (cs_ln S r) (cs_fil (cs_by S r) (cs_gSer (nI a0) (nI b0)) (cs_ln S r) (i + 1))) ad cy) H := hP
            have hD : va_D (va_A (cs_L S ad cy) s.heap.size) (cs_L (cs_put S r (cs_ln S r) (cs_fil (cs_by S r) (cs_gSer (nI a0) (nI b0)) (cs_ln S r) (i + 1))) ad cy) := hD
            refine lv_iinc (v := nI (i + 1)) (lv' := [(6, .int (nI (i + 1))), (0, .ref (ad 0)), (1, .int (nI r)), (2, .int (nI a0)), (3, .int (nI b0)), (4, .int (nI n0)), (5, .int (nI (cs_ln S r)))]) hx hb dX1_appendSeries_83 hl (k := 6) rfl (cs_inc1 i) (by decide) rfl (fun ls hl => ?_)
            refine lv_goto (tgt := 54) hx hb dX1_appendSeries_86 (by decide) ?_
            exact ih (i + 1) (by omega) H locs hP hD hS9 ls (lv_sub hl [1, 2, 3, 4, 5, 6, 0] rfl)
      have e0 : (cs_put S r (cs_ln S r) (cs_fil (cs_by S r) (cs_gSer (nI a0) (nI b0)) (cs_ln S r) 0)) = S := cs_put_id
      exact loop n0 0 (by omega) s.heap [] (by rw [e0]; exact hP) (by rw [e0]; exact hD) hS9 ls (lv_sub hl [2, 3, 4, 5, 6, 1, 0] rfl)
    · have h0 : cs_in n 1 256 = false := cs_inF2 c_23
      exact cs_throw (cls := cs_IAE) (text := "count is out of range") hx hb hlf hown hts (by decide +kernel) cs_at1 hE hE.2.1.1 cs_ot1 (fun _ h => by unfold wsX1_appendSeries; exact List.mem_cons_of_mem _ (List.mem_append_left _ (List.mem_append_left _ (List.mem_append_right _ (h))))) (by decide +kernel) (by decide +kernel) (hE.2.2 (90, "count is out of range") (by decide +kernel)) hz (hl.1.trans hml.symm) dX1_appendSeries_26 dX1_appendSeries_29 dX1_appendSeries_30 dX1_appendSeries_32 dX1_appendSeries_35 hout (Nat.le_of_ble_eq_true rfl) (Nat.le_of_ble_eq_true rfl) (Nat.le_of_ble_eq_true rfl) (Nat.le_of_ble_eq_true rfl) hlocks (Or.inr (Or.inl ⟨(by unfold cs_kSer; simp [cs_k1, cs_k2, cs_nS, cs_pl, cs_bRow, cs_bSer, cs_bDef, okR, rc, ok1, a0c, ok2, b0c, h0]), rfl⟩)) (Nat.le_of_ble_eq_true rfl) (Nat.le_of_ble_eq_true rfl)
set_option maxHeartbeats 4000000 in
set_option maxRecDepth 100000 in
theorem k_X1_appendRow (l : Launch) (hlf : l.stackTraces = false) (D : va_G) (S : cs_St) (ad : Nat → Nat) (cy : Nat → ClassId) (sz : Nat) (hS : cs_ok S) (v u : Int32) : cs_Xw l yX1_appendRow wsX1_appendRow ({ frames := 7, cells := 3, slots := 18, locals := 104 }) D (cs_tys cy) (cs_L S ad cy) sz [.ref (ad 0), .int v, .int u] (fun (_ : Unit) => cs_L (cs_sRow S v u) ad cy) (fun rr _ => cs_kRow S v u = 0 ∧ rr = cs_vRow S v u) (cs_E (cs_kRow S v u) cs_IOB cs_ISE "") 3 18 := by
  refine vx_ofW (cc := cX1_appendRow) (maxL := 6) (ret := (some .int)) (by decide) rfl ?_
  intro pg e s m args below meth c s₁ B hml hout hv
  obtain ⟨rfl, hsz, hE, hz9, hP, hK, hD0⟩ := hv
  subst hsz
  have hD := hD0.self (sz := s.heap.size)
  have hA : ∀ q : Nat, s.heap.size ≤ q → va_A (cs_L S ad cy) s.heap.size q := fun q h => Or.inr h
  have hS9 : va_S (va_A (cs_L S ad cy) s.heap.size) s.heap s.heap [] := va_S.rf
  have hz := hz9.narrow (B := fun q => s.heap.size ≤ q) (fun q h => Or.inr h)
  have hx := B.exec
  have hb := B.bytes
  have hr := B.returns
  have hts := atoms_spec (ws := wsX1_appendRow) B.pre
  have hown : s.vm.findClass RX1 = some m.cls := findClass_of_methodNamed B.named
  have hlocks := B.notSynchronized
  have hl := lv_entry ([.ref (ad 0), .int v, .int u]) (n := 6) (Nat.le_of_ble_eq_true rfl)
  rw [lg_entry_eq]
  generalize (lg_sl ([.ref (ad 0), .int v, .int u]) ++ List.replicate (6 - (lg_sl ([.ref (ad 0), .int v, .int u])).length) Slot.unset).toArray = ls at hl ⊢
  have hl : lv_has ls 6 [(0, .ref (ad 0)), (1, .int v), (2, .int u)] := hl
  have hinX1 : ∀ w ∈ wsX10, w ∈ wsX1_appendRow := fun _ h => by unfold wsX1_appendRow; exact List.mem_cons_of_mem _ (List.mem_append_left _ (List.mem_append_left _ (List.mem_append_right _ (h))))
  have h6 := hS.1
  refine lv_iload_n hx hb dX1_appendRow_0 rfl (lv_at hl 1 rfl) ?_
  refine cs_xcallv (vx_runS (As := [.int v]) (rest := []) ⟨hx, hb, hml, hown, hts⟩ (k_X1_requireRow l hlf D S ad cy v) (va_cwS 1 hts gX1_appendRow_X1_requireRow rfl rfl rfl (by decide +kernel) ⟨(Nat.le_of_ble_eq_true rfl), (Nat.le_of_ble_eq_true rfl)⟩) ⟨cs_Bx.blind, cs_Bx.at hE hz cs_none hK⟩ rfl rfl hl.1 rfl (lv_room (Nat.le_of_ble_eq_true rfl)) dX1_appendRow_1 ⟨(Nat.le_of_ble_eq_true rfl), (Nat.le_of_ble_eq_true rfl)⟩) (fun E ce q9 H1 h1 h2 h3 h4 h5 h6 => cs_xout hout hlocks (fun E h => Or.inl ⟨(by unfold cs_kRow; simp [cs_k1, cs_k2, cs_nS, cs_pl, cs_bRow, cs_bSer, cs_bDef, h.2]), h.1⟩) (Nat.le_of_ble_eq_true rfl) (Nat.le_of_ble_eq_true rfl) E ce q9 H1 h1 h2 h3 h4 h5 h6) (fun okR => ?_)
  obtain ⟨r, hr4, rfl⟩ := cs_row_of okR
  have r31 : r < 2 ^ 31 := by omega
  have rc : cs_c (nI r) = r := cs_cI r31
  have hl8 := hS.2.2.1 r
  refine lv_iload_n hx hb dX1_appendRow_4 rfl (lv_at hl 2 rfl) ?_
  refine cs_xcallv (vx_runS (As := [.int u]) (rest := []) ⟨hx, hb, hml, hown, hts⟩ (k_X1_requireRow l hlf D S ad cy u) (va_cwS 1 hts gX1_appendRow_X1_requireRow rfl rfl rfl (by decide +kernel) ⟨(Nat.le_of_ble_eq_true rfl), (Nat.le_of_ble_eq_true rfl)⟩) ⟨cs_Bx.blind, cs_Bx.at hE hz cs_none hK⟩ rfl rfl hl.1 rfl (lv_room (Nat.le_of_ble_eq_true rfl)) dX1_appendRow_5 ⟨(Nat.le_of_ble_eq_true rfl), (Nat.le_of_ble_eq_true rfl)⟩) (fun E ce q9 H1 h1 h2 h3 h4 h5 h6 => cs_xout hout hlocks (fun E h => Or.inl ⟨(by unfold cs_kRow; simp [cs_k1, cs_k2, cs_nS, cs_pl, cs_bRow, cs_bSer, cs_bDef, okR, rc, h.2]), h.1⟩) (Nat.le_of_ble_eq_true rfl) (Nat.le_of_ble_eq_true rfl) E ce q9 H1 h1 h2 h3 h4 h5 h6) (fun okO => ?_)
  obtain ⟨o, ho4, rfl⟩ := cs_row_of okO
  have o31 : o < 2 ^ 31 := by omega
  have oc : cs_c (nI o) = o := cs_cI o31
  have hl8o := hS.2.2.1 o
  refine lv_aload_n hx hb dX1_appendRow_8 rfl (lv_at hl 0 rfl) ?_
  refine va_get (D := D) (ci := 1) (v := .ref (ad 3)) (C := RX1) (T := TX1) (N := 4) hx hb hts hinX1 hown hK hP 0 cs_L0 rfl 3 (by decide) (hts (.fieldLink RX1 24 "ChecksumLab" "sizes" "[I") (by decide +kernel)) (fun _ h9 => h9) rfl dX1_appendRow_9 ?_
  refine lv_iload_n hx hb dX1_appendRow_12 rfl (lv_at hl 2 rfl) ?_
  refine cs_iald hx hb hK hP 3 0 cs_L3 rfl (k := o) (ho4) (by decide) dX1_appendRow_13 ?_
  refine cs_top (y := nI (cs_ln S o)) rfl ?_
  refine lv_istore_n (lv' := [(3, .int (nI (cs_ln S o))), (0, .ref (ad 0)), (1, .int (nI r)), (2, .int (nI o))]) hx hb dX1_appendRow_14 rfl hl (by decide) rfl (fun ls hl => ?_)
  refine lv_aload_n hx hb dX1_appendRow_15 rfl (lv_at hl 1 rfl) ?_
  refine lv_iload_n hx hb dX1_appendRow_16 rfl (lv_at hl 2 rfl) ?_
  refine lv_iload_n hx hb dX1_appendRow_17 rfl (lv_at hl 0 rfl) ?_
  refine cs_xcallv (vx_runV (As := [.int (nI r), .int (nI (cs_ln S o))]) (rest := []) ⟨hx, hb, hml, hown, hts⟩ (k_X1_requireRoom l hlf D S ad cy r hr4 (nI (cs_ln S o))) (cwV 2 hts gX1_appendRow_X1_requireRoom rfl rfl rfl (by decide +kernel) ⟨(Nat.le_of_ble_eq_true rfl), (Nat.le_of_ble_eq_true rfl)⟩) ⟨cs_Bx.blind, va_recv hK hP (ci := 1) (q0 := 0) rfl rfl, cs_Bx.at hE hz hP hK⟩ rfl rfl hl.1 rfl (lv_room (Nat.le_of_ble_eq_true rfl)) dX1_appendRow_18 ⟨(Nat.le_of_ble_eq_true rfl), (Nat.le_of_ble_eq_true rfl)⟩) (fun E ce q9 H1 h1 h2 h3 h4 h5 h6 => cs_xout hout hlocks (fun E h => Or.inr (Or.inl ⟨(cs_kRow2 okR okO rc oc hl8 hl8o h.2), h.1⟩)) (Nat.le_of_ble_eq_true rfl) (Nat.le_of_ble_eq_true rfl) E ce q9 H1 h1 h2 h3 h4 h5 h6) (fun okQ => ?_)
  obtain ⟨ek, hl9⟩ := cs_kRow0 okR okO rc oc hl8 hl8o okQ
  have es : cs_sRow S (nI r) (nI o) = cs_put S r (cs_ln S r + cs_ln S o) (cs_fil (cs_by S r) (cs_by S o) (cs_ln S r) (cs_ln S o)) := by unfold cs_sRow; rw [if_pos ek, rc, oc]
  refine lv_aload_n hx hb dX1_appendRow_21 rfl (lv_at hl 1 rfl) ?_
  refine va_get (D := D) (ci := 1) (v := .ref (ad 3)) (C := RX1) (T := TX1) (N := 4) hx hb hts hinX1 hown hK hP 0 cs_L0 rfl 3 (by decide) (hts (.fieldLink RX1 24 "ChecksumLab" "sizes" "[I") (by decide +kernel)) (fun _ h9 => h9) rfl dX1_appendRow_22 ?_
  refine lv_iload_n hx hb dX1_appendRow_25 rfl (lv_at hl 2 rfl) ?_
  refine cs_iald hx hb hK hP 3 0 cs_L3 rfl (k := r) (hr4) (by decide) dX1_appendRow_26 ?_
  refine cs_top (y := nI (cs_ln S r)) rfl ?_
  refine lv_istore (lv' := [(4, .int (nI (cs_ln S r))), (3, .int (nI (cs_ln S o))), (0, .ref (ad 0)), (1, .int (nI r)), (2, .int (nI o))]) hx hb dX1_appendRow_27 hl (by decide) rfl (fun ls hl => ?_)
  refine lv_iconst (v := 0) hx hb dX1_appendRow_29 (by decide) ?_
  refine lv_istore (lv' := [(5, .int 0), (4, .int (nI (cs_ln S r))), (3, .int (nI (cs_ln S o))), (0, .ref (ad 0)), (1, .int (nI r)), (2, .int (nI o))]) hx hb dX1_appendRow_30 hl (by decide) rfl (fun ls hl => ?_)
  have loop : ∀ (n i : Nat), i + n = (cs_ln S o) → ∀ (H : Heap) (locs : List Loc), va_P D vwCl (cs_L (cs_put S r (cs_ln S r) (cs_fil (cs_by S r) (cs_by S o) (cs_ln S r) i)) ad cy) H → va_D (va_A (cs_L S ad cy) s.heap.size) (cs_L (cs_put S r (cs_ln S r) (cs_fil (cs_by S r) (cs_by S o) (cs_ln S r) i)) ad cy) → va_S (va_A (cs_L S ad cy) s.heap.size) s.heap H locs → ∀ ls : Array Slot, lv_has ls 6 [(0, .ref (ad 0)), (1, .int (nI r)), (2, .int (nI o)), (3, .int (nI (cs_ln S o))), (4, .int (nI (cs_ln S r))), (5, .int (nI i))] → W pg l e (headSpec wsX1_appendRow ({ frames := 7, cells := 3, slots := 18, locals := 104 })).room s m [Value.ref (ad 0), Value.int (nI r), Value.int (nI o)].toArray below meth c H locs 3 18 (vx_MQ below (cs_Qw D (cs_L S ad cy) (fun (_ : Unit) => cs_L (cs_sRow S (nI r) (nI o)) ad cy) (fun rr _ => cs_kRow S (nI r) (nI o) = 0 ∧ rr = cs_vRow S (nI r) (nI o))) (cs_XC (cs_E (cs_kRow S (nI r) (nI o)) cs_IOB cs_ISE "")) [Value.ref (ad 0), Value.int (nI r), Value.int (nI o)].toArray s 3 18 (va_A (cs_L S ad cy) s.heap.size)) (F0 m 32 ls []) := by
    intro n
    induction n with
    | zero =>
      intro i hi H locs hP hD hS9 ls hl
      refine lv_iload hx hb dX1_appendRow_32 (lv_at hl 5 rfl) ?_
      refine lv_iload_n hx hb dX1_appendRow_34 rfl (lv_at hl 3 rfl) ?_
      refine lv_icmp_ge (tgt := 65) hx hb dX1_appendRow_35 (by decide) (fun c_35 => ?_) (fun c_35 => ?_)
      · obtain rfl : i = cs_ln S o := by omega
        refine lv_aload_n hx hb dX1_appendRow_65 rfl (lv_at hl 0 rfl) ?_
        refine va_get (D := D) (ci := 1) (v := .ref (ad 3)) (C := RX1) (T := TX1) (N := 4) hx hb hts hinX1 hown hK hP 0 cs_L0 rfl 3 (by decide) (hts (.fieldLink RX1 24 "ChecksumLab" "sizes" "[I") (by decide +kernel)) (fun _ h9 => h9) rfl dX1_appendRow_66 ?_
        refine lv_iload_n hx hb dX1_appendRow_69 rfl (lv_at hl 1 rfl) ?_
        refine lv_iload hx hb dX1_appendRow_70 (lv_at hl 4 rfl) ?_
        refine lv_iload_n hx hb dX1_appendRow_72 rfl (lv_at hl 3 rfl) ?_
        refine lv_iadd hx hb dX1_appendRow_73 ?_
        refine cs_top (y := nI (cs_ln S r + cs_ln S o)) (nI_add _ _) ?_
        refine cs_iast hx hb hK hP hD hS9 3 0 cs_L3 rfl (k := r) (hr4) (by decide) dX1_appendRow_74 (fun H locs hP hD hS9 => ?_)
        rw [cs_LsetL, cs_put_by, cs_put_put] at hP hD
        have hP : va_P D vwCl (cs_L (cs_put S r (cs_ln S r + cs_ln S o) (cs_fil (cs_by S r) (cs_by S o) (cs_ln S r) (cs_ln S o))) ad cy) H := hP
        have hD : va_D (va_A (cs_L S ad cy) s.heap.size) (cs_L (cs_put S r (cs_ln S r + cs_ln S o) (cs_fil (cs_by S r) (cs_by S o) (cs_ln S r) (cs_ln S o))) ad cy) := hD
        refine lv_aload_n hx hb dX1_appendRow_75 rfl (lv_at hl 0 rfl) ?_
        refine va_get (D := D) (ci := 1) (v := .ref (ad 3)) (C := RX1) (T := TX1) (N := 4) hx hb hts hinX1 hown hK hP 0 cs_L0 rfl 3 (by decide) (hts (.fieldLink RX1 24 "ChecksumLab" "sizes" "[I") (by decide +kernel)) (fun _ h9 => h9) rfl dX1_appendRow_76 ?_
        refine lv_iload_n hx hb dX1_appendRow_79 rfl (lv_at hl 1 rfl) ?_
        refine cs_iald hx hb hK hP 3 0 cs_L3 rfl (k := r) (hr4) (by decide) dX1_appendRow_80 ?_
        refine cs_top (y := nI (cs_ln S r + cs_ln S o)) (congrArg nI cs_put_ln) ?_
        refine W.widen (k := 3) (n := 18) (Nat.le_of_ble_eq_true rfl) (Nat.le_of_ble_eq_true rfl) ?_
        exact vx_ret (W.iret (v := nI (cs_ln S r + cs_ln S o)) hx hb hr (fun t ht _ => ⟨nI (cs_ln S r + cs_ln S o), (), rfl, ⟨ek, by unfold cs_vRow; rw [rc, oc]⟩, by rw [ht, es]; exact hP, by rw [es]; exact hD, hS9.F ht⟩) hS9.2.2 dX1_appendRow_81)
      · exact absurd (nI_le (a := (cs_ln S o)) (b := i) (by omega) (by omega)) c_35
    | succ n ih =>
      intro i hi H locs hP hD hS9 ls hl
      refine lv_iload hx hb dX1_appendRow_32 (lv_at hl 5 rfl) ?_
      refine lv_iload_n hx hb dX1_appendRow_34 rfl (lv_at hl 3 rfl) ?_
      refine lv_icmp_ge (tgt := 65) hx hb dX1_appendRow_35 (by decide) (fun c_35 => ?_) (fun c_35 => ?_)
      · exact absurd c_35 (nI_ge (a := i) (b := (cs_ln S o)) (by omega) (by omega))
      · refine lv_aload_n hx hb dX1_appendRow_38 rfl (lv_at hl 0 rfl) ?_
        refine va_get (D := D) (ci := 1) (v := .ref (ad 2)) (C := RX1) (T := TX1) (N := 4) hx hb hts hinX1 hown hK hP 0 cs_L0 rfl 2 (by decide) (hts (.fieldLink RX1 21 "ChecksumLab" "rows" "[[I") (by decide +kernel)) (fun _ h9 => h9) rfl dX1_appendRow_39 ?_
        refine lv_iload_n hx hb dX1_appendRow_42 rfl (lv_at hl 1 rfl) ?_
        refine cs_aldA hx hb hK hP 2 4 cs_L2 rfl (k := r) (hr4) (by decide) dX1_appendRow_43 ?_
        refine cs_topv (y := .ref (ad (4 + r))) (by rw [if_pos (hr4)]; rfl) ?_
        refine lv_iload hx hb dX1_appendRow_44 (lv_at hl 4 rfl) ?_
        refine lv_iload hx hb dX1_appendRow_46 (lv_at hl 5 rfl) ?_
        refine lv_iadd hx hb dX1_appendRow_48 ?_
        refine cs_top (y := nI (cs_ln S r + i)) (nI_add _ _) ?_
        refine lv_aload_n hx hb dX1_appendRow_49 rfl (lv_at hl 0 rfl) ?_
        refine va_get (D := D) (ci := 1) (v := .ref (ad 2)) (C := RX1) (T := TX1) (N := 4) hx hb hts hinX1 hown hK hP 0 cs_L0 rfl 2 (by decide) (hts (.fieldLink RX1 21 "ChecksumLab" "rows" "[[I") (by decide +kernel)) (fun _ h9 => h9) rfl dX1_appendRow_50 ?_
        refine lv_iload_n hx hb dX1_appendRow_53 rfl (lv_at hl 2 rfl) ?_
        refine cs_aldA hx hb hK hP 2 4 cs_L2 rfl (k := o) (ho4) (by decide) dX1_appendRow_54 ?_
        refine cs_topv (y := .ref (ad (4 + o))) (by rw [if_pos (ho4)]; rfl) ?_
        refine lv_iload hx hb dX1_appendRow_55 (lv_at hl 5 rfl) ?_
        refine cs_iald hx hb hK hP (4 + o) 0 (cs_Lr ho4) rfl (k := i) (by omega) (by decide) dX1_appendRow_57 ?_
        refine cs_top (y := nI (cs_by (cs_put S r (cs_ln S r) (cs_fil (cs_by S r) (cs_by S o) (cs_ln S r) i)) o i)) rfl ?_
        refine cs_top (y := nI (cs_by S o i)) (congrArg nI (cs_rowF (by omega))) ?_
        refine cs_iast hx hb hK hP hD hS9 (4 + r) 0 (cs_Lr hr4) rfl (k := (cs_ln S r + i)) (by omega) (by decide) dX1_appendRow_58 (fun H locs hP hD hS9 => ?_)
        rw [cs_LsetR hr4, cs_put_ln, cs_put_put, cs_put_by] at hP hD
        have hP : va_P D vwCl (cs_L (cs_put S r (cs_ln S r) (cs_fil (cs_by S r) (cs_by S o) (cs_ln S r) (i + 1))) ad cy) H := hP
        have hD : va_D (va_A (cs_L S ad cy) s.heap.size) (cs_L (cs_put S r (cs_ln S r) (cs_fil (cs_by S r) (cs_by S o) (cs_ln S r) (i + 1))) ad cy) := hD
        refine lv_iinc (v := nI (i + 1)) (lv' := [(5, .int (nI (i + 1))), (0, .ref (ad 0)), (1, .int (nI r)), (2, .int (nI o)), (3, .int (nI (cs_ln S o))), (4, .int (nI (cs_ln S r)))]) hx hb dX1_appendRow_59 hl (k := 5) rfl (cs_inc1 i) (by decide) rfl (fun ls hl => ?_)
        refine lv_goto (tgt := 32) hx hb dX1_appendRow_62 (by decide) ?_
        exact ih (i + 1) (by omega) H locs hP hD hS9 ls (lv_sub hl [1, 2, 3, 4, 5, 0] rfl)
  have e0 : (cs_put S r (cs_ln S r) (cs_fil (cs_by S r) (cs_by S o) (cs_ln S r) 0)) = S := cs_put_id
  exact loop (cs_ln S o) 0 (by omega) s.heap [] (by rw [e0]; exact hP) (by rw [e0]; exact hD) hS9 ls (lv_sub hl [3, 4, 5, 2, 1, 0] rfl)
set_option maxHeartbeats 4000000 in
set_option maxRecDepth 100000 in
theorem k_X1_setByte (l : Launch) (hlf : l.stackTraces = false) (D : va_G) (S : cs_St) (ad : Nat → Nat) (cy : Nat → ClassId) (sz : Nat) (hS : cs_ok S) (v u d : Int32) : cs_Xw l yX1_setByte wsX1_setByte ({ frames := 7, cells := 3, slots := 18, locals := 104 }) D (cs_tys cy) (cs_L S ad cy) sz [.ref (ad 0), .int v, .int u, .int d] (fun (_ : Unit) => cs_L (cs_sSet S v u d) ad cy) (fun rr _ => cs_kSet S v u d = 0 ∧ rr = cs_vByt S v u) (cs_E (cs_kSet S v u d) cs_IOB cs_IAE "") 3 18 := by
  refine vx_ofW (cc := cX1_setByte) (maxL := 5) (ret := (some .int)) (by decide) rfl ?_
  intro pg e s m args below meth c s₁ B hml hout hv
  obtain ⟨rfl, hsz, hE, hz9, hP, hK, hD0⟩ := hv
  subst hsz
  have hD := hD0.self (sz := s.heap.size)
  have hA : ∀ q : Nat, s.heap.size ≤ q → va_A (cs_L S ad cy) s.heap.size q := fun q h => Or.inr h
  have hS9 : va_S (va_A (cs_L S ad cy) s.heap.size) s.heap s.heap [] := va_S.rf
  have hz := hz9.narrow (B := fun q => s.heap.size ≤ q) (fun q h => Or.inr h)
  have hx := B.exec
  have hb := B.bytes
  have hr := B.returns
  have hts := atoms_spec (ws := wsX1_setByte) B.pre
  have hown : s.vm.findClass RX1 = some m.cls := findClass_of_methodNamed B.named
  have hlocks := B.notSynchronized
  have hl := lv_entry ([.ref (ad 0), .int v, .int u, .int d]) (n := 5) (Nat.le_of_ble_eq_true rfl)
  rw [lg_entry_eq]
  generalize (lg_sl ([.ref (ad 0), .int v, .int u, .int d]) ++ List.replicate (5 - (lg_sl ([.ref (ad 0), .int v, .int u, .int d])).length) Slot.unset).toArray = ls at hl ⊢
  have hl : lv_has ls 5 [(0, .ref (ad 0)), (1, .int v), (2, .int u), (3, .int d)] := hl
  have hinX1 : ∀ w ∈ wsX10, w ∈ wsX1_setByte := fun _ h => by unfold wsX1_setByte; exact List.mem_cons_of_mem _ (List.mem_append_left _ (List.mem_append_left _ (List.mem_append_right _ (h))))
  have h6 := hS.1
  refine lv_iload_n hx hb dX1_setByte_0 rfl (lv_at hl 1 rfl) ?_
  refine cs_xcallv (vx_runS (As := [.int v]) (rest := []) ⟨hx, hb, hml, hown, hts⟩ (k_X1_requireRow l hlf D S ad cy v) (va_cwS 1 hts gX1_setByte_X1_requireRow rfl rfl rfl (by decide +kernel) ⟨(Nat.le_of_ble_eq_true rfl), (Nat.le_of_ble_eq_true rfl)⟩) ⟨cs_Bx.blind, cs_Bx.at hE hz cs_none hK⟩ rfl rfl hl.1 rfl (lv_room (Nat.le_of_ble_eq_true rfl)) dX1_setByte_1 ⟨(Nat.le_of_ble_eq_true rfl), (Nat.le_of_ble_eq_true rfl)⟩) (fun E ce q9 H1 h1 h2 h3 h4 h5 h6 => cs_xout hout hlocks (fun E h => Or.inl ⟨(by unfold cs_kSet; simp [cs_k1, cs_k2, cs_nS, cs_pl, cs_bRow, cs_bSer, cs_bDef, h.2]), h.1⟩) (Nat.le_of_ble_eq_true rfl) (Nat.le_of_ble_eq_true rfl) E ce q9 H1 h1 h2 h3 h4 h5 h6) (fun okR => ?_)
  obtain ⟨r, hr4, rfl⟩ := cs_row_of okR
  have r31 : r < 2 ^ 31 := by omega
  have rc : cs_c (nI r) = r := cs_cI r31
  have hl8 := hS.2.2.1 r
  refine lv_aload_n hx hb dX1_setByte_4 rfl (lv_at hl 0 rfl) ?_
  refine lv_iload_n hx hb dX1_setByte_5 rfl (lv_at hl 1 rfl) ?_
  refine lv_iload_n hx hb dX1_setByte_6 rfl (lv_at hl 2 rfl) ?_
  have rc7 : (nI r).toNatClampNeg = r := rc
  refine cs_xcallv (vx_runV (As := [.int (nI r), .int u]) (rest := []) ⟨hx, hb, hml, hown, hts⟩ (k_X1_requireIndex l hlf D S ad cy hS r hr4 u) (cwV 2 hts gX1_setByte_X1_requireIndex rfl rfl rfl (by decide +kernel) ⟨(Nat.le_of_ble_eq_true rfl), (Nat.le_of_ble_eq_true rfl)⟩) ⟨cs_Bx.blind, va_recv hK hP (ci := 1) (q0 := 0) rfl rfl, cs_Bx.at hE hz hP hK⟩ rfl rfl hl.1 rfl (lv_room (Nat.le_of_ble_eq_true rfl)) dX1_setByte_7 ⟨(Nat.le_of_ble_eq_true rfl), (Nat.le_of_ble_eq_true rfl)⟩) (fun E ce q9 H1 h1 h2 h3 h4 h5 h6 => cs_xout hout hlocks (fun E h => Or.inl ⟨(by unfold cs_kSet; simp [cs_k1, cs_k2, cs_nS, cs_pl, cs_bRow, cs_bSer, cs_bDef, okR, rc, rc7, h.2]), h.1⟩) (Nat.le_of_ble_eq_true rfl) (Nat.le_of_ble_eq_true rfl) E ce q9 H1 h1 h2 h3 h4 h5 h6) (fun okI => ?_)
  obtain ⟨j, hj, rfl⟩ := cs_idx hl8 okI
  have jc : cs_c (nI j) = j := cs_cI (by omega)
  refine lv_iload_n hx hb dX1_setByte_10 rfl (lv_at hl 3 rfl) ?_
  refine cs_xcallv (vx_runS (As := [.int d]) (rest := []) ⟨hx, hb, hml, hown, hts⟩ (k_X1_requireByte l hlf D S ad cy d) (va_cwS 1 hts gX1_setByte_X1_requireByte rfl rfl rfl (by decide +kernel) ⟨(Nat.le_of_ble_eq_true rfl), (Nat.le_of_ble_eq_true rfl)⟩) ⟨cs_Bx.blind, cs_Bx.at hE hz cs_none hK⟩ rfl rfl hl.1 rfl (lv_room (Nat.le_of_ble_eq_true rfl)) dX1_setByte_11 ⟨(Nat.le_of_ble_eq_true rfl), (Nat.le_of_ble_eq_true rfl)⟩) (fun E ce q9 H1 h1 h2 h3 h4 h5 h6 => cs_xout hout hlocks (fun E h => Or.inr (Or.inl ⟨(by unfold cs_kSet; simp [cs_k1, cs_k2, cs_nS, cs_pl, cs_bRow, cs_bSer, cs_bDef, okR, rc, rc7, okI, jc, h.2]), h.1⟩)) (Nat.le_of_ble_eq_true rfl) (Nat.le_of_ble_eq_true rfl) E ce q9 H1 h1 h2 h3 h4 h5 h6) (fun okB => ?_)
  obtain ⟨b, hbz, rfl⟩ := cs_byte_of okB
  have b31 : b < 2 ^ 31 := by omega
  have bc : cs_c (nI b) = b := cs_cI b31
  have ek : cs_kSet S (nI r) (nI j) (nI b) = 0 := (by unfold cs_kSet; simp [cs_k1, cs_k2, cs_nS, cs_pl, cs_bRow, cs_bSer, cs_bDef, okR, rc, rc7, okI, jc, okB, bc])
  have es : cs_sSet S (nI r) (nI j) (nI b) = cs_put S r (cs_ln S r) (va_up (cs_by S r) j b) := by unfold cs_sSet; rw [if_pos ek, rc, jc, bc]
  refine lv_aload_n hx hb dX1_setByte_14 rfl (lv_at hl 0 rfl) ?_
  refine va_get (D := D) (ci := 1) (v := .ref (ad 2)) (C := RX1) (T := TX1) (N := 4) hx hb hts hinX1 hown hK hP 0 cs_L0 rfl 2 (by decide) (hts (.fieldLink RX1 21 "ChecksumLab" "rows" "[[I") (by decide +kernel)) (fun _ h9 => h9) rfl dX1_setByte_15 ?_
  refine lv_iload_n hx hb dX1_setByte_18 rfl (lv_at hl 1 rfl) ?_
  refine cs_aldA hx hb hK hP 2 4 cs_L2 rfl (k := r) (hr4) (by decide) dX1_setByte_19 ?_
  refine cs_topv (y := .ref (ad (4 + r))) (by rw [if_pos (hr4)]; rfl) ?_
  refine lv_iload_n hx hb dX1_setByte_20 rfl (lv_at hl 2 rfl) ?_
  refine cs_iald hx hb hK hP (4 + r) 0 (cs_Lr hr4) rfl (k := j) (by omega) (by decide) dX1_setByte_21 ?_
  refine cs_top (y := nI (cs_by S r j)) rfl ?_
  refine lv_istore (lv' := [(4, .int (nI (cs_by S r j))), (0, .ref (ad 0)), (1, .int (nI r)), (2, .int (nI j)), (3, .int (nI b))]) hx hb dX1_setByte_22 hl (by decide) rfl (fun ls hl => ?_)
  refine lv_aload_n hx hb dX1_setByte_24 rfl (lv_at hl 1 rfl) ?_
  refine va_get (D := D) (ci := 1) (v := .ref (ad 2)) (C := RX1) (T := TX1) (N := 4) hx hb hts hinX1 hown hK hP 0 cs_L0 rfl 2 (by decide) (hts (.fieldLink RX1 21 "ChecksumLab" "rows" "[[I") (by decide +kernel)) (fun _ h9 => h9) rfl dX1_setByte_25 ?_
  refine lv_iload_n hx hb dX1_setByte_28 rfl (lv_at hl 2 rfl) ?_
  refine cs_aldA hx hb hK hP 2 4 cs_L2 rfl (k := r) (hr4) (by decide) dX1_setByte_29 ?_
  refine cs_topv (y := .ref (ad (4 + r))) (by rw [if_pos (hr4)]; rfl) ?_
  refine lv_iload_n hx hb dX1_setByte_30 rfl (lv_at hl 3 rfl) ?_
  refine lv_iload_n hx hb dX1_setByte_31 rfl (lv_at hl 4 rfl) ?_
  refine cs_iast hx hb hK hP hD hS9 (4 + r) 0 (cs_Lr hr4) rfl (k := j) (by omega) (by decide) dX1_setByte_32 (fun H locs hP hD hS9 => ?_)
  rw [cs_LsetR hr4] at hP hD
  have hP : va_P D vwCl (cs_L (cs_put S r (cs_ln S r) (va_up (cs_by S r) j b)) ad cy) H := hP
  have hD : va_D (va_A (cs_L S ad cy) s.heap.size) (cs_L (cs_put S r (cs_ln S r) (va_up (cs_by S r) j b)) ad cy) := hD
  refine lv_iload hx hb dX1_setByte_33 (lv_at hl 0 rfl) ?_
  refine W.widen (k := 3) (n := 18) (Nat.le_of_ble_eq_true rfl) (Nat.le_of_ble_eq_true rfl) ?_
  exact vx_ret (W.iret (v := nI (cs_by S r j)) hx hb hr (fun t ht _ => ⟨nI (cs_by S r j), (), rfl, ⟨ek, by unfold cs_vByt; rw [rc, jc]⟩, by rw [ht, es]; exact hP, by rw [es]; exact hD, hS9.F ht⟩) hS9.2.2 dX1_setByte_35)
set_option maxHeartbeats 4000000 in
set_option maxRecDepth 100000 in
theorem k_X1_truncate (l : Launch) (hlf : l.stackTraces = false) (D : va_G) (S : cs_St) (ad : Nat → Nat) (cy : Nat → ClassId) (sz : Nat) (hS : cs_ok S) (v u : Int32) : cs_Xw l yX1_truncate wsX1_truncate ({ frames := 7, cells := 2, slots := 12, locals := 102 }) D (cs_tys cy) (cs_L S ad cy) sz [.ref (ad 0), .int v, .int u] (fun (_ : Unit) => cs_L (cs_sTru S v u) ad cy) (fun rr _ => cs_kTru S v u = 0 ∧ rr = cs_vTru S v u) (cs_E (cs_kTru S v u) cs_IOB cs_IAE "") 2 12 := by
  refine vx_ofW (cc := cX1_truncate) (maxL := 4) (ret := (some .int)) (by decide) rfl ?_
  intro pg e s m args below meth c s₁ B hml hout hv
  obtain ⟨rfl, hsz, hE, hz9, hP, hK, hD0⟩ := hv
  subst hsz
  have hD := hD0.self (sz := s.heap.size)
  have hA : ∀ q : Nat, s.heap.size ≤ q → va_A (cs_L S ad cy) s.heap.size q := fun q h => Or.inr h
  have hS9 : va_S (va_A (cs_L S ad cy) s.heap.size) s.heap s.heap [] := va_S.rf
  have hz := hz9.narrow (B := fun q => s.heap.size ≤ q) (fun q h => Or.inr h)
  have hx := B.exec
  have hb := B.bytes
  have hr := B.returns
  have hts := atoms_spec (ws := wsX1_truncate) B.pre
  have hown : s.vm.findClass RX1 = some m.cls := findClass_of_methodNamed B.named
  have hlocks := B.notSynchronized
  have hl := lv_entry ([.ref (ad 0), .int v, .int u]) (n := 4) (Nat.le_of_ble_eq_true rfl)
  rw [lg_entry_eq]
  generalize (lg_sl ([.ref (ad 0), .int v, .int u]) ++ List.replicate (4 - (lg_sl ([.ref (ad 0), .int v, .int u])).length) Slot.unset).toArray = ls at hl ⊢
  have hl : lv_has ls 4 [(0, .ref (ad 0)), (1, .int v), (2, .int u)] := hl
  have hinX1 : ∀ w ∈ wsX10, w ∈ wsX1_truncate := fun _ h => by unfold wsX1_truncate; exact List.mem_cons_of_mem _ (List.mem_append_left _ (List.mem_append_left _ (List.mem_append_right _ (h))))
  have h6 := hS.1
  refine lv_iload_n hx hb dX1_truncate_0 rfl (lv_at hl 1 rfl) ?_
  refine cs_xcallv (vx_runS (As := [.int v]) (rest := []) ⟨hx, hb, hml, hown, hts⟩ (k_X1_requireRow l hlf D S ad cy v) (va_cwS 1 hts gX1_truncate_X1_requireRow rfl rfl rfl (by decide +kernel) ⟨(Nat.le_of_ble_eq_true rfl), (Nat.le_of_ble_eq_true rfl)⟩) ⟨cs_Bx.blind, cs_Bx.at hE hz cs_none hK⟩ rfl rfl hl.1 rfl (lv_room (Nat.le_of_ble_eq_true rfl)) dX1_truncate_1 ⟨(Nat.le_of_ble_eq_true rfl), (Nat.le_of_ble_eq_true rfl)⟩) (fun E ce q9 H1 h1 h2 h3 h4 h5 h6 => cs_xout hout hlocks (fun E h => Or.inl ⟨(by unfold cs_kTru; simp [cs_k1, cs_k2, cs_nS, cs_pl, cs_bRow, cs_bSer, cs_bDef, h.2]), h.1⟩) (Nat.le_of_ble_eq_true rfl) (Nat.le_of_ble_eq_true rfl) E ce q9 H1 h1 h2 h3 h4 h5 h6) (fun okR => ?_)
  obtain ⟨r, hr4, rfl⟩ := cs_row_of okR
  have r31 : r < 2 ^ 31 := by omega
  have rc : cs_c (nI r) = r := cs_cI r31
  have hl8 := hS.2.2.1 r
  refine lv_aload_n hx hb dX1_truncate_4 rfl (lv_at hl 0 rfl) ?_
  refine va_get (D := D) (ci := 1) (v := .ref (ad 3)) (C := RX1) (T := TX1) (N := 4) hx hb hts hinX1 hown hK hP 0 cs_L0 rfl 3 (by decide) (hts (.fieldLink RX1 24 "ChecksumLab" "sizes" "[I") (by decide +kernel)) (fun _ h9 => h9) rfl dX1_truncate_5 ?_
  refine lv_iload_n hx hb dX1_truncate_8 rfl (lv_at hl 1 rfl) ?_
  refine cs_iald hx hb hK hP 3 0 cs_L3 rfl (k := r) (hr4) (by decide) dX1_truncate_9 ?_
  refine cs_top (y := nI (cs_ln S r)) rfl ?_
  refine lv_istore_n (lv' := [(3, .int (nI (cs_ln S r))), (0, .ref (ad 0)), (1, .int (nI r)), (2, .int u)]) hx hb dX1_truncate_10 rfl hl (by decide) rfl (fun ls hl => ?_)
  refine lv_iload_n hx hb dX1_truncate_11 rfl (lv_at hl 3 rfl) ?_
  refine lv_if_lt (tgt := 20) hx hb dX1_truncate_12 (by decide) (fun c_12 => ?_) (fun c_12 => ?_)
  · have h0 : cs_in u 0 (nI (cs_ln S r)) = false := cs_inF1 (Int32.not_le.mpr c_12)
    exact cs_throw (cls := cs_IAE) (text := "length is out of range") hx hb hlf hown hts (by decide +kernel) cs_at1 hE hE.2.1.1 cs_ot1 (fun _ h => by unfold wsX1_truncate; exact List.mem_cons_of_mem _ (List.mem_append_left _ (List.mem_append_right _ (h)))) (by decide +kernel) (by decide +kernel) (hE.2.2 (95, "length is out of range") (by decide +kernel)) hz (hl.1.trans hml.symm) dX1_truncate_20 dX1_truncate_23 dX1_truncate_24 dX1_truncate_26 dX1_truncate_29 hout (Nat.le_of_ble_eq_true rfl) (Nat.le_of_ble_eq_true rfl) (Nat.le_of_ble_eq_true rfl) (Nat.le_of_ble_eq_true rfl) hlocks (Or.inr (Or.inl ⟨(by unfold cs_kTru; simp [cs_k1, cs_k2, cs_nS, cs_pl, cs_bRow, cs_bSer, cs_bDef, okR, rc, h0]), rfl⟩)) (Nat.le_of_ble_eq_true rfl) (Nat.le_of_ble_eq_true rfl)
  · refine lv_iload_n hx hb dX1_truncate_15 rfl (lv_at hl 3 rfl) ?_
    refine lv_iload_n hx hb dX1_truncate_16 rfl (lv_at hl 0 rfl) ?_
    refine lv_icmp_le (tgt := 30) hx hb dX1_truncate_17 (by decide) (fun c_17 => ?_) (fun c_17 => ?_)
    · have okU : cs_in u 0 (nI (cs_ln S r)) = true := cs_inT (Int32.not_lt.mp c_12) c_17
      obtain ⟨t0, ht9, rfl⟩ := cs_in_of (by omega) okU
      have tc : cs_c (nI t0) = t0 := cs_cI (by omega)
      have ek : cs_kTru S (nI r) (nI t0) = 0 := (by unfold cs_kTru; simp [cs_k1, cs_k2, cs_nS, cs_pl, cs_bRow, cs_bSer, cs_bDef, okR, rc, okU])
      have es : cs_sTru S (nI r) (nI t0) = cs_put S r t0 (cs_by S r) := by unfold cs_sTru; rw [if_pos ek, rc, tc]
      refine lv_aload_n hx hb dX1_truncate_30 rfl (lv_at hl 1 rfl) ?_
      refine va_get (D := D) (ci := 1) (v := .ref (ad 3)) (C := RX1) (T := TX1) (N := 4) hx hb hts hinX1 hown hK hP 0 cs_L0 rfl 3 (by decide) (hts (.fieldLink RX1 24 "ChecksumLab" "sizes" "[I") (by decide +kernel)) (fun _ h9 => h9) rfl dX1_truncate_31 ?_
      refine lv_iload_n hx hb dX1_truncate_34 rfl (lv_at hl 2 rfl) ?_
      refine lv_iload_n hx hb dX1_truncate_35 rfl (lv_at hl 3 rfl) ?_
      refine cs_iast hx hb hK hP hD hS9 3 0 cs_L3 rfl (k := r) (hr4) (by decide) dX1_truncate_36 (fun H locs hP hD hS9 => ?_)
      rw [cs_LsetL] at hP hD
      have hP : va_P D vwCl (cs_L (cs_put S r t0 (cs_by S r)) ad cy) H := hP
      have hD : va_D (va_A (cs_L S ad cy) s.heap.size) (cs_L (cs_put S r t0 (cs_by S r)) ad cy) := hD
      refine lv_iload_n hx hb dX1_truncate_37 rfl (lv_at hl 0 rfl) ?_
      refine lv_iload_n hx hb dX1_truncate_38 rfl (lv_at hl 3 rfl) ?_
      refine lv_isub hx hb dX1_truncate_39 ?_
      refine W.widen (k := 2) (n := 12) (Nat.le_of_ble_eq_true rfl) (Nat.le_of_ble_eq_true rfl) ?_
      exact vx_ret (W.iret (v := (nI (cs_ln S r)) - (nI t0)) hx hb hr (fun t ht _ => ⟨(nI (cs_ln S r)) - (nI t0), (), rfl, ⟨ek, by unfold cs_vTru; rw [rc]⟩, by rw [ht, es]; exact hP, by rw [es]; exact hD, hS9.F ht⟩) hS9.2.2 dX1_truncate_40)
    · have h0 : cs_in u 0 (nI (cs_ln S r)) = false := cs_inF2 c_17
      exact cs_throw (cls := cs_IAE) (text := "length is out of range") hx hb hlf hown hts (by decide +kernel) cs_at1 hE hE.2.1.1 cs_ot1 (fun _ h => by unfold wsX1_truncate; exact List.mem_cons_of_mem _ (List.mem_append_left _ (List.mem_append_right _ (h)))) (by decide +kernel) (by decide +kernel) (hE.2.2 (95, "length is out of range") (by decide +kernel)) hz (hl.1.trans hml.symm) dX1_truncate_20 dX1_truncate_23 dX1_truncate_24 dX1_truncate_26 dX1_truncate_29 hout (Nat.le_of_ble_eq_true rfl) (Nat.le_of_ble_eq_true rfl) (Nat.le_of_ble_eq_true rfl) (Nat.le_of_ble_eq_true rfl) hlocks (Or.inr (Or.inl ⟨(by unfold cs_kTru; simp [cs_k1, cs_k2, cs_nS, cs_pl, cs_bRow, cs_bSer, cs_bDef, okR, rc, h0]), rfl⟩)) (Nat.le_of_ble_eq_true rfl) (Nat.le_of_ble_eq_true rfl)
