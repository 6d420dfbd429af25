set_option maxHeartbeats 4000000 in
set_option maxRecDepth 100000 in
theorem k_X1_partSum (l : Launch) (D : va_G) (S : cs_St) (ad : Nat → Nat) (cy : Nat → ClassId) (hS : cs_ok S) (k : Nat) (hk : k < cs_n S) (r : Nat) (hr4 : r < 4) (fr to : Nat) (hft : fr ≤ to) (ht : to ≤ 256) : cs_Mi l yX1_partSum wsX1_partSum ({ frames := 3, cells := 0, slots := 0, locals := 69 }) D (cs_tys cy) (cs_L S ad cy) [.ref (ad 0), .ref (ad (8 + k)), .int (nI r), .int (nI fr), .int (nI to)] (cs_so (cs_ro S k) (cs_w S k) (cs_ps (cs_w S k) (cs_p S k) (cs_ri S k) (cs_i S k) (cs_by S r) fr (to - fr)) ^^^ cs_x S k) := by
  refine Met.ofW (cc := cX1_partSum) (maxL := 7) (ret := (some .int)) (by decide) rfl ?_
  intro pg e s m args below meth c s₁ B hml hv
  obtain ⟨rfl, hE, hP, hK⟩ := hv
  have hx := B.exec
  have hb := B.bytes
  have hr := B.returns
  have hts := atoms_spec (ws := wsX1_partSum) B.pre
  have hown : s.vm.findClass RX1 = some m.cls := findClass_of_methodNamed B.named
  have hlocks := B.notSynchronized
  have hl := lv_entry ([.ref (ad 0), .ref (ad (8 + k)), .int (nI r), .int (nI fr), .int (nI to)]) (n := 7) (Nat.le_of_ble_eq_true rfl)
  rw [lg_entry_eq]
  generalize (lg_sl ([.ref (ad 0), .ref (ad (8 + k)), .int (nI r), .int (nI fr), .int (nI to)]) ++ List.replicate (7 - (lg_sl ([.ref (ad 0), .ref (ad (8 + k)), .int (nI r), .int (nI fr), .int (nI to)])).length) Slot.unset).toArray = ls at hl ⊢
  have hl : lv_has ls 7 [(0, .ref (ad 0)), (1, .ref (ad (8 + k))), (2, .int (nI r)), (3, .int (nI fr)), (4, .int (nI to))] := hl
  have hinX1 : ∀ w ∈ wsX10, w ∈ wsX1_partSum := fun _ h => by unfold wsX1_partSum; exact List.mem_cons_of_mem _ (List.mem_append_right _ (h))
  have hinX0 : ∀ w ∈ wsX00, w ∈ wsX1_partSum := fun _ h => by unfold wsX1_partSum; exact List.mem_cons_of_mem _ (List.mem_append_left _ (List.mem_append_right _ (h)))
  obtain ⟨hw1, hw2⟩ := hS.2.1 k hk
  refine lv_aload_n hx hb dX1_partSum_0 rfl (lv_at hl 1 rfl) ?_
  refine va_get (D := D) (ci := 0) (v := .int (cs_i S k)) (C := RX0) (T := TX0) (N := 8) hx hb hts hinX0 hown hK hP (8 + k) (cs_Lm hk) rfl 2 (by decide) (hts (.fieldLink RX1 51 "ChecksumLab$Model" "init" "I") (by decide +kernel)) (fun _ h9 => h9) rfl dX1_partSum_1 ?_
  refine lv_istore (lv' := [(5, .int (cs_i S k)), (0, .ref (ad 0)), (1, .ref (ad (8 + k))), (2, .int (nI r)), (3, .int (nI fr)), (4, .int (nI to))]) hx hb dX1_partSum_4 hl (by decide) rfl (fun ls hl => ?_)
  refine lv_iload_n hx hb dX1_partSum_6 rfl (lv_at hl 4 rfl) ?_
  refine lv_istore (lv' := [(6, .int (nI fr)), (5, .int (cs_i S k)), (0, .ref (ad 0)), (1, .ref (ad (8 + k))), (2, .int (nI r)), (3, .int (nI fr)), (4, .int (nI to))]) hx hb dX1_partSum_7 hl (by decide) rfl (fun ls hl => ?_)
  have loop : ∀ (n j : Nat), fr + j + n = to → ∀ ls : Array Slot, lv_has ls 7 [(0, .ref (ad 0)), (1, .ref (ad (8 + k))), (2, .int (nI r)), (4, .int (nI to)), (5, .int (cs_ps (cs_w S k) (cs_p S k) (cs_ri S k) (cs_i S k) (cs_by S r) fr j)), (6, .int (nI (fr + j)))] → W pg l e (headSpec wsX1_partSum ({ frames := 3, cells := 0, slots := 0, locals := 69 })).room s m [Value.ref (ad 0), Value.ref (ad (8 + k)), Value.int (nI r), Value.int (nI fr), Value.int (nI to)].toArray below meth c s.heap [] 0 0 (MQ below (vp_Si (fun rr => rr = cs_so (cs_ro S k) (cs_w S k) (cs_ps (cs_w S k) (cs_p S k) (cs_ri S k) (cs_i S k) (cs_by S r) fr (to - fr)) ^^^ cs_x S k)) [Value.ref (ad 0), Value.ref (ad (8 + k)), Value.int (nI r), Value.int (nI fr), Value.int (nI to)].toArray s 0 0 (fun _ => False)) (F0 m 9 ls []) := by
    intro n
    induction n with
    | zero =>
      intro j hj ls hl
      obtain rfl : to = fr + j := by omega
      refine lv_iload hx hb dX1_partSum_9 (lv_at hl 5 rfl) ?_
      refine lv_iload hx hb dX1_partSum_11 (lv_at hl 3 rfl) ?_
      refine lv_icmp_ge (tgt := 39) hx hb dX1_partSum_13 (by decide) (fun c_13 => ?_) (fun c_13 => ?_)
      · refine lv_aload_n hx hb dX1_partSum_39 rfl (lv_at hl 1 rfl) ?_
        refine lv_iload hx hb dX1_partSum_40 (lv_at hl 4 rfl) ?_
        refine vp_callSi (W.runV (As := [.int (cs_ps (cs_w S k) (cs_p S k) (cs_ri S k) (cs_i S k) (cs_by S r) fr j)]) (rest := []) ⟨hx, hb, hml, hown, hts⟩ (k_X0_sumOfRegister l D (cs_tys cy) (ad (8 + k)) (cs_w S k) (cs_p S k) (cs_i S k) (cs_x S k) (cs_ri S k) (cs_ro S k) hw2 (cs_ps (cs_w S k) (cs_p S k) (cs_ri S k) (cs_i S k) (cs_by S r) fr j)) (cwV 1 hts gX1_partSum_X0_sumOfRegister rfl rfl rfl (by decide +kernel) ⟨Nat.le_of_ble_eq_true rfl, Nat.le_of_ble_eq_true rfl⟩) ⟨cs_B.blind, va_recv hK (cs_one hP (cs_Lm hk)) (ci := 0) (q0 := 0) rfl rfl, cs_B.at hE (cs_one hP (cs_Lm hk)) hK⟩ rfl rfl hl.1 rfl (lv_room (Nat.le_of_ble_eq_true rfl)) dX1_partSum_42 ⟨Nat.le_of_ble_eq_true rfl, Nat.le_of_ble_eq_true rfl⟩) (fun r_42 e_42 => ?_)
        subst e_42
        exact W.iret (v := cs_so (cs_ro S k) (cs_w S k) (cs_ps (cs_w S k) (cs_p S k) (cs_ri S k) (cs_i S k) (cs_by S r) fr j) ^^^ cs_x S k) hx hb hr (fun t ht _ => ⟨cs_so (cs_ro S k) (cs_w S k) (cs_ps (cs_w S k) (cs_p S k) (cs_ri S k) (cs_i S k) (cs_by S r) fr j) ^^^ cs_x S k, rfl, by rw [Nat.add_sub_cancel_left], ht⟩) (fun q h => by cases h) dX1_partSum_45
      · exact absurd (nI_le (a := fr + j) (b := fr + j) (Nat.le_refl _) (by omega)) c_13
    | succ n ih =>
      intro j hj ls hl
      refine lv_iload hx hb dX1_partSum_9 (lv_at hl 5 rfl) ?_
      refine lv_iload hx hb dX1_partSum_11 (lv_at hl 3 rfl) ?_
      refine lv_icmp_ge (tgt := 39) hx hb dX1_partSum_13 (by decide) (fun c_13 => ?_) (fun c_13 => ?_)
      · exact absurd c_13 (nI_ge (a := fr + j) (b := to) (by omega) (by omega))
      · refine lv_aload_n hx hb dX1_partSum_16 rfl (lv_at hl 1 rfl) ?_
        refine lv_iload hx hb dX1_partSum_17 (lv_at hl 4 rfl) ?_
        refine lv_aload_n hx hb dX1_partSum_19 rfl (lv_at hl 0 rfl) ?_
        refine va_get (D := D) (ci := 1) (v := .ref (ad 2)) (C := RX1) (T := TX1) (N := 4) hx hb hts hinX1 hown hK hP 0 cs_L0 rfl 2 (by decide) (hts (.fieldLink RX1 21 "ChecksumLab" "rows" "[[I") (by decide +kernel)) (fun _ h9 => h9) rfl dX1_partSum_20 ?_
        refine lv_iload_n hx hb dX1_partSum_23 rfl (lv_at hl 2 rfl) ?_
        refine cs_aldA hx hb hK hP 2 4 cs_L2 rfl (k := r) (hr4) (by decide) dX1_partSum_24 ?_
        refine cs_topv (y := .ref (ad (4 + r))) (by rw [if_pos (hr4)]; rfl) ?_
        refine lv_iload hx hb dX1_partSum_25 (lv_at hl 5 rfl) ?_
        refine cs_iald hx hb hK hP (4 + r) 0 (cs_Lr hr4) rfl (k := fr + j) (by omega) (by decide) dX1_partSum_27 ?_
        refine cs_top (y := nI (cs_by S r (fr + j))) rfl ?_
        refine vp_callSi (W.runV (As := [.int (cs_ps (cs_w S k) (cs_p S k) (cs_ri S k) (cs_i S k) (cs_by S r) fr j), .int (nI (cs_by S r (fr + j)))]) (rest := []) ⟨hx, hb, hml, hown, hts⟩ (k_X0_takeByte l D (cs_tys cy) (ad (8 + k)) (cs_w S k) (cs_p S k) (cs_i S k) (cs_x S k) (cs_ri S k) (cs_ro S k) (cs_ps (cs_w S k) (cs_p S k) (cs_ri S k) (cs_i S k) (cs_by S r) fr j) (nI (cs_by S r (fr + j)))) (cwV 2 hts gX1_partSum_X0_takeByte rfl rfl rfl (by decide +kernel) ⟨Nat.le_of_ble_eq_true rfl, Nat.le_of_ble_eq_true rfl⟩) ⟨cs_B.blind, va_recv hK (cs_one hP (cs_Lm hk)) (ci := 0) (q0 := 0) rfl rfl, cs_B.at hE (cs_one hP (cs_Lm hk)) hK⟩ rfl rfl hl.1 rfl (lv_room (Nat.le_of_ble_eq_true rfl)) dX1_partSum_28 ⟨Nat.le_of_ble_eq_true rfl, Nat.le_of_ble_eq_true rfl⟩) (fun r_28 e_28 => ?_)
        subst e_28
        refine lv_istore (lv' := [(5, .int (cs_tk (cs_w S k) (cs_p S k) (cs_ri S k) (cs_ps (cs_w S k) (cs_p S k) (cs_ri S k) (cs_i S k) (cs_by S r) fr j) (nI (cs_by S r (fr + j))))), (0, .ref (ad 0)), (1, .ref (ad (8 + k))), (2, .int (nI r)), (4, .int (nI to)), (6, .int (nI (fr + j)))]) hx hb dX1_partSum_31 hl (by decide) rfl (fun ls hl => ?_)
        refine lv_iinc (v := nI (fr + (j + 1))) (lv' := [(6, .int (nI (fr + (j + 1)))), (5, .int (cs_tk (cs_w S k) (cs_p S k) (cs_ri S k) (cs_ps (cs_w S k) (cs_p S k) (cs_ri S k) (cs_i S k) (cs_by S r) fr j) (nI (cs_by S r (fr + j))))), (0, .ref (ad 0)), (1, .ref (ad (8 + k))), (2, .int (nI r)), (4, .int (nI to))]) hx hb dX1_partSum_33 hl (k := 5) rfl (cs_inc1 (fr + j)) (by decide) rfl (fun ls hl => ?_)
        refine lv_goto (tgt := 9) hx hb dX1_partSum_36 (by decide) ?_
        exact ih (j + 1) (by omega) ls (lv_sub hl [2, 3, 4, 5, 1, 0] rfl)
  exact loop (to - fr) 0 (by omega) ls (lv_sub hl [2, 3, 4, 6, 1, 0] rfl)
set_option maxHeartbeats 4000000 in
set_option maxRecDepth 100000 in
theorem k_X1_byteAt (l : Launch) (hlf : l.stackTraces = false) (D : va_G) (S : cs_St) (ad : Nat → Nat) (cy : Nat → ClassId) (hS : cs_ok S) (v u : Int32) : cs_Xi l yX1_byteAt wsX1_byteAt ({ frames := 7, cells := 2, slots := 12, locals := 104 }) D (cs_tys cy) (cs_L S ad cy) [.ref (ad 0), .int v, .int u] (fun rr => cs_k1 (cs_pl S v u) = 0 ∧ rr = cs_vByt S v u) (cs_E (cs_k1 (cs_pl S v u)) cs_IOB "" "") 2 12 := by
  refine vx_ofW (cc := cX1_byteAt) (maxL := 3) (ret := (some .int)) (by decide) rfl ?_
  intro pg e s m args below meth c s₁ B hml hout hv
  obtain ⟨rfl, hE, hz, hP, hK⟩ := hv
  have hx := B.exec
  have hb := B.bytes
  have hr := B.returns
  have hts := atoms_spec (ws := wsX1_byteAt) B.pre
  have hown : s.vm.findClass RX1 = some m.cls := findClass_of_methodNamed B.named
  have hlocks := B.notSynchronized
  have hl := lv_entry ([.ref (ad 0), .int v, .int u]) (n := 3) (Nat.le_of_ble_eq_true rfl)
  rw [lg_entry_eq]
  generalize (lg_sl ([.ref (ad 0), .int v, .int u]) ++ List.replicate (3 - (lg_sl ([.ref (ad 0), .int v, .int u])).length) Slot.unset).toArray = ls at hl ⊢
  have hl : lv_has ls 3 [(0, .ref (ad 0)), (1, .int v), (2, .int u)] := hl
  have hinX1 : ∀ w ∈ wsX10, w ∈ wsX1_byteAt := fun _ h => by unfold wsX1_byteAt; exact List.mem_cons_of_mem _ (List.mem_append_left _ (List.mem_append_right _ (h)))
  have h6 := hS.1
  refine lv_iload_n hx hb dX1_byteAt_0 rfl (lv_at hl 1 rfl) ?_
  refine cs_xcallv (vx_runS (As := [.int v]) (rest := []) ⟨hx, hb, hml, hown, hts⟩ (k_X1_requireRow l hlf D S ad cy v) (va_cwS 1 hts gX1_byteAt_X1_requireRow rfl rfl rfl (by decide +kernel) ⟨(Nat.le_of_ble_eq_true rfl), (Nat.le_of_ble_eq_true rfl)⟩) ⟨cs_Bx.blind, cs_Bx.at hE hz cs_none hK⟩ rfl rfl hl.1 rfl (lv_room (Nat.le_of_ble_eq_true rfl)) dX1_byteAt_1 ⟨(Nat.le_of_ble_eq_true rfl), (Nat.le_of_ble_eq_true rfl)⟩) (fun E ce q9 H1 h1 h2 h3 h4 h5 h6 => cs_xout hout hlocks (fun E h => Or.inl ⟨(by unfold cs_k1; simp [cs_k1, cs_k2, cs_nS, cs_pl, cs_bRow, cs_bSer, cs_bDef, h.2]), h.1⟩) (Nat.le_of_ble_eq_true rfl) (Nat.le_of_ble_eq_true rfl) E ce q9 H1 h1 h2 h3 h4 h5 h6) (fun okR => ?_)
  obtain ⟨r, hr4, rfl⟩ := cs_row_of okR
  have r31 : r < 2 ^ 31 := by omega
  have rc : cs_c (nI r) = r := cs_cI r31
  have hl8 := hS.2.2.1 r
  refine lv_aload_n hx hb dX1_byteAt_4 rfl (lv_at hl 0 rfl) ?_
  refine lv_iload_n hx hb dX1_byteAt_5 rfl (lv_at hl 1 rfl) ?_
  refine lv_iload_n hx hb dX1_byteAt_6 rfl (lv_at hl 2 rfl) ?_
  have rc7 : (nI r).toNatClampNeg = r := rc
  refine cs_xcallv (vx_runV (As := [.int (nI r), .int u]) (rest := []) ⟨hx, hb, hml, hown, hts⟩ (k_X1_requireIndex l hlf D S ad cy hS r hr4 u) (cwV 2 hts gX1_byteAt_X1_requireIndex rfl rfl rfl (by decide +kernel) ⟨(Nat.le_of_ble_eq_true rfl), (Nat.le_of_ble_eq_true rfl)⟩) ⟨cs_Bx.blind, va_recv hK hP (ci := 1) (q0 := 0) rfl rfl, cs_Bx.at hE hz hP hK⟩ rfl rfl hl.1 rfl (lv_room (Nat.le_of_ble_eq_true rfl)) dX1_byteAt_7 ⟨(Nat.le_of_ble_eq_true rfl), (Nat.le_of_ble_eq_true rfl)⟩) (fun E ce q9 H1 h1 h2 h3 h4 h5 h6 => cs_xout hout hlocks (fun E h => Or.inl ⟨(by unfold cs_k1; simp [cs_k1, cs_k2, cs_nS, cs_pl, cs_bRow, cs_bSer, cs_bDef, okR, rc, rc7, h.2]), h.1⟩) (Nat.le_of_ble_eq_true rfl) (Nat.le_of_ble_eq_true rfl) E ce q9 H1 h1 h2 h3 h4 h5 h6) (fun okI => ?_)
  obtain ⟨j, hj, rfl⟩ := cs_idx (hS.2.2.1 r) okI
  have jc : cs_c (nI j) = j := cs_cI (by omega)
  refine lv_aload_n hx hb dX1_byteAt_10 rfl (lv_at hl 0 rfl) ?_
  refine va_get (D := D) (ci := 1) (v := .ref (ad 2)) (C := RX1) (T := TX1) (N := 4) hx hb hts hinX1 hown hK hP 0 cs_L0 rfl 2 (by decide) (hts (.fieldLink RX1 21 "ChecksumLab" "rows" "[[I") (by decide +kernel)) (fun _ h9 => h9) rfl dX1_byteAt_11 ?_
  refine lv_iload_n hx hb dX1_byteAt_14 rfl (lv_at hl 1 rfl) ?_
  refine cs_aldA hx hb hK hP 2 4 cs_L2 rfl (k := r) (hr4) (by decide) dX1_byteAt_15 ?_
  refine cs_topv (y := .ref (ad (4 + r))) (by rw [if_pos (hr4)]; rfl) ?_
  refine lv_iload_n hx hb dX1_byteAt_16 rfl (lv_at hl 2 rfl) ?_
  refine cs_iald hx hb hK hP (4 + r) 0 (cs_Lr hr4) rfl (k := j) (by omega) (by decide) dX1_byteAt_17 ?_
  refine cs_top (y := nI (cs_by S r j)) rfl ?_
  refine W.widen (k := 2) (n := 12) (Nat.le_of_ble_eq_true rfl) (Nat.le_of_ble_eq_true rfl) ?_
  exact vx_ret (W.iret (v := nI (cs_by S r j)) hx hb hr (fun t ht _ => ⟨nI (cs_by S r j), rfl, ⟨by unfold cs_k1; simp [cs_k1, cs_k2, cs_nS, cs_pl, cs_bRow, cs_bSer, cs_bDef, okR, rc, rc7, okI, jc], by unfold cs_vByt; rw [rc, jc]⟩, ht⟩) (fun q h => by cases h) dX1_byteAt_18)
set_option maxHeartbeats 4000000 in
set_option maxRecDepth 100000 in
theorem k_X1_sum (l : Launch) (hlf : l.stackTraces = false) (D : va_G) (S : cs_St) (ad : Nat → Nat) (cy : Nat → ClassId) (hS : cs_ok S) (v u : Int32) : cs_Xi l yX1_sum wsX1_sum ({ frames := 7, cells := 2, slots := 12, locals := 103 }) D (cs_tys cy) (cs_L S ad cy) [.ref (ad 0), .int v, .int u] (fun rr => cs_k1 (cs_M S v && cs_in u 0 3) = 0 ∧ rr = cs_vSum S v u) (cs_E (cs_k1 (cs_M S v && cs_in u 0 3)) cs_IOB "" "") 2 12 := by
  refine vx_ofW (cc := cX1_sum) (maxL := 4) (ret := (some .int)) (by decide) rfl ?_
  intro pg e s m args below meth c s₁ B hml hout hv
  obtain ⟨rfl, hE, hz, hP, hK⟩ := hv
  have hx := B.exec
  have hb := B.bytes
  have hr := B.returns
  have hts := atoms_spec (ws := wsX1_sum) B.pre
  have hown : s.vm.findClass RX1 = some m.cls := findClass_of_methodNamed B.named
  have hlocks := B.notSynchronized
  have hl := lv_entry ([.ref (ad 0), .int v, .int u]) (n := 4) (Nat.le_of_ble_eq_true rfl)
  rw [lg_entry_eq]
  generalize (lg_sl ([.ref (ad 0), .int v, .int u]) ++ List.replicate (4 - (lg_sl ([.ref (ad 0), .int v, .int u])).length) Slot.unset).toArray = ls at hl ⊢
  have hl : lv_has ls 4 [(0, .ref (ad 0)), (1, .int v), (2, .int u)] := hl
  have hinX1 : ∀ w ∈ wsX10, w ∈ wsX1_sum := fun _ h => by unfold wsX1_sum; exact List.mem_cons_of_mem _ (List.mem_append_left _ (List.mem_append_left _ (List.mem_append_right _ (h))))
  have hinX0 : ∀ w ∈ wsX00, w ∈ wsX1_sum := fun _ h => by unfold wsX1_sum; exact List.mem_cons_of_mem _ (List.mem_append_left _ (List.mem_append_right _ (h)))
  have h6 := hS.1
  refine lv_aload_n hx hb dX1_sum_0 rfl (lv_at hl 0 rfl) ?_
  refine lv_iload_n hx hb dX1_sum_1 rfl (lv_at hl 1 rfl) ?_
  refine cs_xcallr (vx_runV (As := [.int v]) (rest := []) ⟨hx, hb, hml, hown, hts⟩ (k_X1_findModel l hlf D S ad cy hS v) (cwV 1 hts gX1_sum_X1_findModel rfl rfl rfl (by decide +kernel) ⟨(Nat.le_of_ble_eq_true rfl), (Nat.le_of_ble_eq_true rfl)⟩) ⟨cs_Bx.blind, va_recv hK hP (ci := 1) (q0 := 0) rfl rfl, cs_Bx.at hE hz hP hK⟩ rfl rfl hl.1 rfl (lv_room (Nat.le_of_ble_eq_true rfl)) dX1_sum_2 ⟨(Nat.le_of_ble_eq_true rfl), (Nat.le_of_ble_eq_true rfl)⟩) (fun E ce q9 H1 h1 h2 h3 h4 h5 h6 => cs_xout hout hlocks (fun E h => Or.inl ⟨(by unfold cs_k1; simp [cs_k1, cs_k2, cs_nS, cs_pl, cs_bRow, cs_bSer, cs_bDef, h.2]), h.1⟩) (Nat.le_of_ble_eq_true rfl) (Nat.le_of_ble_eq_true rfl) E ce q9 H1 h1 h2 h3 h4 h5 h6) (fun okM => ?_)
  obtain ⟨k, hk, rfl⟩ := cs_mod_of hS okM
  have hk31 : k < 2 ^ 31 := by omega
  have hkc : cs_c (nI k) = k := cs_cI hk31
  obtain ⟨hw1, hw2⟩ := hS.2.1 k hk
  refine cs_topv (y := .ref (ad (8 + k))) (by rw [hkc]) ?_
  refine lv_astore_n (lv' := [(3, .ref (ad (8 + k))), (0, .ref (ad 0)), (1, .int (nI k)), (2, .int u)]) hx hb dX1_sum_5 rfl hl (by decide) rfl (fun ls hl => ?_)
  refine lv_iload_n hx hb dX1_sum_6 rfl (lv_at hl 3 rfl) ?_
  refine cs_xcallv (vx_runS (As := [.int u]) (rest := []) ⟨hx, hb, hml, hown, hts⟩ (k_X1_requireRow l hlf D S ad cy u) (va_cwS 1 hts gX1_sum_X1_requireRow rfl rfl rfl (by decide +kernel) ⟨(Nat.le_of_ble_eq_true rfl), (Nat.le_of_ble_eq_true rfl)⟩) ⟨cs_Bx.blind, cs_Bx.at hE hz cs_none hK⟩ rfl rfl hl.1 rfl (lv_room (Nat.le_of_ble_eq_true rfl)) dX1_sum_7 ⟨(Nat.le_of_ble_eq_true rfl), (Nat.le_of_ble_eq_true rfl)⟩) (fun E ce q9 H1 h1 h2 h3 h4 h5 h6 => cs_xout hout hlocks (fun E h => Or.inl ⟨(by unfold cs_k1; simp [cs_k1, cs_k2, cs_nS, cs_pl, cs_bRow, cs_bSer, cs_bDef, okM, hkc, h.2]), h.1⟩) (Nat.le_of_ble_eq_true rfl) (Nat.le_of_ble_eq_true rfl) E ce q9 H1 h1 h2 h3 h4 h5 h6) (fun okR => ?_)
  obtain ⟨r, hr4, rfl⟩ := cs_row_of okR
  have r31 : r < 2 ^ 31 := by omega
  have rc : cs_c (nI r) = r := cs_cI r31
  have hl8 := hS.2.2.1 r
  refine lv_aload_n hx hb dX1_sum_10 rfl (lv_at hl 1 rfl) ?_
  refine lv_aload_n hx hb dX1_sum_11 rfl (lv_at hl 0 rfl) ?_
  refine lv_iload_n hx hb dX1_sum_12 rfl (lv_at hl 3 rfl) ?_
  refine lv_iconst (v := 0) hx hb dX1_sum_13 (by decide) ?_
  refine lv_aload_n hx hb dX1_sum_14 rfl (lv_at hl 1 rfl) ?_
  refine va_get (D := D) (ci := 1) (v := .ref (ad 3)) (C := RX1) (T := TX1) (N := 4) hx hb hts hinX1 hown hK hP 0 cs_L0 rfl 3 (by decide) (hts (.fieldLink RX1 24 "ChecksumLab" "sizes" "[I") (by decide +kernel)) (fun _ h9 => h9) rfl dX1_sum_15 ?_
  refine lv_iload_n hx hb dX1_sum_18 rfl (lv_at hl 3 rfl) ?_
  refine cs_iald hx hb hK hP 3 0 cs_L3 rfl (k := r) (hr4) (by decide) dX1_sum_19 ?_
  refine cs_top (y := nI (cs_ln S r)) rfl ?_
  refine vp_callSi (W.runV (As := [.ref (ad (8 + k)), .int (nI r), .int (nI 0), .int (nI (cs_ln S r))]) (rest := []) ⟨hx, hb, hml, hown, hts⟩ (k_X1_partSum l D S ad cy hS k hk r hr4 0 (cs_ln S r) (Nat.zero_le _) (hl8)) (cwV 4 hts gX1_sum_X1_partSum rfl rfl rfl (by decide +kernel) ⟨Nat.le_of_ble_eq_true rfl, Nat.le_of_ble_eq_true rfl⟩) ⟨cs_B.blind, va_recv hK hP (ci := 1) (q0 := 0) rfl rfl, cs_B.at hE hP hK⟩ rfl rfl hl.1 rfl (lv_room (Nat.le_of_ble_eq_true rfl)) dX1_sum_20 ⟨Nat.le_of_ble_eq_true rfl, Nat.le_of_ble_eq_true rfl⟩) (fun r_20 e_20 => ?_)
  subst e_20
  refine W.widen (k := 2) (n := 12) (Nat.le_of_ble_eq_true rfl) (Nat.le_of_ble_eq_true rfl) ?_
  exact vx_ret (W.iret (v := cs_so (cs_ro S k) (cs_w S k) (cs_ps (cs_w S k) (cs_p S k) (cs_ri S k) (cs_i S k) (cs_by S r) 0 (cs_ln S r - 0)) ^^^ cs_x S k) hx hb hr (fun t ht _ => ⟨cs_so (cs_ro S k) (cs_w S k) (cs_ps (cs_w S k) (cs_p S k) (cs_ri S k) (cs_i S k) (cs_by S r) 0 (cs_ln S r - 0)) ^^^ cs_x S k, rfl, ⟨by unfold cs_k1; simp [cs_k1, cs_k2, cs_nS, cs_pl, cs_bRow, cs_bSer, cs_bDef, okM, hkc, okR, rc], by unfold cs_vSum cs_psS; rw [hkc, rc]; rfl⟩, ht⟩) (fun q h => by cases h) dX1_sum_23)
set_option maxHeartbeats 4000000 in
set_option maxRecDepth 100000 in
theorem k_X1_sumOfPart (l : Launch) (hlf : l.stackTraces = false) (D : va_G) (S : cs_St) (ad : Nat → Nat) (cy : Nat → ClassId) (hS : cs_ok S) (v u a b : Int32) : cs_Xi l yX1_sumOfPart wsX1_sumOfPart ({ frames := 7, cells := 3, slots := 18, locals := 103 }) D (cs_tys cy) (cs_L S ad cy) [.ref (ad 0), .int v, .int u, .int a, .int b] (fun rr => cs_kPar S v u a b = 0 ∧ rr = cs_vPar S v u a b) (cs_E (cs_kPar S v u a b) cs_IOB "" "") 3 18 := by
  refine vx_ofW (cc := cX1_sumOfPart) (maxL := 6) (ret := (some .int)) (by decide) rfl ?_
  intro pg e s m args below meth c s₁ B hml hout hv
  obtain ⟨rfl, hE, hz, hP, hK⟩ := hv
  have hx := B.exec
  have hb := B.bytes
  have hr := B.returns
  have hts := atoms_spec (ws := wsX1_sumOfPart) B.pre
  have hown : s.vm.findClass RX1 = some m.cls := findClass_of_methodNamed B.named
  have hlocks := B.notSynchronized
  have hl := lv_entry ([.ref (ad 0), .int v, .int u, .int a, .int b]) (n := 6) (Nat.le_of_ble_eq_true rfl)
  rw [lg_entry_eq]
  generalize (lg_sl ([.ref (ad 0), .int v, .int u, .int a, .int b]) ++ List.replicate (6 - (lg_sl ([.ref (ad 0), .int v, .int u, .int a, .int b])).length) Slot.unset).toArray = ls at hl ⊢
  have hl : lv_has ls 6 [(0, .ref (ad 0)), (1, .int v), (2, .int u), (3, .int a), (4, .int b)] := hl
  have hinX1 : ∀ w ∈ wsX10, w ∈ wsX1_sumOfPart := fun _ h => by unfold wsX1_sumOfPart; exact List.mem_cons_of_mem _ (List.mem_append_left _ (List.mem_append_left _ (List.mem_append_right _ (h))))
  have hinX0 : ∀ w ∈ wsX00, w ∈ wsX1_sumOfPart := fun _ h => by unfold wsX1_sumOfPart; exact List.mem_cons_of_mem _ (List.mem_append_left _ (List.mem_append_right _ (h)))
  have h6 := hS.1
  refine lv_aload_n hx hb dX1_sumOfPart_0 rfl (lv_at hl 0 rfl) ?_
  refine lv_iload_n hx hb dX1_sumOfPart_1 rfl (lv_at hl 1 rfl) ?_
  refine cs_xcallr (vx_runV (As := [.int v]) (rest := []) ⟨hx, hb, hml, hown, hts⟩ (k_X1_findModel l hlf D S ad cy hS v) (cwV 1 hts gX1_sumOfPart_X1_findModel rfl rfl rfl (by decide +kernel) ⟨(Nat.le_of_ble_eq_true rfl), (Nat.le_of_ble_eq_true rfl)⟩) ⟨cs_Bx.blind, va_recv hK hP (ci := 1) (q0 := 0) rfl rfl, cs_Bx.at hE hz hP hK⟩ rfl rfl hl.1 rfl (lv_room (Nat.le_of_ble_eq_true rfl)) dX1_sumOfPart_2 ⟨(Nat.le_of_ble_eq_true rfl), (Nat.le_of_ble_eq_true rfl)⟩) (fun E ce q9 H1 h1 h2 h3 h4 h5 h6 => cs_xout hout hlocks (fun E h => Or.inl ⟨(by unfold cs_kPar; simp [cs_k1, cs_k2, cs_nS, cs_pl, cs_bRow, cs_bSer, cs_bDef, h.2]), h.1⟩) (Nat.le_of_ble_eq_true rfl) (Nat.le_of_ble_eq_true rfl) E ce q9 H1 h1 h2 h3 h4 h5 h6) (fun okM => ?_)
  obtain ⟨k, hk, rfl⟩ := cs_mod_of hS okM
  have hk31 : k < 2 ^ 31 := by omega
  have hkc : cs_c (nI k) = k := cs_cI hk31
  obtain ⟨hw1, hw2⟩ := hS.2.1 k hk
  refine cs_topv (y := .ref (ad (8 + k))) (by rw [hkc]) ?_
  refine lv_astore (lv' := [(5, .ref (ad (8 + k))), (0, .ref (ad 0)), (1, .int (nI k)), (2, .int u), (3, .int a), (4, .int b)]) hx hb dX1_sumOfPart_5 hl (by decide) rfl (fun ls hl => ?_)
  refine lv_iload_n hx hb dX1_sumOfPart_7 rfl (lv_at hl 3 rfl) ?_
  refine cs_xcallv (vx_runS (As := [.int u]) (rest := []) ⟨hx, hb, hml, hown, hts⟩ (k_X1_requireRow l hlf D S ad cy u) (va_cwS 1 hts gX1_sumOfPart_X1_requireRow rfl rfl rfl (by decide +kernel) ⟨(Nat.le_of_ble_eq_true rfl), (Nat.le_of_ble_eq_true rfl)⟩) ⟨cs_Bx.blind, cs_Bx.at hE hz cs_none hK⟩ rfl rfl hl.1 rfl (lv_room (Nat.le_of_ble_eq_true rfl)) dX1_sumOfPart_8 ⟨(Nat.le_of_ble_eq_true rfl), (Nat.le_of_ble_eq_true rfl)⟩) (fun E ce q9 H1 h1 h2 h3 h4 h5 h6 => cs_xout hout hlocks (fun E h => Or.inl ⟨(by unfold cs_kPar; simp [cs_k1, cs_k2, cs_nS, cs_pl, cs_bRow, cs_bSer, cs_bDef, okM, hkc, h.2]), h.1⟩) (Nat.le_of_ble_eq_true rfl) (Nat.le_of_ble_eq_true rfl) E ce q9 H1 h1 h2 h3 h4 h5 h6) (fun okR => ?_)
  obtain ⟨r, hr4, rfl⟩ := cs_row_of okR
  have r31 : r < 2 ^ 31 := by omega
  have rc : cs_c (nI r) = r := cs_cI r31
  have hl8 := hS.2.2.1 r
  refine lv_iload_n hx hb dX1_sumOfPart_11 rfl (lv_at hl 4 rfl) ?_
  refine lv_if_lt (tgt := 32) hx hb dX1_sumOfPart_12 (by decide) (fun c_12 => ?_) (fun c_12 => ?_)
  · have h0 : cs_in a 0 (nI (cs_ln S r)) = false := cs_inF1 (Int32.not_le.mpr c_12)
    exact cs_throw (cls := cs_IOB) (text := "from or to is out of range") hx hb hlf hown hts (by decide +kernel) cs_at3 hE hE.2.1.2.2.1 cs_ot3 (fun _ h => by unfold wsX1_sumOfPart; exact List.mem_cons_of_mem _ (List.mem_append_right _ (h))) (by decide +kernel) (by decide +kernel) (hE.2.2 (103, "from or to is out of range") (by decide +kernel)) hz (hl.1.trans hml.symm) dX1_sumOfPart_32 dX1_sumOfPart_35 dX1_sumOfPart_36 dX1_sumOfPart_38 dX1_sumOfPart_41 hout (Nat.le_of_ble_eq_true rfl) (Nat.le_of_ble_eq_true rfl) (Nat.le_of_ble_eq_true rfl) (Nat.le_of_ble_eq_true rfl) hlocks (Or.inl ⟨(by unfold cs_kPar; simp [cs_k1, cs_k2, cs_nS, cs_pl, cs_bRow, cs_bSer, cs_bDef, okM, hkc, okR, rc, h0]), rfl⟩) (Nat.le_of_ble_eq_true rfl) (Nat.le_of_ble_eq_true rfl)
  · refine lv_iload_n hx hb dX1_sumOfPart_15 rfl (lv_at hl 4 rfl) ?_
    refine lv_iload hx hb dX1_sumOfPart_16 (lv_at hl 5 rfl) ?_
    refine lv_icmp_gt (tgt := 32) hx hb dX1_sumOfPart_18 (by decide) (fun c_18 => ?_) (fun c_18 => ?_)
    · have h0 : (cs_in a 0 (nI (cs_ln S r)) && cs_in b a (nI (cs_ln S r))) = false := by rw [cs_inF1 (v := b) (Int32.not_le.mpr c_18), Bool.and_false]
      rw [Bool.and_eq_false_iff] at h0
      exact cs_throw (cls := cs_IOB) (text := "from or to is out of range") hx hb hlf hown hts (by decide +kernel) cs_at3 hE hE.2.1.2.2.1 cs_ot3 (fun _ h => by unfold wsX1_sumOfPart; exact List.mem_cons_of_mem _ (List.mem_append_right _ (h))) (by decide +kernel) (by decide +kernel) (hE.2.2 (103, "from or to is out of range") (by decide +kernel)) hz (hl.1.trans hml.symm) dX1_sumOfPart_32 dX1_sumOfPart_35 dX1_sumOfPart_36 dX1_sumOfPart_38 dX1_sumOfPart_41 hout (Nat.le_of_ble_eq_true rfl) (Nat.le_of_ble_eq_true rfl) (Nat.le_of_ble_eq_true rfl) (Nat.le_of_ble_eq_true rfl) hlocks (Or.inl ⟨(cs_par1 (by rw [rc, Bool.and_assoc (c := cs_in b a _), Bool.and_eq_false_iff]; exact Or.inr (by rw [Bool.and_eq_false_iff]; exact h0))), rfl⟩) (Nat.le_of_ble_eq_true rfl) (Nat.le_of_ble_eq_true rfl)
    · refine lv_iload hx hb dX1_sumOfPart_21 (lv_at hl 5 rfl) ?_
      refine lv_aload_n hx hb dX1_sumOfPart_23 rfl (lv_at hl 1 rfl) ?_
      refine va_get (D := D) (ci := 1) (v := .ref (ad 3)) (C := RX1) (T := TX1) (N := 4) hx hb hts hinX1 hown hK hP 0 cs_L0 rfl 3 (by decide) (hts (.fieldLink RX1 24 "ChecksumLab" "sizes" "[I") (by decide +kernel)) (fun _ h9 => h9) rfl dX1_sumOfPart_24 ?_
      refine lv_iload_n hx hb dX1_sumOfPart_27 rfl (lv_at hl 3 rfl) ?_
      refine cs_iald hx hb hK hP 3 0 cs_L3 rfl (k := r) (hr4) (by decide) dX1_sumOfPart_28 ?_
      refine cs_top (y := nI (cs_ln S r)) rfl ?_
      refine lv_icmp_le (tgt := 42) hx hb dX1_sumOfPart_29 (by decide) (fun c_29 => ?_) (fun c_29 => ?_)
      · have h02 : cs_in b a (nI (cs_ln S r)) = true := cs_inT (Int32.not_lt.mp c_18) c_29
        have h01 : cs_in a 0 (nI (cs_ln S r)) = true := cs_inT (Int32.not_lt.mp c_12) (Int32.le_trans (Int32.not_lt.mp c_18) c_29)
        obtain ⟨fr, hf1, rfl⟩ := cs_in_of (n := cs_ln S r) (by omega) h01
        obtain ⟨to, ht1, ht2, rfl⟩ := cs_in2_of (a := fr) (n := cs_ln S r) (by omega) (by omega) h02
        refine lv_aload_n hx hb dX1_sumOfPart_42 rfl (lv_at hl 1 rfl) ?_
        refine lv_aload hx hb dX1_sumOfPart_43 (lv_at hl 0 rfl) ?_
        refine lv_iload_n hx hb dX1_sumOfPart_45 rfl (lv_at hl 3 rfl) ?_
        refine lv_iload_n hx hb dX1_sumOfPart_46 rfl (lv_at hl 4 rfl) ?_
        refine lv_iload hx hb dX1_sumOfPart_47 (lv_at hl 5 rfl) ?_
        refine vp_callSi (W.runV (As := [.ref (ad (8 + k)), .int (nI r), .int (nI fr), .int (nI to)]) (rest := []) ⟨hx, hb, hml, hown, hts⟩ (k_X1_partSum l D S ad cy hS k hk r hr4 fr to (ht1) (by omega)) (cwV 4 hts gX1_sumOfPart_X1_partSum rfl rfl rfl (by decide +kernel) ⟨Nat.le_of_ble_eq_true rfl, Nat.le_of_ble_eq_true rfl⟩) ⟨cs_B.blind, va_recv hK hP (ci := 1) (q0 := 0) rfl rfl, cs_B.at hE hP hK⟩ rfl rfl hl.1 rfl (lv_room (Nat.le_of_ble_eq_true rfl)) dX1_sumOfPart_49 ⟨Nat.le_of_ble_eq_true rfl, Nat.le_of_ble_eq_true rfl⟩) (fun r_49 e_49 => ?_)
        subst e_49
        refine W.widen (k := 3) (n := 18) (Nat.le_of_ble_eq_true rfl) (Nat.le_of_ble_eq_true rfl) ?_
        exact vx_ret (W.iret (v := cs_so (cs_ro S k) (cs_w S k) (cs_ps (cs_w S k) (cs_p S k) (cs_ri S k) (cs_i S k) (cs_by S r) fr (to - fr)) ^^^ cs_x S k) hx hb hr (fun t ht _ => ⟨cs_so (cs_ro S k) (cs_w S k) (cs_ps (cs_w S k) (cs_p S k) (cs_ri S k) (cs_i S k) (cs_by S r) fr (to - fr)) ^^^ cs_x S k, rfl, ⟨by unfold cs_kPar; simp [cs_k1, cs_k2, cs_nS, cs_pl, cs_bRow, cs_bSer, cs_bDef, okM, hkc, okR, rc, h01, h02], by unfold cs_vPar cs_psS; rw [hkc, rc, cs_cI (by omega), cs_cI (by omega)]⟩, ht⟩) (fun q h => by cases h) dX1_sumOfPart_52)
      · have h0 : cs_in b a (nI (cs_ln S r)) = false := cs_inF2 c_29
        exact cs_throw (cls := cs_IOB) (text := "from or to is out of range") hx hb hlf hown hts (by decide +kernel) cs_at3 hE hE.2.1.2.2.1 cs_ot3 (fun _ h => by unfold wsX1_sumOfPart; exact List.mem_cons_of_mem _ (List.mem_append_right _ (h))) (by decide +kernel) (by decide +kernel) (hE.2.2 (103, "from or to is out of range") (by decide +kernel)) hz (hl.1.trans hml.symm) dX1_sumOfPart_32 dX1_sumOfPart_35 dX1_sumOfPart_36 dX1_sumOfPart_38 dX1_sumOfPart_41 hout (Nat.le_of_ble_eq_true rfl) (Nat.le_of_ble_eq_true rfl) (Nat.le_of_ble_eq_true rfl) (Nat.le_of_ble_eq_true rfl) hlocks (Or.inl ⟨(cs_par1 (by rw [rc, h0, Bool.and_false])), rfl⟩) (Nat.le_of_ble_eq_true rfl) (Nat.le_of_ble_eq_true rfl)
set_option maxHeartbeats 4000000 in
set_option maxRecDepth 100000 in
theorem k_X1_remainder (l : Launch) (hlf : l.stackTraces = false) (D : va_G) (S : cs_St) (ad : Nat → Nat) (cy : Nat → ClassId) (hS : cs_ok S) (v u : Int32) : cs_Xi l yX1_remainder wsX1_remainder ({ frames := 7, cells := 2, slots := 12, locals := 103 }) D (cs_tys cy) (cs_L S ad cy) [.ref (ad 0), .int v, .int u] (fun rr => cs_k1 (cs_M S v && cs_in u 0 3) = 0 ∧ rr = cs_vRem S v u) (cs_E (cs_k1 (cs_M S v && cs_in u 0 3)) cs_IOB "" "") 2 12 := by
  refine vx_ofW (cc := cX1_remainder) (maxL := 7) (ret := (some .int)) (by decide) rfl ?_
  intro pg e s m args below meth c s₁ B hml hout hv
  obtain ⟨rfl, hE, hz, hP, hK⟩ := hv
  have hx := B.exec
  have hb := B.bytes
  have hr := B.returns
  have hts := atoms_spec (ws := wsX1_remainder) B.pre
  have hown : s.vm.findClass RX1 = some m.cls := findClass_of_methodNamed B.named
  have hlocks := B.notSynchronized
  have hl := lv_entry ([.ref (ad 0), .int v, .int u]) (n := 7) (Nat.le_of_ble_eq_true rfl)
  rw [lg_entry_eq]
  generalize (lg_sl ([.ref (ad 0), .int v, .int u]) ++ List.replicate (7 - (lg_sl ([.ref (ad 0), .int v, .int u])).length) Slot.unset).toArray = ls at hl ⊢
  have hl : lv_has ls 7 [(0, .ref (ad 0)), (1, .int v), (2, .int u)] := hl
  have hinX1 : ∀ w ∈ wsX10, w ∈ wsX1_remainder := fun _ h => by unfold wsX1_remainder; exact List.mem_cons_of_mem _ (List.mem_append_left _ (List.mem_append_left _ (List.mem_append_right _ (h))))
  have hinX0 : ∀ w ∈ wsX00, w ∈ wsX1_remainder := fun _ h => by unfold wsX1_remainder; exact List.mem_cons_of_mem _ (List.mem_append_left _ (List.mem_append_right _ (h)))
  have h6 := hS.1
  refine lv_aload_n hx hb dX1_remainder_0 rfl (lv_at hl 0 rfl) ?_
  refine lv_iload_n hx hb dX1_remainder_1 rfl (lv_at hl 1 rfl) ?_
  refine cs_xcallr (vx_runV (As := [.int v]) (rest := []) ⟨hx, hb, hml, hown, hts⟩ (k_X1_findModel l hlf D S ad cy hS v) (cwV 1 hts gX1_remainder_X1_findModel rfl rfl rfl (by decide +kernel) ⟨(Nat.le_of_ble_eq_true rfl), (Nat.le_of_ble_eq_true rfl)⟩) ⟨cs_Bx.blind, va_recv hK hP (ci := 1) (q0 := 0) rfl rfl, cs_Bx.at hE hz hP hK⟩ rfl rfl hl.1 rfl (lv_room (Nat.le_of_ble_eq_true rfl)) dX1_remainder_2 ⟨(Nat.le_of_ble_eq_true rfl), (Nat.le_of_ble_eq_true rfl)⟩) (fun E ce q9 H1 h1 h2 h3 h4 h5 h6 => cs_xout hout hlocks (fun E h => Or.inl ⟨(by unfold cs_k1; simp [cs_k1, cs_k2, cs_nS, cs_pl, cs_bRow, cs_bSer, cs_bDef, h.2]), h.1⟩) (Nat.le_of_ble_eq_true rfl) (Nat.le_of_ble_eq_true rfl) E ce q9 H1 h1 h2 h3 h4 h5 h6) (fun okM => ?_)
  obtain ⟨k, hk, rfl⟩ := cs_mod_of hS okM
  have hk31 : k < 2 ^ 31 := by omega
  have hkc : cs_c (nI k) = k := cs_cI hk31
  obtain ⟨hw1, hw2⟩ := hS.2.1 k hk
  refine cs_topv (y := .ref (ad (8 + k))) (by rw [hkc]) ?_
  refine lv_astore_n (lv' := [(3, .ref (ad (8 + k))), (0, .ref (ad 0)), (1, .int (nI k)), (2, .int u)]) hx hb dX1_remainder_5 rfl hl (by decide) rfl (fun ls hl => ?_)
  refine lv_iload_n hx hb dX1_remainder_6 rfl (lv_at hl 3 rfl) ?_
  refine cs_xcallv (vx_runS (As := [.int u]) (rest := []) ⟨hx, hb, hml, hown, hts⟩ (k_X1_requireRow l hlf D S ad cy u) (va_cwS 1 hts gX1_remainder_X1_requireRow rfl rfl rfl (by decide +kernel) ⟨(Nat.le_of_ble_eq_true rfl), (Nat.le_of_ble_eq_true rfl)⟩) ⟨cs_Bx.blind, cs_Bx.at hE hz cs_none hK⟩ rfl rfl hl.1 rfl (lv_room (Nat.le_of_ble_eq_true rfl)) dX1_remainder_7 ⟨(Nat.le_of_ble_eq_true rfl), (Nat.le_of_ble_eq_true rfl)⟩) (fun E ce q9 H1 h1 h2 h3 h4 h5 h6 => cs_xout hout hlocks (fun E h => Or.inl ⟨(by unfold cs_k1; simp [cs_k1, cs_k2, cs_nS, cs_pl, cs_bRow, cs_bSer, cs_bDef, okM, hkc, h.2]), h.1⟩) (Nat.le_of_ble_eq_true rfl) (Nat.le_of_ble_eq_true rfl) E ce q9 H1 h1 h2 h3 h4 h5 h6) (fun okR => ?_)
  obtain ⟨r, hr4, rfl⟩ := cs_row_of okR
  have r31 : r < 2 ^ 31 := by omega
  have rc : cs_c (nI r) = r := cs_cI r31
  have hl8 := hS.2.2.1 r
  refine lv_aload_n hx hb dX1_remainder_10 rfl (lv_at hl 1 rfl) ?_
  refine va_get (D := D) (ci := 1) (v := .ref (ad 3)) (C := RX1) (T := TX1) (N := 4) hx hb hts hinX1 hown hK hP 0 cs_L0 rfl 3 (by decide) (hts (.fieldLink RX1 24 "ChecksumLab" "sizes" "[I") (by decide +kernel)) (fun _ h9 => h9) rfl dX1_remainder_11 ?_
  refine lv_iload_n hx hb dX1_remainder_14 rfl (lv_at hl 3 rfl) ?_
  refine cs_iald hx hb hK hP 3 0 cs_L3 rfl (k := r) (hr4) (by decide) dX1_remainder_15 ?_
  refine cs_top (y := nI (cs_ln S r)) rfl ?_
  refine lv_istore (lv' := [(4, .int (nI (cs_ln S r))), (3, .ref (ad (8 + k))), (0, .ref (ad 0)), (1, .int (nI k)), (2, .int (nI r))]) hx hb dX1_remainder_16 hl (by decide) rfl (fun ls hl => ?_)
  refine lv_iconst (v := 0) hx hb dX1_remainder_18 (by decide) ?_
  refine lv_istore (lv' := [(5, .int 0), (4, .int (nI (cs_ln S r))), (3, .ref (ad (8 + k))), (0, .ref (ad 0)), (1, .int (nI k)), (2, .int (nI r))]) hx hb dX1_remainder_19 hl (by decide) rfl (fun ls hl => ?_)
  refine lv_iconst (v := 0) hx hb dX1_remainder_21 (by decide) ?_
  refine lv_istore (lv' := [(6, .int 0), (5, .int 0), (4, .int (nI (cs_ln S r))), (3, .ref (ad (8 + k))), (0, .ref (ad 0)), (1, .int (nI k)), (2, .int (nI r))]) hx hb dX1_remainder_22 hl (by decide) rfl (fun ls hl => ?_)
  have loop : ∀ (n i : Nat), i + n = cs_ln S r → ∀ ls : Array Slot, lv_has ls 7 [(0, .ref (ad 0)), (2, .int (nI r)), (3, .ref (ad (8 + k))), (4, .int (nI (cs_ln S r))), (5, .int (cs_rs (cs_w S k) (cs_p S k) (cs_by S r) i)), (6, .int (nI i))] → W pg l e (headSpec wsX1_remainder ({ frames := 7, cells := 2, slots := 12, locals := 103 })).room s m [Value.ref (ad 0), Value.int (nI k), Value.int (nI r)].toArray below meth c s.heap [] 2 12 (vx_MQ below (vp_Si (fun rr => cs_k1 (cs_M S (nI k) && cs_in (nI r) 0 3) = 0 ∧ rr = cs_vRem S (nI k) (nI r))) (cs_XC (cs_E (cs_k1 (cs_M S (nI k) && cs_in (nI r) 0 3)) cs_IOB "" "")) [Value.ref (ad 0), Value.int (nI k), Value.int (nI r)].toArray s 2 12 (fun _ => False)) (F0 m 24 ls []) := by
    intro n
    induction n with
    | zero =>
      intro i hi ls hl
      refine lv_iload hx hb dX1_remainder_24 (lv_at hl 5 rfl) ?_
      refine lv_iload hx hb dX1_remainder_26 (lv_at hl 3 rfl) ?_
      refine lv_icmp_ge (tgt := 54) hx hb dX1_remainder_28 (by decide) (fun c_28 => ?_) (fun c_28 => ?_)
      · refine lv_iload hx hb dX1_remainder_54 (lv_at hl 4 rfl) ?_
        refine W.widen (k := 2) (n := 12) (Nat.le_of_ble_eq_true rfl) (Nat.le_of_ble_eq_true rfl) ?_
        exact vx_ret (W.iret (v := cs_rs (cs_w S k) (cs_p S k) (cs_by S r) i) hx hb hr (fun t ht _ => ⟨cs_rs (cs_w S k) (cs_p S k) (cs_by S r) i, rfl, ⟨by unfold cs_k1; simp [cs_k1, cs_k2, cs_nS, cs_pl, cs_bRow, cs_bSer, cs_bDef, okM, hkc, okR, rc], by unfold cs_vRem; rw [hkc, rc, ← hi, Nat.add_zero]⟩, ht⟩) (fun q h => by cases h) dX1_remainder_56)
      · exact absurd (nI_le (a := cs_ln S r) (b := i) (by omega) (by omega)) c_28
    | succ n ih =>
      intro i hi ls hl
      refine lv_iload hx hb dX1_remainder_24 (lv_at hl 5 rfl) ?_
      refine lv_iload hx hb dX1_remainder_26 (lv_at hl 3 rfl) ?_
      refine lv_icmp_ge (tgt := 54) hx hb dX1_remainder_28 (by decide) (fun c_28 => ?_) (fun c_28 => ?_)
      · exact absurd c_28 (nI_ge (a := i) (b := cs_ln S r) (by omega) (by omega))
      · refine lv_aload_n hx hb dX1_remainder_31 rfl (lv_at hl 2 rfl) ?_
        refine lv_iload hx hb dX1_remainder_32 (lv_at hl 4 rfl) ?_
        refine lv_aload_n hx hb dX1_remainder_34 rfl (lv_at hl 0 rfl) ?_
        refine va_get (D := D) (ci := 1) (v := .ref (ad 2)) (C := RX1) (T := TX1) (N := 4) hx hb hts hinX1 hown hK hP 0 cs_L0 rfl 2 (by decide) (hts (.fieldLink RX1 21 "ChecksumLab" "rows" "[[I") (by decide +kernel)) (fun _ h9 => h9) rfl dX1_remainder_35 ?_
        refine lv_iload_n hx hb dX1_remainder_38 rfl (lv_at hl 1 rfl) ?_
        refine cs_aldA hx hb hK hP 2 4 cs_L2 rfl (k := r) (hr4) (by decide) dX1_remainder_39 ?_
        refine cs_topv (y := .ref (ad (4 + r))) (by rw [if_pos (hr4)]; rfl) ?_
        refine lv_iload hx hb dX1_remainder_40 (lv_at hl 5 rfl) ?_
        refine cs_iald hx hb hK hP (4 + r) 0 (cs_Lr hr4) rfl (k := i) (by omega) (by decide) dX1_remainder_42 ?_
        refine cs_top (y := nI (cs_by S r i)) rfl ?_
        refine vp_callSi (W.runV (As := [.int (cs_rs (cs_w S k) (cs_p S k) (cs_by S r) i), .int (nI (cs_by S r i))]) (rest := []) ⟨hx, hb, hml, hown, hts⟩ (k_X0_divideByte l D (cs_tys cy) (ad (8 + k)) (cs_w S k) (cs_p S k) (cs_i S k) (cs_x S k) (cs_ri S k) (cs_ro S k) (cs_rs (cs_w S k) (cs_p S k) (cs_by S r) i) (nI (cs_by S r i))) (cwV 2 hts gX1_remainder_X0_divideByte rfl rfl rfl (by decide +kernel) ⟨Nat.le_of_ble_eq_true rfl, Nat.le_of_ble_eq_true rfl⟩) ⟨cs_B.blind, va_recv hK (cs_one hP (cs_Lm hk)) (ci := 0) (q0 := 0) rfl rfl, cs_B.at hE (cs_one hP (cs_Lm hk)) hK⟩ rfl rfl hl.1 rfl (lv_room (Nat.le_of_ble_eq_true rfl)) dX1_remainder_43 ⟨Nat.le_of_ble_eq_true rfl, Nat.le_of_ble_eq_true rfl⟩) (fun r_43 e_43 => ?_)
        subst e_43
        refine lv_istore (lv' := [(5, .int (cs_dv (cs_w S k) (cs_p S k) (nI (cs_by S r i)) 8 (cs_rs (cs_w S k) (cs_p S k) (cs_by S r) i))), (0, .ref (ad 0)), (2, .int (nI r)), (3, .ref (ad (8 + k))), (4, .int (nI (cs_ln S r))), (6, .int (nI i))]) hx hb dX1_remainder_46 hl (by decide) rfl (fun ls hl => ?_)
        refine lv_iinc (v := nI (i + 1)) (lv' := [(6, .int (nI (i + 1))), (5, .int (cs_dv (cs_w S k) (cs_p S k) (nI (cs_by S r i)) 8 (cs_rs (cs_w S k) (cs_p S k) (cs_by S r) i))), (0, .ref (ad 0)), (2, .int (nI r)), (3, .ref (ad (8 + k))), (4, .int (nI (cs_ln S r)))]) hx hb dX1_remainder_48 hl (k := 5) rfl (cs_inc1 i) (by decide) rfl (fun ls hl => ?_)
        refine lv_goto (tgt := 24) hx hb dX1_remainder_51 (by decide) ?_
        exact ih (i + 1) (by omega) ls (lv_sub hl [2, 3, 4, 5, 1, 0] rfl)
  exact loop (cs_ln S r) 0 (by omega) ls (lv_sub hl [4, 6, 3, 2, 1, 0] rfl)

