set_option maxHeartbeats 4000000 in
set_option maxRecDepth 100000 in
theorem k_X1_partSum (l : Launch) (D : va_G) (S : cs_St) (ad : Nat → Nat) (cy : Nat → ClassId) (hS : cs_ok S) (k : Nat) (hk : k < cs_n S) (r : Nat) (hr4 : r < 4) (fr to : Nat) (hft : fr ≤ to) (ht : to ≤ 256) : cs_Mi l yX1_partSum wsX1_partSum ({ frames := 3, cells := 0, slots := 0, locals := 69 }) D (cs_tys cy) (cs_L S ad cy) [.ref (ad 0), .ref (ad (8 + k)), .int (nI r), .int (nI fr), .int (nI to)] (cs_so (cs_ro S k) (cs_w S k) (cs_ps (cs_w S k) (cs_p S k) (cs_ri S k) (cs_i S k) (cs_by S r) fr (to - fr)) ^^^ cs_x S k) := by
  refine Met.ofW (cc := cX1_partSum) (maxL := 7) (ret := (some .int)) (by decide) rfl ?_
  intro pg e s m args below meth c s₁ B hml hv
  obtain ⟨rfl, hE, hP, hK⟩ := hv
  have hx := B.exec
  have hb := B.bytes
  have hr := B.returns
  have hts := atoms_spec (ws := wsX1_partSum) B.pre
  have hown : s.vm.findClass RX1 = some m.cls := findClass_of_methodNamed B.named
  have hlocks := B.notSynchronized
  have hl := lv_entry ([.ref (ad 0), .ref (ad (8 + k)), .int (nI r), .int (nI fr), .int (nI to)]) (n := 7) (Nat.le_of_ble_eq_true rfl)
  rw [lg_entry_eq]
  generalize (lg_sl ([.ref (ad 0), .ref (ad (8 + k)), .int (nI r), .int (nI fr), .int (nI to)]) ++ List.replicate (7 - (lg_sl ([.ref (ad 0), .ref (ad (8 + k)), .int (nI r), .int (nI fr), .int (nI to)])).length) Slot.unset).toArray = ls at hl ⊢
  have hl : lv_has ls 7 [(0, .ref (ad 0)), (1, .ref (ad (8 + k))), (2, .int (nI r)), (3, .int (nI fr)), (4, .int (nI to))] := hl
  have hinX1 : ∀ w ∈ wsX10, w ∈ wsX1_partSum := fun _ h => by unfold wsX1_partSum; exact List.mem_cons_of_mem _ (List.mem_append_right _ (h))
  have hinX0 : ∀ w ∈ wsX00, w ∈ wsX1_partSum := fun _ h => by unfold wsX1_partSum; exact List.mem_cons_of_mem _ (List.mem_append_left _ (List.mem_append_right _ (h)))
  obtain ⟨hw1, hw2⟩ := hS.2.1 k hk
  refine lv_aload_n hx hb dX1_partSum_0 rfl (lv_at hl 1 rfl) ?_
  refine va_get (D := D) (ci := 0) (v := .int (cs_i S k)) (C := RX0) (T := TX0) (N := 8) hx hb hts hinX0 hown hK hP (8 + k) (cs_Lm hk) rfl 2 (by decide) (hts (.fieldLink RX1 51 "ChecksumLab$Model" "init" "I") (by decide +kernel)) (fun _ h9 => h9) rfl dX1_partSum_1 ?_
  refine lv_istore (lv' := [(5, .int (cs_i S k)), (0, .ref (ad 0)), (1, .ref (ad (8 + k))), (2, .int (nI r)), (3, .int (nI fr)), (4, .int (nI to))]) hx hb dX1_partSum_4 hl (by decide) rfl (fun ls hl => ?_)
  refine lv_iload_n hx hb dX1_partSum_6 rfl (lv_at hl 4 rfl) ?_
  refine lv_istore (lv' := [(6, .int (nI fr)), (5, .int (cs_i S k)), (0, .ref (ad 0)), (1, .ref (ad (8 + k))), (2, .int (nI r)), (3, .int (nI fr)), (4, .int (nI to))]) hx hb dX1_partSum_7 hl (by decide) rfl (fun ls hl => ?_)
  have loop : ∀ (n j : Nat), fr + j + n = to → ∀ ls : Array Slot, lv_has ls 7 [(0, .ref (ad 0)), (1, .ref (ad (8 + k))), (2, .int (nI r)), (4, .int (nI to)), (5, .int (cs_ps (cs_w S k) (cs_p S k) (cs_ri S k) (cs_i S k) (cs_by S r) fr j)), (6, .int (nI (fr + j)))] → W pg l e (headSpec wsX1_partSum ({ frames := 3, cells := 0, slots := 0, locals := 69 })).room s m [Value.ref (ad 0), Value.ref (ad (8 + k)), Value.int (nI r), Value.int (nI fr), Value.int (nI to)].toArray below meth c s.heap [] 0 0 (MQ below (vp_Si (fun rr => rr = cs_so (cs_ro S k) (cs_w S k) (cs_ps (cs_w S k) (cs_p S k) (cs_ri S k) (cs_i S k) (cs_by S r) fr (to - fr)) ^^^ cs_x S k)) [Value.ref (ad 0), Value.ref (ad (8 + k)), Value.int (nI r), Value.int (nI fr), Value.int (nI to)].toArray s 0 0 (fun _ => False)) (F0 m 9 ls []) := by
    intro n
    induction n with
    | zero =>
      intro j hj ls hl
      obtain rfl : to = fr + j := by omega
      refine lv_iload hx hb dX1_partSum_9 (lv_at hl 5 rfl) ?_
      refine lv_iload hx hb dX1_partSum_11 (lv_at hl 3 rfl) ?_
      refine lv_icmp_ge (tgt := 39) hx hb dX1_partSum_13 (by decide) (fun c_13 => ?_) (fun c_13 => ?_)
      · refine lv_aload_n hx hb dX1_partSum_39 rfl (lv_at hl 1 rfl) ?_
        refine lv_iload hx hb dX1_partSum_40 (lv_at hl 4 rfl) ?_
        refine vp_callSi (W.runV (As := [.int (cs_ps (cs_w S k) (cs_p S k) (cs_ri S k) (cs_i S k) (cs_by S r) fr j)]) (rest := []) ⟨hx, hb, hml, hown, hts⟩ (k_X0_sumOfRegister l D (cs_tys cy) (ad (8 + k)) (cs_w S k) (cs_p S k) (cs_i S k) (cs_x S k) (cs_ri S k) (cs_ro S k) hw2 (cs_ps (cs_w S k) (cs_p S k) (cs_ri S k) (cs_i S k) (cs_by S r) fr j)) (cwV 1 hts gX1_partSum_X0_sumOfRegister rfl rfl rfl (by decide +kernel) ⟨Nat.le_of_ble_eq_true rfl, Nat.le_of_ble_eq_true rfl⟩) ⟨cs_B.blind, va_recv hK (cs_one hP (cs_Lm hk)) (ci := 0) (q0 := 0) rfl rfl, cs_B.at hE (cs_one hP (cs_Lm hk)) hK⟩ rfl rfl hl.1 rfl (lv_room (Nat.le_of_ble_eq_true rfl)) dX1_partSum_42 ⟨Nat.le_of_ble_eq_true rfl, Nat.le_of_ble_eq_true rfl⟩) (fun r_42 e_42 => ?_)
        subst e_42
        exact W.iret (v := cs_so (cs_ro S k) (cs_w S k) (cs_ps (cs_w S k) (cs_p S k) (cs_ri S k) (cs_i S k) (cs_by S r) fr j) ^^^ cs_x S k) hx hb hr (fun t ht _ => ⟨cs_so (cs_ro S k) (cs_w S k) (cs_ps (cs_w S k) (cs_p S k) (cs_ri S k) (cs_i S k) (cs_by S r) fr j) ^^^ cs_x S k, rfl, by rw [Nat.add_sub_cancel_left], ht⟩) (fun q h => by cases h) dX1_partSum_45
      · exact absurd (nI_le (a := fr + j) (b := fr + j) (Nat.le_refl _) (by omega)) c_13
    | succ n ih =>
      intro j hj ls hl
      refine lv_iload hx hb dX1_partSum_9 (lv_at hl 5 rfl) ?_
      refine lv_iload hx hb dX1_partSum_11 (lv_at hl 3 rfl) ?_
      refine lv_icmp_ge (tgt := 39) hx hb dX1_partSum_13 (by decide) (fun c_13 => ?_) (fun c_13 => ?_)
      · exact absurd c_13 (nI_ge (a := fr + j) (b := to) (by omega) (by omega))
      · refine lv_aload_n hx hb dX1_partSum_16 rfl (lv_at hl 1 rfl) ?_
        refine lv_iload hx hb dX1_partSum_17 (lv_at hl 4 rfl) ?_
        refine lv_aload_n hx hb dX1_partSum_19 rfl (lv_at hl 0 rfl) ?_
        refine va_get (D := D) (ci := 1) (v := .ref (ad 2)) (C := RX1) (T := TX1) (N := 4) hx hb hts hinX1 hown hK hP 0 cs_L0 rfl 2 (by decide) (hts (.fieldLink RX1 21 "ChecksumLab" "rows" "[[I") (by decide +kernel)) (fun _ h9 => h9) rfl dX1_partSum_20 ?_
        refine lv_iload_n hx hb dX1_partSum_23 rfl (lv_at hl 2 rfl) ?_
        refine cs_aldA hx hb hK hP 2 4 cs_L2 rfl (k := r) (hr4) (by decide) dX1_partSum_24 ?_
        refine cs_topv (y := .ref (ad (4 + r))) (by rw [if_pos (hr4)]; rfl) ?_
        refine lv_iload hx hb dX1_partSum_25 (lv_at hl 5 rfl) ?_
        refine cs_iald hx hb hK hP (4 + r) 0 (cs_Lr hr4) rfl (k := fr + j) (by omega) (by decide) dX1_partSum_27 ?_
        refine cs_top (y := nI (cs_by S r (fr + j))) rfl ?_
        refine vp_callSi (W.runV (As := [.int (cs_ps (cs_w S k) (cs_p S k) (cs_ri S k) (cs_i S k) (cs_by S r) fr j), .int (nI (cs_by S r (fr + j)))]) (rest := []) ⟨hx, hb, hml, hown, hts⟩ (k_X0_takeByte l D (cs_tys cy) (ad (8 + k)) (cs_w S k) (cs_p S k) (cs_i S k) (cs_x S k) (cs_ri S k) (cs_ro S k) (cs_ps (cs_w S k) (cs_p S k) (cs_ri S k) (cs_i S k) (cs_by S r) fr j) (nI (cs_by S r (fr + j)))) (cwV 2 hts gX1_partSum_X0_takeByte rfl rfl rfl (by decide +kernel) ⟨Nat.le_of_ble_eq_true rfl, Nat.le_of_ble_eq_true rfl⟩) ⟨cs_B.blind, va_recv hK (cs_one hP (cs_Lm hk)) (ci := 0) (q0 := 0) rfl rfl, cs_B.at hE (cs_one hP (cs_Lm hk)) hK⟩ rfl rfl hl.1 rfl (lv_room (Nat.le_of_ble_eq_true rfl)) dX1_partSum_28 ⟨Nat.le_of_ble_eq_true rfl, Nat.le_of_ble_eq_true rfl⟩) (fun r_28 e_28 => ?_)
        subst e_28
        refine lv_istore (lv' := [(5, .int (cs_tk (cs_w S k) (cs_p S k) (cs_ri S k) (cs_ps (cs_w S k) (cs_p S k) (cs_ri S k) (cs_i S k) (cs_by S r) fr j) (nI (cs_by S r (fr + j))))), (0, .ref (ad 0)), (1, .ref (ad (8 + k))), (2, .int (nI r)), (4, .int (nI to)), (6, .int (nI (fr + j)))]) hx hb dX1_partSum_31 hl (by decide) rfl (fun ls hl => ?_)
        refine lv_iinc (v := nI (fr + (j + 1))) (lv' := [(6, .int (nI (fr + (j + 1)))), (5, .int (cs_tk (cs_w S k) (cs_p S k) (cs_ri S k) (cs_ps (cs_w S k) (cs_p S k) (cs_ri S k) (cs_i S k) (cs_by S r) fr j) (nI (cs_by S r (fr + j))))), (0, .ref (ad 0)), (1, .ref (ad (8 + k))), (2, .int (nI r)), (4, .int (nI to))]) hx hb dX1_partSum_33 hl (k := 5) rfl (cs_inc1 (fr + j)) (by decide) rfl (fun ls hl => ?_)
        refine lv_goto (tgt := 9) hx hb dX1_partSum_36 (by decide) ?_
        exact ih (j + 1) (by omega) ls (lv_sub hl [2, 3, 4, 5, 1, 0] rfl)
  exact loop (to - fr) 0 (by omega) ls (lv_sub hl [2, 3, 4, 6, 1, 0] rfl)
set_option maxHeartbeats 4000000 in
set_option maxRecDepth 100000 in
theorem k_X1_models (l : Launch) (D : va_G) (S : cs_St) (ad : Nat → Nat) (cy : Nat → ClassId)  : cs_Mi l yX1_models wsX1_models ({ frames := 0, cells := 0, slots := 0, locals := 0 }) D (cs_tys cy) (cs_L S ad cy) [.ref (ad 0)] (nI (cs_n S)) := by
  refine Met.ofW (cc := cX1_models) (maxL := 1) (ret := (some .int)) (by decide) rfl ?_
  intro pg e s m args below meth c s₁ B hml hv
  obtain ⟨rfl, hE, hP, hK⟩ := hv
  have hx := B.exec
  have hb := B.bytes
  have hr := B.returns
  have hts := atoms_spec (ws := wsX1_models) B.pre
  have hown : s.vm.findClass RX1 = some m.cls := findClass_of_methodNamed B.named
  have hlocks := B.notSynchronized
  have hl := lv_entry ([.ref (ad 0)]) (n := 1) (Nat.le_of_ble_eq_true rfl)
  rw [lg_entry_eq]
  generalize (lg_sl ([.ref (ad 0)]) ++ List.replicate (1 - (lg_sl ([.ref (ad 0)])).length) Slot.unset).toArray = ls at hl ⊢
  have hl : lv_has ls 1 [(0, .ref (ad 0))] := hl
  have hinX1 : ∀ w ∈ wsX10, w ∈ wsX1_models := fun _ h => by unfold wsX1_models; exact List.mem_cons_of_mem _ (List.mem_append_right _ (h))
  refine lv_aload_n hx hb dX1_models_0 rfl (lv_at hl 0 rfl) ?_
  refine va_get (D := D) (ci := 1) (v := .int (nI (cs_n S))) (C := RX1) (T := TX1) (N := 4) hx hb hts hinX1 hown hK hP 0 cs_L0 rfl 1 (by decide) (hts (.fieldLink RX1 15 "ChecksumLab" "definedCount" "I") (by decide +kernel)) (fun _ h9 => h9) rfl dX1_models_1 ?_
  exact W.iret (v := nI (cs_n S)) hx hb hr (fun t ht _ => ⟨nI (cs_n S), rfl, rfl, ht⟩) (fun q h => by cases h) dX1_models_4
set_option maxHeartbeats 4000000 in
set_option maxRecDepth 100000 in
theorem k_X1_check (l : Launch) (hlf : l.stackTraces = false) (D : va_G) (S : cs_St) (ad : Nat → Nat) (cy : Nat → ClassId) (hS : cs_ok S) (v : Int32) : cs_Xi l yX1_check wsX1_check ({ frames := 7, cells := 1, slots := 6, locals := 103 }) D (cs_tys cy) (cs_L S ad cy) [.ref (ad 0), .int v] (fun rr => cs_k1 (cs_M S v) = 0 ∧ rr = cs_vChk S v) (cs_E (cs_k1 (cs_M S v)) cs_IOB "" "") 1 6 := by
  refine vx_ofW (cc := cX1_check) (maxL := 5) (ret := (some .int)) (by decide) rfl ?_
  intro pg e s m args below meth c s₁ B hml hout hv
  obtain ⟨rfl, hE, hz, hP, hK⟩ := hv
  have hx := B.exec
  have hb := B.bytes
  have hr := B.returns
  have hts := atoms_spec (ws := wsX1_check) B.pre
  have hown : s.vm.findClass RX1 = some m.cls := findClass_of_methodNamed B.named
  have hlocks := B.notSynchronized
  have hl := lv_entry ([.ref (ad 0), .int v]) (n := 5) (Nat.le_of_ble_eq_true rfl)
  rw [lg_entry_eq]
  generalize (lg_sl ([.ref (ad 0), .int v]) ++ List.replicate (5 - (lg_sl ([.ref (ad 0), .int v])).length) Slot.unset).toArray = ls at hl ⊢
  have hl : lv_has ls 5 [(0, .ref (ad 0)), (1, .int v)] := hl
  have hinX1 : ∀ w ∈ wsX10, w ∈ wsX1_check := fun _ h => by unfold wsX1_check; exact List.mem_cons_of_mem _ (List.mem_append_left _ (List.mem_append_right _ (h)))
  have hinX0 : ∀ w ∈ wsX00, w ∈ wsX1_check := fun _ h => by unfold wsX1_check; exact List.mem_cons_of_mem _ (List.mem_append_left _ (List.mem_append_left _ (List.mem_append_right _ (h))))
  have h6 := hS.1
  refine lv_aload_n hx hb dX1_check_0 rfl (lv_at hl 0 rfl) ?_
  refine lv_iload_n hx hb dX1_check_1 rfl (lv_at hl 1 rfl) ?_
  refine cs_xcallr (vx_runV (As := [.int v]) (rest := []) ⟨hx, hb, hml, hown, hts⟩ (k_X1_findModel l hlf D S ad cy hS v) (cwV 1 hts gX1_check_X1_findModel rfl rfl rfl (by decide +kernel) ⟨(Nat.le_of_ble_eq_true rfl), (Nat.le_of_ble_eq_true rfl)⟩) ⟨cs_Bx.blind, va_recv hK hP (ci := 1) (q0 := 0) rfl rfl, cs_Bx.at hE hz hP hK⟩ rfl rfl hl.1 rfl (lv_room (Nat.le_of_ble_eq_true rfl)) dX1_check_2 ⟨(Nat.le_of_ble_eq_true rfl), (Nat.le_of_ble_eq_true rfl)⟩) (fun E ce q9 H1 h1 h2 h3 h4 h5 h6 => cs_xout hout hlocks (fun E h => Or.inl ⟨(by unfold cs_k1; simp [cs_k1, cs_k2, cs_nS, cs_pl, cs_bRow, cs_bSer, cs_bDef, h.2]), h.1⟩) (Nat.le_of_ble_eq_true rfl) (Nat.le_of_ble_eq_true rfl) E ce q9 H1 h1 h2 h3 h4 h5 h6) (fun okM => ?_)
  obtain ⟨k, hk, rfl⟩ := cs_mod_of hS okM
  have hk31 : k < 2 ^ 31 := by omega
  have hkc : cs_c (nI k) = k := cs_cI hk31
  obtain ⟨hw1, hw2⟩ := hS.2.1 k hk
  refine cs_topv (y := .ref (ad (8 + k))) (by rw [hkc]) ?_
  refine lv_astore_n (lv' := [(2, .ref (ad (8 + k))), (0, .ref (ad 0)), (1, .int (nI k))]) hx hb dX1_check_5 rfl hl (by decide) rfl (fun ls hl => ?_)
  refine lv_aload_n hx hb dX1_check_6 rfl (lv_at hl 0 rfl) ?_
  refine va_get (D := D) (ci := 0) (v := .int (cs_i S k)) (C := RX0) (T := TX0) (N := 8) hx hb hts hinX0 hown hK hP (8 + k) (cs_Lm hk) rfl 2 (by decide) (hts (.fieldLink RX1 51 "ChecksumLab$Model" "init" "I") (by decide +kernel)) (fun _ h9 => h9) rfl dX1_check_7 ?_
  refine lv_istore_n (lv' := [(3, .int (cs_i S k)), (2, .ref (ad (8 + k))), (0, .ref (ad 0)), (1, .int (nI k))]) hx hb dX1_check_10 rfl hl (by decide) rfl (fun ls hl => ?_)
  refine lv_bipush (v := 49) hx hb dX1_check_11 (by decide) ?_
  refine lv_istore (lv' := [(4, .int 49), (3, .int (cs_i S k)), (2, .ref (ad (8 + k))), (0, .ref (ad 0)), (1, .int (nI k))]) hx hb dX1_check_13 hl (by decide) rfl (fun ls hl => ?_)
  have loop : ∀ (n j : Nat), j + n = 9 → ∀ ls : Array Slot, lv_has ls 5 [(0, .ref (ad 0)), (2, .ref (ad (8 + k))), (3, .int (cs_ps (cs_w S k) (cs_p S k) (cs_ri S k) (cs_i S k) (fun j => j) 49 j)), (4, .int (nI (49 + j)))] → W pg l e (headSpec wsX1_check ({ frames := 7, cells := 1, slots := 6, locals := 103 })).room s m [Value.ref (ad 0), Value.int (nI k)].toArray below meth c s.heap [] 1 6 (vx_MQ below (vp_Si (fun rr => cs_k1 (cs_M S (nI k)) = 0 ∧ rr = cs_vChk S (nI k))) (cs_XC (cs_E (cs_k1 (cs_M S (nI k))) cs_IOB "" "")) [Value.ref (ad 0), Value.int (nI k)].toArray s 1 6 (fun _ => False)) (F0 m 15 ls []) := by
    intro n
    induction n with
    | zero =>
      intro j hj ls hl
      obtain rfl : j = 9 := by omega
      refine lv_iload hx hb dX1_check_15 (lv_at hl 3 rfl) ?_
      refine lv_bipush (v := 57) hx hb dX1_check_17 (by decide) ?_
      refine lv_icmp_gt (tgt := 36) hx hb dX1_check_19 (by decide) (fun c_19 => ?_) (fun c_19 => ?_)
      · refine lv_aload_n hx hb dX1_check_36 rfl (lv_at hl 1 rfl) ?_
        refine lv_iload_n hx hb dX1_check_37 rfl (lv_at hl 2 rfl) ?_
        refine vp_callSi (W.runV (As := [.int (cs_ps (cs_w S k) (cs_p S k) (cs_ri S k) (cs_i S k) (fun j => j) 49 9)]) (rest := []) ⟨hx, hb, hml, hown, hts⟩ (k_X0_sumOfRegister l D (cs_tys cy) (ad (8 + k)) (cs_w S k) (cs_p S k) (cs_i S k) (cs_x S k) (cs_ri S k) (cs_ro S k) hw2 (cs_ps (cs_w S k) (cs_p S k) (cs_ri S k) (cs_i S k) (fun j => j) 49 9)) (cwV 1 hts gX1_check_X0_sumOfRegister rfl rfl rfl (by decide +kernel) ⟨Nat.le_of_ble_eq_true rfl, Nat.le_of_ble_eq_true rfl⟩) ⟨cs_B.blind, va_recv hK (cs_one hP (cs_Lm hk)) (ci := 0) (q0 := 0) rfl rfl, cs_B.at hE (cs_one hP (cs_Lm hk)) hK⟩ rfl rfl hl.1 rfl (lv_room (Nat.le_of_ble_eq_true rfl)) dX1_check_38 ⟨Nat.le_of_ble_eq_true rfl, Nat.le_of_ble_eq_true rfl⟩) (fun r_38 e_38 => ?_)
        subst e_38
        refine W.widen (k := 1) (n := 6) (Nat.le_of_ble_eq_true rfl) (Nat.le_of_ble_eq_true rfl) ?_
        exact vx_ret (W.iret (v := cs_so (cs_ro S k) (cs_w S k) (cs_ps (cs_w S k) (cs_p S k) (cs_ri S k) (cs_i S k) (fun j => j) 49 9) ^^^ cs_x S k) hx hb hr (fun t ht _ => ⟨cs_so (cs_ro S k) (cs_w S k) (cs_ps (cs_w S k) (cs_p S k) (cs_ri S k) (cs_i S k) (fun j => j) 49 9) ^^^ cs_x S k, rfl, ⟨by unfold cs_k1; simp [cs_k1, cs_k2, cs_nS, cs_pl, cs_bRow, cs_bSer, cs_bDef, okM, hkc], by unfold cs_vChk cs_psS; rw [hkc]⟩, ht⟩) (fun q h => by cases h) dX1_check_41)
      · exact absurd (by decide) c_19
    | succ n ih =>
      intro j hj ls hl
      refine lv_iload hx hb dX1_check_15 (lv_at hl 3 rfl) ?_
      refine lv_bipush (v := 57) hx hb dX1_check_17 (by decide) ?_
      refine lv_icmp_gt (tgt := 36) hx hb dX1_check_19 (by decide) (fun c_19 => ?_) (fun c_19 => ?_)
      · exact absurd c_19 (nI_nlt (a := 57) (b := 49 + j) (by omega) (by omega))
      · refine lv_aload_n hx hb dX1_check_22 rfl (lv_at hl 1 rfl) ?_
        refine lv_iload_n hx hb dX1_check_23 rfl (lv_at hl 2 rfl) ?_
        refine lv_iload hx hb dX1_check_24 (lv_at hl 3 rfl) ?_
        refine vp_callSi (W.runV (As := [.int (cs_ps (cs_w S k) (cs_p S k) (cs_ri S k) (cs_i S k) (fun j => j) 49 j), .int (nI (49 + j))]) (rest := []) ⟨hx, hb, hml, hown, hts⟩ (k_X0_takeByte l D (cs_tys cy) (ad (8 + k)) (cs_w S k) (cs_p S k) (cs_i S k) (cs_x S k) (cs_ri S k) (cs_ro S k) (cs_ps (cs_w S k) (cs_p S k) (cs_ri S k) (cs_i S k) (fun j => j) 49 j) (nI (49 + j))) (cwV 2 hts gX1_check_X0_takeByte rfl rfl rfl (by decide +kernel) ⟨Nat.le_of_ble_eq_true rfl, Nat.le_of_ble_eq_true rfl⟩) ⟨cs_B.blind, va_recv hK (cs_one hP (cs_Lm hk)) (ci := 0) (q0 := 0) rfl rfl, cs_B.at hE (cs_one hP (cs_Lm hk)) hK⟩ rfl rfl hl.1 rfl (lv_room (Nat.le_of_ble_eq_true rfl)) dX1_check_26 ⟨Nat.le_of_ble_eq_true rfl, Nat.le_of_ble_eq_true rfl⟩) (fun r_26 e_26 => ?_)
        subst e_26
        refine lv_istore_n (lv' := [(3, .int (cs_tk (cs_w S k) (cs_p S k) (cs_ri S k) (cs_ps (cs_w S k) (cs_p S k) (cs_ri S k) (cs_i S k) (fun j => j) 49 j) (nI (49 + j)))), (0, .ref (ad 0)), (2, .ref (ad (8 + k))), (4, .int (nI (49 + j)))]) hx hb dX1_check_29 rfl hl (by decide) rfl (fun ls hl => ?_)
        refine lv_iinc (v := nI (49 + (j + 1))) (lv' := [(4, .int (nI (49 + (j + 1)))), (3, .int (cs_tk (cs_w S k) (cs_p S k) (cs_ri S k) (cs_ps (cs_w S k) (cs_p S k) (cs_ri S k) (cs_i S k) (fun j => j) 49 j) (nI (49 + j)))), (0, .ref (ad 0)), (2, .ref (ad (8 + k)))]) hx hb dX1_check_30 hl (k := 3) rfl (cs_inc1 (49 + j)) (by decide) rfl (fun ls hl => ?_)
        refine lv_goto (tgt := 15) hx hb dX1_check_33 (by decide) ?_
        exact ih (j + 1) (by omega) ls (lv_sub hl [2, 3, 1, 0] rfl)
  exact loop 9 0 (by omega) ls (lv_sub hl [3, 2, 1, 0] rfl)
set_option maxHeartbeats 4000000 in
set_option maxRecDepth 100000 in
theorem k_X1_multiply (l : Launch) (hlf : l.stackTraces = false) (D : va_G) (S : cs_St) (ad : Nat → Nat) (cy : Nat → ClassId) (hS : cs_ok S) (v a b : Int32) : cs_Xi l yX1_multiply wsX1_multiply ({ frames := 7, cells := 3, slots := 18, locals := 103 }) D (cs_tys cy) (cs_L S ad cy) [.ref (ad 0), .int v, .int a, .int b] (fun rr => cs_kMul S v a b = 0 ∧ rr = cs_vMul S v a b) (cs_E (cs_kMul S v a b) cs_IOB cs_IAE "") 3 18 := by
  refine vx_ofW (cc := cX1_multiply) (maxL := 5) (ret := (some .int)) (by decide) rfl ?_
  intro pg e s m args below meth c s₁ B hml hout hv
  obtain ⟨rfl, hE, hz, hP, hK⟩ := hv
  have hx := B.exec
  have hb := B.bytes
  have hr := B.returns
  have hts := atoms_spec (ws := wsX1_multiply) B.pre
  have hown : s.vm.findClass RX1 = some m.cls := findClass_of_methodNamed B.named
  have hlocks := B.notSynchronized
  have hl := lv_entry ([.ref (ad 0), .int v, .int a, .int b]) (n := 5) (Nat.le_of_ble_eq_true rfl)
  rw [lg_entry_eq]
  generalize (lg_sl ([.ref (ad 0), .int v, .int a, .int b]) ++ List.replicate (5 - (lg_sl ([.ref (ad 0), .int v, .int a, .int b])).length) Slot.unset).toArray = ls at hl ⊢
  have hl : lv_has ls 5 [(0, .ref (ad 0)), (1, .int v), (2, .int a), (3, .int b)] := hl
  have hinX1 : ∀ w ∈ wsX10, w ∈ wsX1_multiply := fun _ h => by unfold wsX1_multiply; exact List.mem_cons_of_mem _ (List.mem_append_left _ (List.mem_append_left _ (List.mem_append_right _ (h))))
  have hinX0 : ∀ w ∈ wsX00, w ∈ wsX1_multiply := fun _ h => by unfold wsX1_multiply; exact List.mem_cons_of_mem _ (List.mem_append_left _ (List.mem_append_left _ (List.mem_append_left _ (List.mem_append_right _ (h)))))
  have h6 := hS.1
  refine lv_aload_n hx hb dX1_multiply_0 rfl (lv_at hl 0 rfl) ?_
  refine lv_iload_n hx hb dX1_multiply_1 rfl (lv_at hl 1 rfl) ?_
  refine cs_xcallr (vx_runV (As := [.int v]) (rest := []) ⟨hx, hb, hml, hown, hts⟩ (k_X1_findModel l hlf D S ad cy hS v) (cwV 1 hts gX1_multiply_X1_findModel rfl rfl rfl (by decide +kernel) ⟨(Nat.le_of_ble_eq_true rfl), (Nat.le_of_ble_eq_true rfl)⟩) ⟨cs_Bx.blind, va_recv hK hP (ci := 1) (q0 := 0) rfl rfl, cs_Bx.at hE hz hP hK⟩ rfl rfl hl.1 rfl (lv_room (Nat.le_of_ble_eq_true rfl)) dX1_multiply_2 ⟨(Nat.le_of_ble_eq_true rfl), (Nat.le_of_ble_eq_true rfl)⟩) (fun E ce q9 H1 h1 h2 h3 h4 h5 h6 => cs_xout hout hlocks (fun E h => Or.inl ⟨(by unfold cs_kMul; simp [cs_k1, cs_k2, cs_nS, cs_pl, cs_bRow, cs_bSer, cs_bDef, h.2]), h.1⟩) (Nat.le_of_ble_eq_true rfl) (Nat.le_of_ble_eq_true rfl) E ce q9 H1 h1 h2 h3 h4 h5 h6) (fun okM => ?_)
  obtain ⟨k, hk, rfl⟩ := cs_mod_of hS okM
  have hk31 : k < 2 ^ 31 := by omega
  have hkc : cs_c (nI k) = k := cs_cI hk31
  obtain ⟨hw1, hw2⟩ := hS.2.1 k hk
  refine cs_topv (y := .ref (ad (8 + k))) (by rw [hkc]) ?_
  refine lv_astore (lv' := [(4, .ref (ad (8 + k))), (0, .ref (ad 0)), (1, .int (nI k)), (2, .int a), (3, .int b)]) hx hb dX1_multiply_5 hl (by decide) rfl (fun ls hl => ?_)
  refine lv_aload hx hb dX1_multiply_7 (lv_at hl 0 rfl) ?_
  refine va_get (D := D) (ci := 0) (v := .int (nI (cs_w S k))) (C := RX0) (T := TX0) (N := 8) hx hb hts hinX0 hown hK hP (8 + k) (cs_Lm hk) rfl 0 (by decide) (hts (.fieldLink RX1 62 "ChecksumLab$Model" "width" "I") (by decide +kernel)) (fun _ h9 => h9) rfl dX1_multiply_9 ?_
  refine lv_iload_n hx hb dX1_multiply_12 rfl (lv_at hl 3 rfl) ?_
  refine cs_xcallv (vx_runS (As := [.int (nI (cs_w S k)), .int a]) (rest := []) ⟨hx, hb, hml, hown, hts⟩ (k_X1_requireNumber l hlf D S ad cy (cs_w S k) hw2 a) (va_cwS 2 hts gX1_multiply_X1_requireNumber rfl rfl rfl (by decide +kernel) ⟨(Nat.le_of_ble_eq_true rfl), (Nat.le_of_ble_eq_true rfl)⟩) ⟨cs_Bx.blind, cs_Bx.at hE hz cs_none hK⟩ rfl rfl hl.1 rfl (lv_room (Nat.le_of_ble_eq_true rfl)) dX1_multiply_13 ⟨(Nat.le_of_ble_eq_true rfl), (Nat.le_of_ble_eq_true rfl)⟩) (fun E ce q9 H1 h1 h2 h3 h4 h5 h6 => cs_xout hout hlocks (fun E h => Or.inr (Or.inl ⟨(by unfold cs_kMul; simp [cs_k1, cs_k2, cs_nS, cs_pl, cs_bRow, cs_bSer, cs_bDef, okM, hkc, h.2]), h.1⟩)) (Nat.le_of_ble_eq_true rfl) (Nat.le_of_ble_eq_true rfl) E ce q9 H1 h1 h2 h3 h4 h5 h6) (fun ok1 => ?_)
  refine lv_aload hx hb dX1_multiply_16 (lv_at hl 0 rfl) ?_
  refine va_get (D := D) (ci := 0) (v := .int (nI (cs_w S k))) (C := RX0) (T := TX0) (N := 8) hx hb hts hinX0 hown hK hP (8 + k) (cs_Lm hk) rfl 0 (by decide) (hts (.fieldLink RX1 62 "ChecksumLab$Model" "width" "I") (by decide +kernel)) (fun _ h9 => h9) rfl dX1_multiply_18 ?_
  refine lv_iload_n hx hb dX1_multiply_21 rfl (lv_at hl 4 rfl) ?_
  refine cs_xcallv (vx_runS (As := [.int (nI (cs_w S k)), .int b]) (rest := []) ⟨hx, hb, hml, hown, hts⟩ (k_X1_requireNumber l hlf D S ad cy (cs_w S k) hw2 b) (va_cwS 2 hts gX1_multiply_X1_requireNumber rfl rfl rfl (by decide +kernel) ⟨(Nat.le_of_ble_eq_true rfl), (Nat.le_of_ble_eq_true rfl)⟩) ⟨cs_Bx.blind, cs_Bx.at hE hz cs_none hK⟩ rfl rfl hl.1 rfl (lv_room (Nat.le_of_ble_eq_true rfl)) dX1_multiply_22 ⟨(Nat.le_of_ble_eq_true rfl), (Nat.le_of_ble_eq_true rfl)⟩) (fun E ce q9 H1 h1 h2 h3 h4 h5 h6 => cs_xout hout hlocks (fun E h => Or.inr (Or.inl ⟨(by unfold cs_kMul; simp [cs_k1, cs_k2, cs_nS, cs_pl, cs_bRow, cs_bSer, cs_bDef, okM, hkc, ok1, h.2]), h.1⟩)) (Nat.le_of_ble_eq_true rfl) (Nat.le_of_ble_eq_true rfl) E ce q9 H1 h1 h2 h3 h4 h5 h6) (fun ok2 => ?_)
  refine lv_aload hx hb dX1_multiply_25 (lv_at hl 0 rfl) ?_
  refine lv_iload_n hx hb dX1_multiply_27 rfl (lv_at hl 3 rfl) ?_
  refine lv_iload_n hx hb dX1_multiply_28 rfl (lv_at hl 4 rfl) ?_
  refine vp_callSi (W.runV (As := [.int a, .int b]) (rest := []) ⟨hx, hb, hml, hown, hts⟩ (k_X0_product l D (cs_tys cy) (ad (8 + k)) (cs_w S k) (cs_p S k) (cs_i S k) (cs_x S k) (cs_ri S k) (cs_ro S k) hw2 a b) (cwV 2 hts gX1_multiply_X0_product rfl rfl rfl (by decide +kernel) ⟨Nat.le_of_ble_eq_true rfl, Nat.le_of_ble_eq_true rfl⟩) ⟨cs_B.blind, va_recv hK (cs_one hP (cs_Lm hk)) (ci := 0) (q0 := 0) rfl rfl, cs_B.at hE (cs_one hP (cs_Lm hk)) hK⟩ rfl rfl hl.1 rfl (lv_room (Nat.le_of_ble_eq_true rfl)) dX1_multiply_29 ⟨Nat.le_of_ble_eq_true rfl, Nat.le_of_ble_eq_true rfl⟩) (fun r_29 e_29 => ?_)
  subst e_29
  refine W.widen (k := 3) (n := 18) (Nat.le_of_ble_eq_true rfl) (Nat.le_of_ble_eq_true rfl) ?_
  exact vx_ret (W.iret (v := cs_mul (cs_w S k) (cs_p S k) a b (cs_w S k)) hx hb hr (fun t ht _ => ⟨cs_mul (cs_w S k) (cs_p S k) a b (cs_w S k), rfl, ⟨by unfold cs_kMul; simp [cs_k1, cs_k2, cs_nS, cs_pl, cs_bRow, cs_bSer, cs_bDef, okM, hkc, ok1, ok2], by unfold cs_vMul; rw [hkc]⟩, ht⟩) (fun q h => by cases h) dX1_multiply_32)
set_option maxHeartbeats 4000000 in
set_option maxRecDepth 100000 in
theorem k_X1_power (l : Launch) (hlf : l.stackTraces = false) (D : va_G) (S : cs_St) (ad : Nat → Nat) (cy : Nat → ClassId) (hS : cs_ok S) (v : Int32) (x : Int64) : cs_Xi l yX1_power wsX1_power ({ frames := 7, cells := 2, slots := 12, locals := 103 }) D (cs_tys cy) (cs_L S ad cy) [.ref (ad 0), .int v, .long x] (fun rr => cs_kPow S v x = 0 ∧ rr = cs_vPow S v x) (cs_E (cs_kPow S v x) cs_IOB cs_IAE "") 2 12 := by
  refine vx_ofW (cc := cX1_power) (maxL := 5) (ret := (some .int)) (by decide) rfl ?_
  intro pg e s m args below meth c s₁ B hml hout hv
  obtain ⟨rfl, hE, hz, hP, hK⟩ := hv
  have hx := B.exec
  have hb := B.bytes
  have hr := B.returns
  have hts := atoms_spec (ws := wsX1_power) B.pre
  have hown : s.vm.findClass RX1 = some m.cls := findClass_of_methodNamed B.named
  have hlocks := B.notSynchronized
  have hl := lv_entry ([.ref (ad 0), .int v, .long x]) (n := 5) (Nat.le_of_ble_eq_true rfl)
  rw [lg_entry_eq]
  generalize (lg_sl ([.ref (ad 0), .int v, .long x]) ++ List.replicate (5 - (lg_sl ([.ref (ad 0), .int v, .long x])).length) Slot.unset).toArray = ls at hl ⊢
  have hl : lv_has ls 5 [(0, .ref (ad 0)), (1, .int v), (2, .long x)] := hl
  have hinX1 : ∀ w ∈ wsX10, w ∈ wsX1_power := fun _ h => by unfold wsX1_power; exact List.mem_cons_of_mem _ (List.mem_append_left _ (List.mem_append_left _ (List.mem_append_left _ (List.mem_append_right _ (h)))))
  have hinX0 : ∀ w ∈ wsX00, w ∈ wsX1_power := fun _ h => by unfold wsX1_power; exact List.mem_cons_of_mem _ (List.mem_append_left _ (List.mem_append_left _ (List.mem_append_right _ (h))))
  have h6 := hS.1
  refine lv_aload_n hx hb dX1_power_0 rfl (lv_at hl 0 rfl) ?_
  refine lv_iload_n hx hb dX1_power_1 rfl (lv_at hl 1 rfl) ?_
  refine cs_xcallr (vx_runV (As := [.int v]) (rest := []) ⟨hx, hb, hml, hown, hts⟩ (k_X1_findModel l hlf D S ad cy hS v) (cwV 1 hts gX1_power_X1_findModel rfl rfl rfl (by decide +kernel) ⟨(Nat.le_of_ble_eq_true rfl), (Nat.le_of_ble_eq_true rfl)⟩) ⟨cs_Bx.blind, va_recv hK hP (ci := 1) (q0 := 0) rfl rfl, cs_Bx.at hE hz hP hK⟩ rfl rfl hl.1 rfl (lv_room (Nat.le_of_ble_eq_true rfl)) dX1_power_2 ⟨(Nat.le_of_ble_eq_true rfl), (Nat.le_of_ble_eq_true rfl)⟩) (fun E ce q9 H1 h1 h2 h3 h4 h5 h6 => cs_xout hout hlocks (fun E h => Or.inl ⟨(by unfold cs_kPow; simp [cs_k1, cs_k2, cs_nS, cs_pl, cs_bRow, cs_bSer, cs_bDef, h.2]), h.1⟩) (Nat.le_of_ble_eq_true rfl) (Nat.le_of_ble_eq_true rfl) E ce q9 H1 h1 h2 h3 h4 h5 h6) (fun okM => ?_)
  obtain ⟨k, hk, rfl⟩ := cs_mod_of hS okM
  have hk31 : k < 2 ^ 31 := by omega
  have hkc : cs_c (nI k) = k := cs_cI hk31
  obtain ⟨hw1, hw2⟩ := hS.2.1 k hk
  refine cs_topv (y := .ref (ad (8 + k))) (by rw [hkc]) ?_
  refine lv_astore (lv' := [(4, .ref (ad (8 + k))), (0, .ref (ad 0)), (1, .int (nI k)), (2, .long x)]) hx hb dX1_power_5 hl (by decide) rfl (fun ls hl => ?_)
  refine lv_lload_n hx hb dX1_power_7 rfl (lv_at hl 3 rfl) ?_
  refine lv_lconst (v := 0) hx hb dX1_power_8 (by decide) ?_
  refine W.lcmp hx hb dX1_power_9 ?_
  refine lv_if_ge (tgt := 23) hx hb dX1_power_10 (by decide) (fun c_10 => ?_) (fun c_10 => ?_)
  · have h0 : 0 ≤ x := (lg_cmp_ge _ _).mp c_10
    refine lv_aload hx hb dX1_power_23 (lv_at hl 0 rfl) ?_
    refine lv_lload_n hx hb dX1_power_25 rfl (lv_at hl 3 rfl) ?_
    refine vp_callSi (W.runV (As := [.long x]) (rest := []) ⟨hx, hb, hml, hown, hts⟩ (k_X0_powerOfX l D (cs_tys cy) (ad (8 + k)) (cs_w S k) (cs_p S k) (cs_i S k) (cs_x S k) (cs_ri S k) (cs_ro S k) hw2 x) (cwV 1 hts gX1_power_X0_powerOfX rfl rfl rfl (by decide +kernel) ⟨Nat.le_of_ble_eq_true rfl, Nat.le_of_ble_eq_true rfl⟩) ⟨cs_B.blind, va_recv hK (cs_one hP (cs_Lm hk)) (ci := 0) (q0 := 0) rfl rfl, cs_B.at hE (cs_one hP (cs_Lm hk)) hK⟩ rfl rfl hl.1 rfl (lv_room (Nat.le_of_ble_eq_true rfl)) dX1_power_26 ⟨Nat.le_of_ble_eq_true rfl, Nat.le_of_ble_eq_true rfl⟩) (fun r_26 e_26 => ?_)
    subst e_26
    refine W.widen (k := 2) (n := 12) (Nat.le_of_ble_eq_true rfl) (Nat.le_of_ble_eq_true rfl) ?_
    exact vx_ret (W.iret (v := cs_pow (cs_w S k) (cs_p S k) x) hx hb hr (fun t ht _ => ⟨cs_pow (cs_w S k) (cs_p S k) x, rfl, ⟨by unfold cs_kPow; simp [cs_k1, cs_k2, cs_nS, cs_pl, cs_bRow, cs_bSer, cs_bDef, okM, hkc, h0], by unfold cs_vPow; rw [hkc]⟩, ht⟩) (fun q h => by cases h) dX1_power_29)
  · have h0 : ¬ 0 ≤ x := fun z => c_10 ((lg_cmp_ge _ _).mpr z)
    exact cs_throw (cls := cs_IAE) (text := "exponent is negative") hx hb hlf hown hts (by decide +kernel) cs_at1 hE hE.2.1.1 cs_ot1 (fun _ h => by unfold wsX1_power; exact List.mem_cons_of_mem _ (List.mem_append_left _ (List.mem_append_right _ (h)))) (by decide +kernel) (by decide +kernel) (hE.2.2 (68, "exponent is negative") (by decide +kernel)) hz (hl.1.trans hml.symm) dX1_power_13 dX1_power_16 dX1_power_17 dX1_power_19 dX1_power_22 hout (Nat.le_of_ble_eq_true rfl) (Nat.le_of_ble_eq_true rfl) (Nat.le_of_ble_eq_true rfl) (Nat.le_of_ble_eq_true rfl) hlocks (Or.inr (Or.inl ⟨(by unfold cs_kPow; simp [cs_k1, cs_k2, cs_nS, cs_pl, cs_bRow, cs_bSer, cs_bDef, okM, hkc, h0]), rfl⟩)) (Nat.le_of_ble_eq_true rfl) (Nat.le_of_ble_eq_true rfl)
set_option maxHeartbeats 4000000 in
set_option maxRecDepth 100000 in
theorem k_X1_period (l : Launch) (hlf : l.stackTraces = false) (D : va_G) (S : cs_St) (ad : Nat → Nat) (cy : Nat → ClassId) (hS : cs_ok S) (v a : Int32) : cs_Xi l yX1_period wsX1_period ({ frames := 7, cells := 2, slots := 12, locals := 103 }) D (cs_tys cy) (cs_L S ad cy) [.ref (ad 0), .int v, .int a] (fun rr => cs_kPer S v a = 0 ∧ rr = cs_vPer S v a) (cs_E (cs_kPer S v a) cs_IOB cs_IAE "") 2 12 := by
  refine vx_ofW (cc := cX1_period) (maxL := 6) (ret := (some .int)) (by decide) rfl ?_
  intro pg e s m args below meth c s₁ B hml hout hv
  obtain ⟨rfl, hE, hz, hP, hK⟩ := hv
  have hx := B.exec
  have hb := B.bytes
  have hr := B.returns
  have hts := atoms_spec (ws := wsX1_period) B.pre
  have hown : s.vm.findClass RX1 = some m.cls := findClass_of_methodNamed B.named
  have hlocks := B.notSynchronized
  have hl := lv_entry ([.ref (ad 0), .int v, .int a]) (n := 6) (Nat.le_of_ble_eq_true rfl)
  rw [lg_entry_eq]
  generalize (lg_sl ([.ref (ad 0), .int v, .int a]) ++ List.replicate (6 - (lg_sl ([.ref (ad 0), .int v, .int a])).length) Slot.unset).toArray = ls at hl ⊢
  have hl : lv_has ls 6 [(0, .ref (ad 0)), (1, .int v), (2, .int a)] := hl
  have hinX1 : ∀ w ∈ wsX10, w ∈ wsX1_period := fun _ h => by unfold wsX1_period; exact List.mem_cons_of_mem _ (List.mem_append_left _ (List.mem_append_left _ (List.mem_append_left _ (List.mem_append_right _ (h)))))
  have hinX0 : ∀ w ∈ wsX00, w ∈ wsX1_period := fun _ h => by unfold wsX1_period; exact List.mem_cons_of_mem _ (List.mem_append_left _ (List.mem_append_left _ (List.mem_append_right _ (h))))
  have h6 := hS.1
  refine lv_aload_n hx hb dX1_period_0 rfl (lv_at hl 0 rfl) ?_
  refine lv_iload_n hx hb dX1_period_1 rfl (lv_at hl 1 rfl) ?_
  refine cs_xcallr (vx_runV (As := [.int v]) (rest := []) ⟨hx, hb, hml, hown, hts⟩ (k_X1_findModel l hlf D S ad cy hS v) (cwV 1 hts gX1_period_X1_findModel rfl rfl rfl (by decide +kernel) ⟨(Nat.le_of_ble_eq_true rfl), (Nat.le_of_ble_eq_true rfl)⟩) ⟨cs_Bx.blind, va_recv hK hP (ci := 1) (q0 := 0) rfl rfl, cs_Bx.at hE hz hP hK⟩ rfl rfl hl.1 rfl (lv_room (Nat.le_of_ble_eq_true rfl)) dX1_period_2 ⟨(Nat.le_of_ble_eq_true rfl), (Nat.le_of_ble_eq_true rfl)⟩) (fun E ce q9 H1 h1 h2 h3 h4 h5 h6 => cs_xout hout hlocks (fun E h => Or.inl ⟨(by unfold cs_kPer; simp [cs_k1, cs_k2, cs_nS, cs_pl, cs_bRow, cs_bSer, cs_bDef, h.2]), h.1⟩) (Nat.le_of_ble_eq_true rfl) (Nat.le_of_ble_eq_true rfl) E ce q9 H1 h1 h2 h3 h4 h5 h6) (fun okM => ?_)
  obtain ⟨k, hk, rfl⟩ := cs_mod_of hS okM
  have hk31 : k < 2 ^ 31 := by omega
  have hkc : cs_c (nI k) = k := cs_cI hk31
  obtain ⟨hw1, hw2⟩ := hS.2.1 k hk
  refine cs_topv (y := .ref (ad (8 + k))) (by rw [hkc]) ?_
  refine lv_astore_n (lv' := [(3, .ref (ad (8 + k))), (0, .ref (ad 0)), (1, .int (nI k)), (2, .int a)]) hx hb dX1_period_5 rfl hl (by decide) rfl (fun ls hl => ?_)
  refine lv_iload_n hx hb dX1_period_6 rfl (lv_at hl 3 rfl) ?_
  refine lv_iconst (v := 1) hx hb dX1_period_7 (by decide) ?_
  refine lv_icmp_lt (tgt := 17) hx hb dX1_period_8 (by decide) (fun c_8 => ?_) (fun c_8 => ?_)
  · have h0 : cs_in a 1 70000 = false := cs_inF1 (Int32.not_le.mpr c_8)
    exact cs_throw (cls := cs_IAE) (text := "limit is out of range") hx hb hlf hown hts (by decide +kernel) cs_at1 hE hE.2.1.1 cs_ot1 (fun _ h => by unfold wsX1_period; exact List.mem_cons_of_mem _ (List.mem_append_left _ (List.mem_append_right _ (h)))) (by decide +kernel) (by decide +kernel) (hE.2.2 (75, "limit is out of range") (by decide +kernel)) hz (hl.1.trans hml.symm) dX1_period_17 dX1_period_20 dX1_period_21 dX1_period_23 dX1_period_26 hout (Nat.le_of_ble_eq_true rfl) (Nat.le_of_ble_eq_true rfl) (Nat.le_of_ble_eq_true rfl) (Nat.le_of_ble_eq_true rfl) hlocks (Or.inr (Or.inl ⟨(by unfold cs_kPer; simp [cs_k1, cs_k2, cs_nS, cs_pl, cs_bRow, cs_bSer, cs_bDef, okM, hkc, h0]), rfl⟩)) (Nat.le_of_ble_eq_true rfl) (Nat.le_of_ble_eq_true rfl)
  · refine lv_iload_n hx hb dX1_period_11 rfl (lv_at hl 3 rfl) ?_
    refine lv_ldc (v := 70000) hx hb hown (hts (.constant RX1 74 70000) (by decide +kernel)) dX1_period_12 ?_
    refine lv_icmp_le (tgt := 27) hx hb dX1_period_14 (by decide) (fun c_14 => ?_) (fun c_14 => ?_)
    · have h0 : cs_in a 1 70000 = true := cs_inT (Int32.not_lt.mp c_8) c_14
      obtain ⟨lim, hl1, hl2, rfl⟩ := cs_in1_of (n := 70000) (by decide) h0
      have hV : cs_vPer S (nI k) (nI lim) = cs_pe (cs_w S k) (cs_p S k) lim 1 1 := by unfold cs_vPer; rw [hkc, cs_cI (by omega)]
      refine lv_iconst (v := 1) hx hb dX1_period_27 (by decide) ?_
      refine lv_istore (lv' := [(4, .int 1), (3, .ref (ad (8 + k))), (0, .ref (ad 0)), (1, .int (nI k)), (2, .int (nI lim))]) hx hb dX1_period_28 hl (by decide) rfl (fun ls hl => ?_)
      refine lv_iconst (v := 1) hx hb dX1_period_30 (by decide) ?_
      refine lv_istore (lv' := [(5, .int 1), (4, .int 1), (3, .ref (ad (8 + k))), (0, .ref (ad 0)), (1, .int (nI k)), (2, .int (nI lim))]) hx hb dX1_period_31 hl (by decide) rfl (fun ls hl => ?_)
      have okA := h0
      clear h0
      have loop : ∀ (n i : Nat) (t : Int32), i + n = lim + 1 → cs_vPer S (nI k) (nI lim) = cs_pe (cs_w S k) (cs_p S k) n i t → ∀ ls : Array Slot, lv_has ls 6 [(0, .ref (ad 0)), (2, .int (nI lim)), (3, .ref (ad (8 + k))), (4, .int t), (5, .int (nI i))] → W pg l e (headSpec wsX1_period ({ frames := 7, cells := 2, slots := 12, locals := 103 })).room s m [Value.ref (ad 0), Value.int (nI k), Value.int (nI lim)].toArray below meth c s.heap [] 1 6 (vx_MQ below (vp_Si (fun rr => cs_kPer S (nI k) (nI lim) = 0 ∧ rr = cs_vPer S (nI k) (nI lim))) (cs_XC (cs_E (cs_kPer S (nI k) (nI lim)) cs_IOB cs_IAE "")) [Value.ref (ad 0), Value.int (nI k), Value.int (nI lim)].toArray s 2 12 (fun _ => False)) (F0 m 33 ls []) := by
        intro n
        induction n with
        | zero =>
          intro i t hi h0 ls hl
          refine lv_iload hx hb dX1_period_33 (lv_at hl 4 rfl) ?_
          refine lv_iload_n hx hb dX1_period_35 rfl (lv_at hl 1 rfl) ?_
          refine lv_icmp_gt (tgt := 62) hx hb dX1_period_36 (by decide) (fun c_36 => ?_) (fun c_36 => ?_)
          · refine lv_iconst (v := (-1)) hx hb dX1_period_62 (by decide) ?_
            refine W.widen (k := 2) (n := 12) (Nat.le_of_ble_eq_true rfl) (Nat.le_of_ble_eq_true rfl) ?_
            exact vx_ret (W.iret (v := (-1)) hx hb hr (fun t ht _ => ⟨(-1), rfl, ⟨by unfold cs_kPer; simp [cs_k1, cs_k2, cs_nS, cs_pl, cs_bRow, cs_bSer, cs_bDef, okM, hkc, okA], h0.symm⟩, ht⟩) (fun q h => by cases h) dX1_period_63)
          · exact absurd (nI_lt (a := lim) (b := i) (by omega) (by omega)) c_36
        | succ n ih =>
          intro i t hi h0 ls hl
          refine lv_iload hx hb dX1_period_33 (lv_at hl 4 rfl) ?_
          refine lv_iload_n hx hb dX1_period_35 rfl (lv_at hl 1 rfl) ?_
          refine lv_icmp_gt (tgt := 62) hx hb dX1_period_36 (by decide) (fun c_36 => ?_) (fun c_36 => ?_)
          · exact absurd c_36 (nI_nlt (a := lim) (b := i) (by omega) (by omega))
          · refine lv_aload_n hx hb dX1_period_39 rfl (lv_at hl 2 rfl) ?_
            refine lv_iload hx hb dX1_period_40 (lv_at hl 3 rfl) ?_
            refine vp_callSi (W.runV (As := [.int t]) (rest := []) ⟨hx, hb, hml, hown, hts⟩ (k_X0_timesX l D (cs_tys cy) (ad (8 + k)) (cs_w S k) (cs_p S k) (cs_i S k) (cs_x S k) (cs_ri S k) (cs_ro S k) t) (cwV 1 hts gX1_period_X0_timesX rfl rfl rfl (by decide +kernel) ⟨Nat.le_of_ble_eq_true rfl, Nat.le_of_ble_eq_true rfl⟩) ⟨cs_B.blind, va_recv hK (cs_one hP (cs_Lm hk)) (ci := 0) (q0 := 0) rfl rfl, cs_B.at hE (cs_one hP (cs_Lm hk)) hK⟩ rfl rfl hl.1 rfl (lv_room (Nat.le_of_ble_eq_true rfl)) dX1_period_42 ⟨Nat.le_of_ble_eq_true rfl, Nat.le_of_ble_eq_true rfl⟩) (fun r_42 e_42 => ?_)
            subst e_42
            refine lv_istore (lv' := [(4, .int (cs_T (cs_w S k) (cs_p S k) t)), (0, .ref (ad 0)), (2, .int (nI lim)), (3, .ref (ad (8 + k))), (5, .int (nI i))]) hx hb dX1_period_45 hl (by decide) rfl (fun ls hl => ?_)
            refine lv_iload hx hb dX1_period_47 (lv_at hl 0 rfl) ?_
            refine lv_iconst (v := 1) hx hb dX1_period_49 (by decide) ?_
            refine lv_icmp_ne (tgt := 56) hx hb dX1_period_50 (by decide) (fun c_50 => ?_) (fun c_50 => ?_)
            · refine lv_iinc (v := nI (i + 1)) (lv' := [(5, .int (nI (i + 1))), (4, .int (cs_T (cs_w S k) (cs_p S k) t)), (0, .ref (ad 0)), (2, .int (nI lim)), (3, .ref (ad (8 + k)))]) hx hb dX1_period_56 hl (k := 4) rfl (cs_inc1 i) (by decide) rfl (fun ls hl => ?_)
              refine lv_goto (tgt := 33) hx hb dX1_period_59 (by decide) ?_
              exact ih (i + 1) _ (by omega) (h0.trans (by rw [cs_pe, if_neg c_50])) ls (lv_sub hl [2, 3, 4, 1, 0] rfl)
            · refine lv_iload hx hb dX1_period_53 (lv_at hl 4 rfl) ?_
              refine W.widen (k := 2) (n := 12) (Nat.le_of_ble_eq_true rfl) (Nat.le_of_ble_eq_true rfl) ?_
              exact vx_ret (W.iret (v := nI i) hx hb hr (fun t ht _ => ⟨nI i, rfl, ⟨by unfold cs_kPer; simp [cs_k1, cs_k2, cs_nS, cs_pl, cs_bRow, cs_bSer, cs_bDef, okM, hkc, okA], (h0.trans (by rw [cs_pe, if_pos c_50])).symm⟩, ht⟩) (fun q h => by cases h) dX1_period_55)
      exact loop lim 1 1 (by omega) hV ls (lv_sub hl [3, 5, 2, 1, 0] rfl)
    · have h0 : cs_in a 1 70000 = false := cs_inF2 c_14
      exact cs_throw (cls := cs_IAE) (text := "limit is out of range") hx hb hlf hown hts (by decide +kernel) cs_at1 hE hE.2.1.1 cs_ot1 (fun _ h => by unfold wsX1_period; exact List.mem_cons_of_mem _ (List.mem_append_left _ (List.mem_append_right _ (h)))) (by decide +kernel) (by decide +kernel) (hE.2.2 (75, "limit is out of range") (by decide +kernel)) hz (hl.1.trans hml.symm) dX1_period_17 dX1_period_20 dX1_period_21 dX1_period_23 dX1_period_26 hout (Nat.le_of_ble_eq_true rfl) (Nat.le_of_ble_eq_true rfl) (Nat.le_of_ble_eq_true rfl) (Nat.le_of_ble_eq_true rfl) hlocks (Or.inr (Or.inl ⟨(by unfold cs_kPer; simp [cs_k1, cs_k2, cs_nS, cs_pl, cs_bRow, cs_bSer, cs_bDef, okM, hkc, h0]), rfl⟩)) (Nat.le_of_ble_eq_true rfl) (Nat.le_of_ble_eq_true rfl)
set_option maxHeartbeats 4000000 in
set_option maxRecDepth 100000 in
theorem k_X1_length (l : Launch) (hlf : l.stackTraces = false) (D : va_G) (S : cs_St) (ad : Nat → Nat) (cy : Nat → ClassId) (hS : cs_ok S) (v : Int32) : cs_Xi l yX1_length wsX1_length ({ frames := 7, cells := 1, slots := 6, locals := 102 }) D (cs_tys cy) (cs_L S ad cy) [.ref (ad 0), .int v] (fun rr => cs_k1 (cs_in v 0 3) = 0 ∧ rr = nI (cs_ln S (cs_c v))) (cs_E (cs_k1 (cs_in v 0 3)) cs_IOB "" "") 1 6 := by
  refine vx_ofW (cc := cX1_length) (maxL := 2) (ret := (some .int)) (by decide) rfl ?_
  intro pg e s m args below meth c s₁ B hml hout hv
  obtain ⟨rfl, hE, hz, hP, hK⟩ := hv
  have hx := B.exec
  have hb := B.bytes
  have hr := B.returns
  have hts := atoms_spec (ws := wsX1_length) B.pre
  have hown : s.vm.findClass RX1 = some m.cls := findClass_of_methodNamed B.named
  have hlocks := B.notSynchronized
  have hl := lv_entry ([.ref (ad 0), .int v]) (n := 2) (Nat.le_of_ble_eq_true rfl)
  rw [lg_entry_eq]
  generalize (lg_sl ([.ref (ad 0), .int v]) ++ List.replicate (2 - (lg_sl ([.ref (ad 0), .int v])).length) Slot.unset).toArray = ls at hl ⊢
  have hl : lv_has ls 2 [(0, .ref (ad 0)), (1, .int v)] := hl
  have hinX1 : ∀ w ∈ wsX10, w ∈ wsX1_length := fun _ h => by unfold wsX1_length; exact List.mem_cons_of_mem _ (List.mem_append_left _ (List.mem_append_right _ (h)))
  have h6 := hS.1
  refine lv_iload_n hx hb dX1_length_0 rfl (lv_at hl 1 rfl) ?_
  refine cs_xcallv (vx_runS (As := [.int v]) (rest := []) ⟨hx, hb, hml, hown, hts⟩ (k_X1_requireRow l hlf D S ad cy v) (va_cwS 1 hts gX1_length_X1_requireRow rfl rfl rfl (by decide +kernel) ⟨(Nat.le_of_ble_eq_true rfl), (Nat.le_of_ble_eq_true rfl)⟩) ⟨cs_Bx.blind, cs_Bx.at hE hz cs_none hK⟩ rfl rfl hl.1 rfl (lv_room (Nat.le_of_ble_eq_true rfl)) dX1_length_1 ⟨(Nat.le_of_ble_eq_true rfl), (Nat.le_of_ble_eq_true rfl)⟩) (fun E ce q9 H1 h1 h2 h3 h4 h5 h6 => cs_xout hout hlocks (fun E h => Or.inl ⟨(by unfold cs_k1; simp [cs_k1, cs_k2, cs_nS, cs_pl, cs_bRow, cs_bSer, cs_bDef, h.2]), h.1⟩) (Nat.le_of_ble_eq_true rfl) (Nat.le_of_ble_eq_true rfl) E ce q9 H1 h1 h2 h3 h4 h5 h6) (fun okR => ?_)
  obtain ⟨r, hr4, rfl⟩ := cs_row_of okR
  have r31 : r < 2 ^ 31 := by omega
  have rc : cs_c (nI r) = r := cs_cI r31
  have hl8 := hS.2.2.1 r
  refine lv_aload_n hx hb dX1_length_4 rfl (lv_at hl 0 rfl) ?_
  refine va_get (D := D) (ci := 1) (v := .ref (ad 3)) (C := RX1) (T := TX1) (N := 4) hx hb hts hinX1 hown hK hP 0 cs_L0 rfl 3 (by decide) (hts (.fieldLink RX1 24 "ChecksumLab" "sizes" "[I") (by decide +kernel)) (fun _ h9 => h9) rfl dX1_length_5 ?_
  refine lv_iload_n hx hb dX1_length_8 rfl (lv_at hl 1 rfl) ?_
  refine cs_iald hx hb hK hP 3 0 cs_L3 rfl (k := r) (hr4) (by decide) dX1_length_9 ?_
  refine cs_top (y := nI (cs_ln S r)) rfl ?_
  refine W.widen (k := 1) (n := 6) (Nat.le_of_ble_eq_true rfl) (Nat.le_of_ble_eq_true rfl) ?_
  exact vx_ret (W.iret (v := nI (cs_ln S r)) hx hb hr (fun t ht _ => ⟨nI (cs_ln S r), rfl, ⟨by unfold cs_k1; simp [cs_k1, cs_k2, cs_nS, cs_pl, cs_bRow, cs_bSer, cs_bDef, okR, rc], by rw [rc]⟩, ht⟩) (fun q h => by cases h) dX1_length_10)
set_option maxHeartbeats 4000000 in
set_option maxRecDepth 100000 in
theorem k_X1_byteAt (l : Launch) (hlf : l.stackTraces = false) (D : va_G) (S : cs_St) (ad : Nat → Nat) (cy : Nat → ClassId) (hS : cs_ok S) (v u : Int32) : cs_Xi l yX1_byteAt wsX1_byteAt ({ frames := 7, cells := 2, slots := 12, locals := 104 }) D (cs_tys cy) (cs_L S ad cy) [.ref (ad 0), .int v, .int u] (fun rr => cs_k1 (cs_pl S v u) = 0 ∧ rr = cs_vByt S v u) (cs_E (cs_k1 (cs_pl S v u)) cs_IOB "" "") 2 12 := by
  refine vx_ofW (cc := cX1_byteAt) (maxL := 3) (ret := (some .int)) (by decide) rfl ?_
  intro pg e s m args below meth c s₁ B hml hout hv
  obtain ⟨rfl, hE, hz, hP, hK⟩ := hv
  have hx := B.exec
  have hb := B.bytes
  have hr := B.returns
  have hts := atoms_spec (ws := wsX1_byteAt) B.pre
  have hown : s.vm.findClass RX1 = some m.cls := findClass_of_methodNamed B.named
  have hlocks := B.notSynchronized
  have hl := lv_entry ([.ref (ad 0), .int v, .int u]) (n := 3) (Nat.le_of_ble_eq_true rfl)
  rw [lg_entry_eq]
  generalize (lg_sl ([.ref (ad 0), .int v, .int u]) ++ List.replicate (3 - (lg_sl ([.ref (ad 0), .int v, .int u])).length) Slot.unset).toArray = ls at hl ⊢
  have hl : lv_has ls 3 [(0, .ref (ad 0)), (1, .int v), (2, .int u)] := hl
  have hinX1 : ∀ w ∈ wsX10, w ∈ wsX1_byteAt := fun _ h => by unfold wsX1_byteAt; exact List.mem_cons_of_mem _ (List.mem_append_left _ (List.mem_append_right _ (h)))
  have h6 := hS.1
  refine lv_iload_n hx hb dX1_byteAt_0 rfl (lv_at hl 1 rfl) ?_
  refine cs_xcallv (vx_runS (As := [.int v]) (rest := []) ⟨hx, hb, hml, hown, hts⟩ (k_X1_requireRow l hlf D S ad cy v) (va_cwS 1 hts gX1_byteAt_X1_requireRow rfl rfl rfl (by decide +kernel) ⟨(Nat.le_of_ble_eq_true rfl), (Nat.le_of_ble_eq_true rfl)⟩) ⟨cs_Bx.blind, cs_Bx.at hE hz cs_none hK⟩ rfl rfl hl.1 rfl (lv_room (Nat.le_of_ble_eq_true rfl)) dX1_byteAt_1 ⟨(Nat.le_of_ble_eq_true rfl), (Nat.le_of_ble_eq_true rfl)⟩) (fun E ce q9 H1 h1 h2 h3 h4 h5 h6 => cs_xout hout hlocks (fun E h => Or.inl ⟨(by unfold cs_k1; simp [cs_k1, cs_k2, cs_nS, cs_pl, cs_bRow, cs_bSer, cs_bDef, h.2]), h.1⟩) (Nat.le_of_ble_eq_true rfl) (Nat.le_of_ble_eq_true rfl) E ce q9 H1 h1 h2 h3 h4 h5 h6) (fun okR => ?_)
  obtain ⟨r, hr4, rfl⟩ := cs_row_of okR
  have r31 : r < 2 ^ 31 := by omega
  have rc : cs_c (nI r) = r := cs_cI r31
  have hl8 := hS.2.2.1 r
  refine lv_aload_n hx hb dX1_byteAt_4 rfl (lv_at hl 0 rfl) ?_
  refine lv_iload_n hx hb dX1_byteAt_5 rfl (lv_at hl 1 rfl) ?_
  refine lv_iload_n hx hb dX1_byteAt_6 rfl (lv_at hl 2 rfl) ?_
  have rc7 : (nI r).toNatClampNeg = r := rc
  refine cs_xcallv (vx_runV (As := [.int (nI r), .int u]) (rest := []) ⟨hx, hb, hml, hown, hts⟩ (k_X1_requireIndex l hlf D S ad cy hS r hr4 u) (cwV 2 hts gX1_byteAt_X1_requireIndex rfl rfl rfl (by decide +kernel) ⟨(Nat.le_of_ble_eq_true rfl), (Nat.le_of_ble_eq_true rfl)⟩) ⟨cs_Bx.blind, va_recv hK hP (ci := 1) (q0 := 0) rfl rfl, cs_Bx.at hE hz hP hK⟩ rfl rfl hl.1 rfl (lv_room (Nat.le_of_ble_eq_true rfl)) dX1_byteAt_7 ⟨(Nat.le_of_ble_eq_true rfl), (Nat.le_of_ble_eq_true rfl)⟩) (fun E ce q9 H1 h1 h2 h3 h4 h5 h6 => cs_xout hout hlocks (fun E h => Or.inl ⟨(by unfold cs_k1; simp [cs_k1, cs_k2, cs_nS, cs_pl, cs_bRow, cs_bSer, cs_bDef, okR, rc, rc7, h.2]), h.1⟩) (Nat.le_of_ble_eq_true rfl) (Nat.le_of_ble_eq_true rfl) E ce q9 H1 h1 h2 h3 h4 h5 h6) (fun okI => ?_)
  obtain ⟨j, hj, rfl⟩ := cs_idx (hS.2.2.1 r) okI
  have jc : cs_c (nI j) = j := cs_cI (by omega)
  refine lv_aload_n hx hb dX1_byteAt_10 rfl (lv_at hl 0 rfl) ?_
  refine va_get (D := D) (ci := 1) (v := .ref (ad 2)) (C := RX1) (T := TX1) (N := 4) hx hb hts hinX1 hown hK hP 0 cs_L0 rfl 2 (by decide) (hts (.fieldLink RX1 21 "ChecksumLab" "rows" "[[I") (by decide +kernel)) (fun _ h9 => h9) rfl dX1_byteAt_11 ?_
  refine lv_iload_n hx hb dX1_byteAt_14 rfl (lv_at hl 1 rfl) ?_
  refine cs_aldA hx hb hK hP 2 4 cs_L2 rfl (k := r) (hr4) (by decide) dX1_byteAt_15 ?_
  refine cs_topv (y := .ref (ad (4 + r))) (by rw [if_pos (hr4)]; rfl) ?_
  refine lv_iload_n hx hb dX1_byteAt_16 rfl (lv_at hl 2 rfl) ?_
  refine cs_iald hx hb hK hP (4 + r) 0 (cs_Lr hr4) rfl (k := j) (by omega) (by decide) dX1_byteAt_17 ?_
  refine cs_top (y := nI (cs_by S r j)) rfl ?_
  refine W.widen (k := 2) (n := 12) (Nat.le_of_ble_eq_true rfl) (Nat.le_of_ble_eq_true rfl) ?_
  exact vx_ret (W.iret (v := nI (cs_by S r j)) hx hb hr (fun t ht _ => ⟨nI (cs_by S r j), rfl, ⟨by unfold cs_k1; simp [cs_k1, cs_k2, cs_nS, cs_pl, cs_bRow, cs_bSer, cs_bDef, okR, rc, rc7, okI, jc], by unfold cs_vByt; rw [rc, jc]⟩, ht⟩) (fun q h => by cases h) dX1_byteAt_18)
set_option maxHeartbeats 4000000 in
set_option maxRecDepth 100000 in
theorem k_X1_sum (l : Launch) (hlf : l.stackTraces = false) (D : va_G) (S : cs_St) (ad : Nat → Nat) (cy : Nat → ClassId) (hS : cs_ok S) (v u : Int32) : cs_Xi l yX1_sum wsX1_sum ({ frames := 7, cells := 2, slots := 12, locals := 103 }) D (cs_tys cy) (cs_L S ad cy) [.ref (ad 0), .int v, .int u] (fun rr => cs_k1 (cs_M S v && cs_in u 0 3) = 0 ∧ rr = cs_vSum S v u) (cs_E (cs_k1 (cs_M S v && cs_in u 0 3)) cs_IOB "" "") 2 12 := by
  refine vx_ofW (cc := cX1_sum) (maxL := 4) (ret := (some .int)) (by decide) rfl ?_
  intro pg e s m args below meth c s₁ B hml hout hv
  obtain ⟨rfl, hE, hz, hP, hK⟩ := hv
  have hx := B.exec
  have hb := B.bytes
  have hr := B.returns
  have hts := atoms_spec (ws := wsX1_sum) B.pre
  have hown : s.vm.findClass RX1 = some m.cls := findClass_of_methodNamed B.named
  have hlocks := B.notSynchronized
  have hl := lv_entry ([.ref (ad 0), .int v, .int u]) (n := 4) (Nat.le_of_ble_eq_true rfl)
  rw [lg_entry_eq]
  generalize (lg_sl ([.ref (ad 0), .int v, .int u]) ++ List.replicate (4 - (lg_sl ([.ref (ad 0), .int v, .int u])).length) Slot.unset).toArray = ls at hl ⊢
  have hl : lv_has ls 4 [(0, .ref (ad 0)), (1, .int v), (2, .int u)] := hl
  have hinX1 : ∀ w ∈ wsX10, w ∈ wsX1_sum := fun _ h => by unfold wsX1_sum; exact List.mem_cons_of_mem _ (List.mem_append_left _ (List.mem_append_left _ (List.mem_append_right _ (h))))
  have hinX0 : ∀ w ∈ wsX00, w ∈ wsX1_sum := fun _ h => by unfold wsX1_sum; exact List.mem_cons_of_mem _ (List.mem_append_left _ (List.mem_append_right _ (h)))
  have h6 := hS.1
  refine lv_aload_n hx hb dX1_sum_0 rfl (lv_at hl 0 rfl) ?_
  refine lv_iload_n hx hb dX1_sum_1 rfl (lv_at hl 1 rfl) ?_
  refine cs_xcallr (vx_runV (As := [.int v]) (rest := []) ⟨hx, hb, hml, hown, hts⟩ (k_X1_findModel l hlf D S ad cy hS v) (cwV 1 hts gX1_sum_X1_findModel rfl rfl rfl (by decide +kernel) ⟨(Nat.le_of_ble_eq_true rfl), (Nat.le_of_ble_eq_true rfl)⟩) ⟨cs_Bx.blind, va_recv hK hP (ci := 1) (q0 := 0) rfl rfl, cs_Bx.at hE hz hP hK⟩ rfl rfl hl.1 rfl (lv_room (Nat.le_of_ble_eq_true rfl)) dX1_sum_2 ⟨(Nat.le_of_ble_eq_true rfl), (Nat.le_of_ble_eq_true rfl)⟩) (fun E ce q9 H1 h1 h2 h3 h4 h5 h6 => cs_xout hout hlocks (fun E h => Or.inl ⟨(by unfold cs_k1; simp [cs_k1, cs_k2, cs_nS, cs_pl, cs_bRow, cs_bSer, cs_bDef, h.2]), h.1⟩) (Nat.le_of_ble_eq_true rfl) (Nat.le_of_ble_eq_true rfl) E ce q9 H1 h1 h2 h3 h4 h5 h6) (fun okM => ?_)
  obtain ⟨k, hk, rfl⟩ := cs_mod_of hS okM
  have hk31 : k < 2 ^ 31 := by omega
  have hkc : cs_c (nI k) = k := cs_cI hk31
  obtain ⟨hw1, hw2⟩ := hS.2.1 k hk
  refine cs_topv (y := .ref (ad (8 + k))) (by rw [hkc]) ?_
  refine lv_astore_n (lv' := [(3, .ref (ad (8 + k))), (0, .ref (ad 0)), (1, .int (nI k)), (2, .int u)]) hx hb dX1_sum_5 rfl hl (by decide) rfl (fun ls hl => ?_)
  refine lv_iload_n hx hb dX1_sum_6 rfl (lv_at hl 3 rfl) ?_
  refine cs_xcallv (vx_runS (As := [.int u]) (rest := []) ⟨hx, hb, hml, hown, hts⟩ (k_X1_requireRow l hlf D S ad cy u) (va_cwS 1 hts gX1_sum_X1_requireRow rfl rfl rfl (by decide +kernel) ⟨(Nat.le_of_ble_eq_true rfl), (Nat.le_of_ble_eq_true rfl)⟩) ⟨cs_Bx.blind, cs_Bx.at hE hz cs_none hK⟩ rfl rfl hl.1 rfl (lv_room (Nat.le_of_ble_eq_true rfl)) dX1_sum_7 ⟨(Nat.le_of_ble_eq_true rfl), (Nat.le_of_ble_eq_true rfl)⟩) (fun E ce q9 H1 h1 h2 h3 h4 h5 h6 => cs_xout hout hlocks (fun E h => Or.inl ⟨(by unfold cs_k1; simp [cs_k1, cs_k2, cs_nS, cs_pl, cs_bRow, cs_bSer, cs_bDef, okM, hkc, h.2]), h.1⟩) (Nat.le_of_ble_eq_true rfl) (Nat.le_of_ble_eq_true rfl) E ce q9 H1 h1 h2 h3 h4 h5 h6) (fun okR => ?_)
  obtain ⟨r, hr4, rfl⟩ := cs_row_of okR
  have r31 : r < 2 ^ 31 := by omega
  have rc : cs_c (nI r) = r := cs_cI r31
  have hl8 := hS.2.2.1 r
  refine lv_aload_n hx hb dX1_sum_10 rfl (lv_at hl 1 rfl) ?_
  refine lv_aload_n hx hb dX1_sum_11 rfl (lv_at hl 0 rfl) ?_
  refine lv_iload_n hx hb dX1_sum_12 rfl (lv_at hl 3 rfl) ?_
  refine lv_iconst (v := 0) hx hb dX1_sum_13 (by decide) ?_
  refine lv_aload_n hx hb dX1_sum_14 rfl (lv_at hl 1 rfl) ?_
  refine va_get (D := D) (ci := 1) (v := .ref (ad 3)) (C := RX1) (T := TX1) (N := 4) hx hb hts hinX1 hown hK hP 0 cs_L0 rfl 3 (by decide) (hts (.fieldLink RX1 24 "ChecksumLab" "sizes" "[I") (by decide +kernel)) (fun _ h9 => h9) rfl dX1_sum_15 ?_
  refine lv_iload_n hx hb dX1_sum_18 rfl (lv_at hl 3 rfl) ?_
  refine cs_iald hx hb hK hP 3 0 cs_L3 rfl (k := r) (hr4) (by decide) dX1_sum_19 ?_
  refine cs_top (y := nI (cs_ln S r)) rfl ?_
  refine vp_callSi (W.runV (As := [.ref (ad (8 + k)), .int (nI r), .int (nI 0), .int (nI (cs_ln S r))]) (rest := []) ⟨hx, hb, hml, hown, hts⟩ (k_X1_partSum l D S ad cy hS k hk r hr4 0 (cs_ln S r) (Nat.zero_le _) (hl8)) (cwV 4 hts gX1_sum_X1_partSum rfl rfl rfl (by decide +kernel) ⟨Nat.le_of_ble_eq_true rfl, Nat.le_of_ble_eq_true rfl⟩) ⟨cs_B.blind, va_recv hK hP (ci := 1) (q0 := 0) rfl rfl, cs_B.at hE hP hK⟩ rfl rfl hl.1 rfl (lv_room (Nat.le_of_ble_eq_true rfl)) dX1_sum_20 ⟨Nat.le_of_ble_eq_true rfl, Nat.le_of_ble_eq_true rfl⟩) (fun r_20 e_20 => ?_)
  subst e_20
  refine W.widen (k := 2) (n := 12) (Nat.le_of_ble_eq_true rfl) (Nat.le_of_ble_eq_true rfl) ?_
  exact vx_ret (W.iret (v := cs_so (cs_ro S k) (cs_w S k) (cs_ps (cs_w S k) (cs_p S k) (cs_ri S k) (cs_i S k) (cs_by S r) 0 (cs_ln S r - 0)) ^^^ cs_x S k) hx hb hr (fun t ht _ => ⟨cs_so (cs_ro S k) (cs_w S k) (cs_ps (cs_w S k) (cs_p S k) (cs_ri S k) (cs_i S k) (cs_by S r) 0 (cs_ln S r - 0)) ^^^ cs_x S k, rfl, ⟨by unfold cs_k1; simp [cs_k1, cs_k2, cs_nS, cs_pl, cs_bRow, cs_bSer, cs_bDef, okM, hkc, okR, rc], by unfold cs_vSum cs_psS; rw [hkc, rc]; rfl⟩, ht⟩) (fun q h => by cases h) dX1_sum_23)
set_option maxHeartbeats 4000000 in
set_option maxRecDepth 100000 in
theorem k_X1_sumOfPart (l : Launch) (hlf : l.stackTraces = false) (D : va_G) (S : cs_St) (ad : Nat → Nat) (cy : Nat → ClassId) (hS : cs_ok S) (v u a b : Int32) : cs_Xi l yX1_sumOfPart wsX1_sumOfPart ({ frames := 7, cells := 3, slots := 18, locals := 103 }) D (cs_tys cy) (cs_L S ad cy) [.ref (ad 0), .int v, .int u, .int a, .int b] (fun rr => cs_kPar S v u a b = 0 ∧ rr = cs_vPar S v u a b) (cs_E (cs_kPar S v u a b) cs_IOB "" "") 3 18 := by
  refine vx_ofW (cc := cX1_sumOfPart) (maxL := 6) (ret := (some .int)) (by decide) rfl ?_
  intro pg e s m args below meth c s₁ B hml hout hv
  obtain ⟨rfl, hE, hz, hP, hK⟩ := hv
  have hx := B.exec
  have hb := B.bytes
  have hr := B.returns
  have hts := atoms_spec (ws := wsX1_sumOfPart) B.pre
  have hown : s.vm.findClass RX1 = some m.cls := findClass_of_methodNamed B.named
  have hlocks := B.notSynchronized
  have hl := lv_entry ([.ref (ad 0), .int v, .int u, .int a, .int b]) (n := 6) (Nat.le_of_ble_eq_true rfl)
  rw [lg_entry_eq]
  generalize (lg_sl ([.ref (ad 0), .int v, .int u, .int a, .int b]) ++ List.replicate (6 - (lg_sl ([.ref (ad 0), .int v, .int u, .int a, .int b])).length) Slot.unset).toArray = ls at hl ⊢
  have hl : lv_has ls 6 [(0, .ref (ad 0)), (1, .int v), (2, .int u), (3, .int a), (4, .int b)] := hl
  have hinX1 : ∀ w ∈ wsX10, w ∈ wsX1_sumOfPart := fun _ h => by unfold wsX1_sumOfPart; exact List.mem_cons_of_mem _ (List.mem_append_left _ (List.mem_append_left _ (List.mem_append_right _ (h))))
  have hinX0 : ∀ w ∈ wsX00, w ∈ wsX1_sumOfPart := fun _ h => by unfold wsX1_sumOfPart; exact List.mem_cons_of_mem _ (List.mem_append_left _ (List.mem_append_right _ (h)))
  have h6 := hS.1
  refine lv_aload_n hx hb dX1_sumOfPart_0 rfl (lv_at hl 0 rfl) ?_
  refine lv_iload_n hx hb dX1_sumOfPart_1 rfl (lv_at hl 1 rfl) ?_
  refine cs_xcallr (vx_runV (As := [.int v]) (rest := []) ⟨hx, hb, hml, hown, hts⟩ (k_X1_findModel l hlf D S ad cy hS v) (cwV 1 hts gX1_sumOfPart_X1_findModel rfl rfl rfl (by decide +kernel) ⟨(Nat.le_of_ble_eq_true rfl), (Nat.le_of_ble_eq_true rfl)⟩) ⟨cs_Bx.blind, va_recv hK hP (ci := 1) (q0 := 0) rfl rfl, cs_Bx.at hE hz hP hK⟩ rfl rfl hl.1 rfl (lv_room (Nat.le_of_ble_eq_true rfl)) dX1_sumOfPart_2 ⟨(Nat.le_of_ble_eq_true rfl), (Nat.le_of_ble_eq_true rfl)⟩) (fun E ce q9 H1 h1 h2 h3 h4 h5 h6 => cs_xout hout hlocks (fun E h => Or.inl ⟨(by unfold cs_kPar; simp [cs_k1, cs_k2, cs_nS, cs_pl, cs_bRow, cs_bSer, cs_bDef, h.2]), h.1⟩) (Nat.le_of_ble_eq_true rfl) (Nat.le_of_ble_eq_true rfl) E ce q9 H1 h1 h2 h3 h4 h5 h6) (fun okM => ?_)
  obtain ⟨k, hk, rfl⟩ := cs_mod_of hS okM
  have hk31 : k < 2 ^ 31 := by omega
  have hkc : cs_c (nI k) = k := cs_cI hk31
  obtain ⟨hw1, hw2⟩ := hS.2.1 k hk
  refine cs_topv (y := .ref (ad (8 + k))) (by rw [hkc]) ?_
  refine lv_astore (lv' := [(5, .ref (ad (8 + k))), (0, .ref (ad 0)), (1, .int (nI k)), (2, .int u), (3, .int a), (4, .int b)]) hx hb dX1_sumOfPart_5 hl (by decide) rfl (fun ls hl => ?_)
  refine lv_iload_n hx hb dX1_sumOfPart_7 rfl (lv_at hl 3 rfl) ?_
  refine cs_xcallv (vx_runS (As := [.int u]) (rest := []) ⟨hx, hb, hml, hown, hts⟩ (k_X1_requireRow l hlf D S ad cy u) (va_cwS 1 hts gX1_sumOfPart_X1_requireRow rfl rfl rfl (by decide +kernel) ⟨(Nat.le_of_ble_eq_true rfl), (Nat.le_of_ble_eq_true rfl)⟩) ⟨cs_Bx.blind, cs_Bx.at hE hz cs_none hK⟩ rfl rfl hl.1 rfl (lv_room (Nat.le_of_ble_eq_true rfl)) dX1_sumOfPart_8 ⟨(Nat.le_of_ble_eq_true rfl), (Nat.le_of_ble_eq_true rfl)⟩) (fun E ce q9 H1 h1 h2 h3 h4 h5 h6 => cs_xout hout hlocks (fun E h => Or.inl ⟨(by unfold cs_kPar; simp [cs_k1, cs_k2, cs_nS, cs_pl, cs_bRow, cs_bSer, cs_bDef, okM, hkc, h.2]), h.1⟩) (Nat.le_of_ble_eq_true rfl) (Nat.le_of_ble_eq_true rfl) E ce q9 H1 h1 h2 h3 h4 h5 h6) (fun okR => ?_)
  obtain ⟨r, hr4, rfl⟩ := cs_row_of okR
  have r31 : r < 2 ^ 31 := by omega
  have rc : cs_c (nI r) = r := cs_cI r31
  have hl8 := hS.2.2.1 r
  refine lv_iload_n hx hb dX1_sumOfPart_11 rfl (lv_at hl 4 rfl) ?_
  refine lv_if_lt (tgt := 32) hx hb dX1_sumOfPart_12 (by decide) (fun c_12 => ?_) (fun c_12 => ?_)
  · have h0 : cs_in a 0 (nI (cs_ln S r)) = false := cs_inF1 (Int32.not_le.mpr c_12)
    exact cs_throw (cls := cs_IOB) (text := "from or to is out of range") hx hb hlf hown hts (by decide +kernel) cs_at3 hE hE.2.1.2.2.1 cs_ot3 (fun _ h => by unfold wsX1_sumOfPart; exact List.mem_cons_of_mem _ (List.mem_append_right _ (h))) (by decide +kernel) (by decide +kernel) (hE.2.2 (103, "from or to is out of range") (by decide +kernel)) hz (hl.1.trans hml.symm) dX1_sumOfPart_32 dX1_sumOfPart_35 dX1_sumOfPart_36 dX1_sumOfPart_38 dX1_sumOfPart_41 hout (Nat.le_of_ble_eq_true rfl) (Nat.le_of_ble_eq_true rfl) (Nat.le_of_ble_eq_true rfl) (Nat.le_of_ble_eq_true rfl) hlocks (Or.inl ⟨(by unfold cs_kPar; simp [cs_k1, cs_k2, cs_nS, cs_pl, cs_bRow, cs_bSer, cs_bDef, okM, hkc, okR, rc, h0]), rfl⟩) (Nat.le_of_ble_eq_true rfl) (Nat.le_of_ble_eq_true rfl)
  · refine lv_iload_n hx hb dX1_sumOfPart_15 rfl (lv_at hl 4 rfl) ?_
    refine lv_iload hx hb dX1_sumOfPart_16 (lv_at hl 5 rfl) ?_
    refine lv_icmp_gt (tgt := 32) hx hb dX1_sumOfPart_18 (by decide) (fun c_18 => ?_) (fun c_18 => ?_)
    · have h0 : (cs_in a 0 (nI (cs_ln S r)) && cs_in b a (nI (cs_ln S r))) = false := by rw [cs_inF1 (v := b) (Int32.not_le.mpr c_18), Bool.and_false]
      rw [Bool.and_eq_false_iff] at h0
      exact cs_throw (cls := cs_IOB) (text := "from or to is out of range") hx hb hlf hown hts (by decide +kernel) cs_at3 hE hE.2.1.2.2.1 cs_ot3 (fun _ h => by unfold wsX1_sumOfPart; exact List.mem_cons_of_mem _ (List.mem_append_right _ (h))) (by decide +kernel) (by decide +kernel) (hE.2.2 (103, "from or to is out of range") (by decide +kernel)) hz (hl.1.trans hml.symm) dX1_sumOfPart_32 dX1_sumOfPart_35 dX1_sumOfPart_36 dX1_sumOfPart_38 dX1_sumOfPart_41 hout (Nat.le_of_ble_eq_true rfl) (Nat.le_of_ble_eq_true rfl) (Nat.le_of_ble_eq_true rfl) (Nat.le_of_ble_eq_true rfl) hlocks (Or.inl ⟨(cs_par1 (by rw [rc, Bool.and_assoc (c := cs_in b a _), Bool.and_eq_false_iff]; exact Or.inr (by rw [Bool.and_eq_false_iff]; exact h0))), rfl⟩) (Nat.le_of_ble_eq_true rfl) (Nat.le_of_ble_eq_true rfl)
    · refine lv_iload hx hb dX1_sumOfPart_21 (lv_at hl 5 rfl) ?_
      refine lv_aload_n hx hb dX1_sumOfPart_23 rfl (lv_at hl 1 rfl) ?_
      refine va_get (D := D) (ci := 1) (v := .ref (ad 3)) (C := RX1) (T := TX1) (N := 4) hx hb hts hinX1 hown hK hP 0 cs_L0 rfl 3 (by decide) (hts (.fieldLink RX1 24 "ChecksumLab" "sizes" "[I") (by decide +kernel)) (fun _ h9 => h9) rfl dX1_sumOfPart_24 ?_
      refine lv_iload_n hx hb dX1_sumOfPart_27 rfl (lv_at hl 3 rfl) ?_
      refine cs_iald hx hb hK hP 3 0 cs_L3 rfl (k := r) (hr4) (by decide) dX1_sumOfPart_28 ?_
      refine cs_top (y := nI (cs_ln S r)) rfl ?_
      refine lv_icmp_le (tgt := 42) hx hb dX1_sumOfPart_29 (by decide) (fun c_29 => ?_) (fun c_29 => ?_)
      · have h02 : cs_in b a (nI (cs_ln S r)) = true := cs_inT (Int32.not_lt.mp c_18) c_29
        have h01 : cs_in a 0 (nI (cs_ln S r)) = true := cs_inT (Int32.not_lt.mp c_12) (Int32.le_trans (Int32.not_lt.mp c_18) c_29)
        obtain ⟨fr, hf1, rfl⟩ := cs_in_of (n := cs_ln S r) (by omega) h01
        obtain ⟨to, ht1, ht2, rfl⟩ := cs_in2_of (a := fr) (n := cs_ln S r) (by omega) (by omega) h02
        refine lv_aload_n hx hb dX1_sumOfPart_42 rfl (lv_at hl 1 rfl) ?_
        refine lv_aload hx hb dX1_sumOfPart_43 (lv_at hl 0 rfl) ?_
        refine lv_iload_n hx hb dX1_sumOfPart_45 rfl (lv_at hl 3 rfl) ?_
        refine lv_iload_n hx hb dX1_sumOfPart_46 rfl (lv_at hl 4 rfl) ?_
        refine lv_iload hx hb dX1_sumOfPart_47 (lv_at hl 5 rfl) ?_
        refine vp_callSi (W.runV (As := [.ref (ad (8 + k)), .int (nI r), .int (nI fr), .int (nI to)]) (rest := []) ⟨hx, hb, hml, hown, hts⟩ (k_X1_partSum l D S ad cy hS k hk r hr4 fr to (ht1) (by omega)) (cwV 4 hts gX1_sumOfPart_X1_partSum rfl rfl rfl (by decide +kernel) ⟨Nat.le_of_ble_eq_true rfl, Nat.le_of_ble_eq_true rfl⟩) ⟨cs_B.blind, va_recv hK hP (ci := 1) (q0 := 0) rfl rfl, cs_B.at hE hP hK⟩ rfl rfl hl.1 rfl (lv_room (Nat.le_of_ble_eq_true rfl)) dX1_sumOfPart_49 ⟨Nat.le_of_ble_eq_true rfl, Nat.le_of_ble_eq_true rfl⟩) (fun r_49 e_49 => ?_)
        subst e_49
        refine W.widen (k := 3) (n := 18) (Nat.le_of_ble_eq_true rfl) (Nat.le_of_ble_eq_true rfl) ?_
        exact vx_ret (W.iret (v := cs_so (cs_ro S k) (cs_w S k) (cs_ps (cs_w S k) (cs_p S k) (cs_ri S k) (cs_i S k) (cs_by S r) fr (to - fr)) ^^^ cs_x S k) hx hb hr (fun t ht _ => ⟨cs_so (cs_ro S k) (cs_w S k) (cs_ps (cs_w S k) (cs_p S k) (cs_ri S k) (cs_i S k) (cs_by S r) fr (to - fr)) ^^^ cs_x S k, rfl, ⟨by unfold cs_kPar; simp [cs_k1, cs_k2, cs_nS, cs_pl, cs_bRow, cs_bSer, cs_bDef, okM, hkc, okR, rc, h01, h02], by unfold cs_vPar cs_psS; rw [hkc, rc, cs_cI (by omega), cs_cI (by omega)]⟩, ht⟩) (fun q h => by cases h) dX1_sumOfPart_52)
      · have h0 : cs_in b a (nI (cs_ln S r)) = false := cs_inF2 c_29
        exact cs_throw (cls := cs_IOB) (text := "from or to is out of range") hx hb hlf hown hts (by decide +kernel) cs_at3 hE hE.2.1.2.2.1 cs_ot3 (fun _ h => by unfold wsX1_sumOfPart; exact List.mem_cons_of_mem _ (List.mem_append_right _ (h))) (by decide +kernel) (by decide +kernel) (hE.2.2 (103, "from or to is out of range") (by decide +kernel)) hz (hl.1.trans hml.symm) dX1_sumOfPart_32 dX1_sumOfPart_35 dX1_sumOfPart_36 dX1_sumOfPart_38 dX1_sumOfPart_41 hout (Nat.le_of_ble_eq_true rfl) (Nat.le_of_ble_eq_true rfl) (Nat.le_of_ble_eq_true rfl) (Nat.le_of_ble_eq_true rfl) hlocks (Or.inl ⟨(cs_par1 (by rw [rc, h0, Bool.and_false])), rfl⟩) (Nat.le_of_ble_eq_true rfl) (Nat.le_of_ble_eq_true rfl)
set_option maxHeartbeats 4000000 in
set_option maxRecDepth 100000 in
theorem k_X1_remainder (l : Launch) (hlf : l.stackTraces = false) (D : va_G) (S : cs_St) (ad : Nat → Nat) (cy : Nat → ClassId) (hS : cs_ok S) (v u : Int32) : cs_Xi l yX1_remainder wsX1_remainder ({ frames := 7, cells := 2, slots := 12, locals := 103 }) D (cs_tys cy) (cs_L S ad cy) [.ref (ad 0), .int v, .int u] (fun rr => cs_k1 (cs_M S v && cs_in u 0 3) = 0 ∧ rr = cs_vRem S v u) (cs_E (cs_k1 (cs_M S v && cs_in u 0 3)) cs_IOB "" "") 2 12 := by
  refine vx_ofW (cc := cX1_remainder) (maxL := 7) (ret := (some .int)) (by decide) rfl ?_
  intro pg e s m args below meth c s₁ B hml hout hv
  obtain ⟨rfl, hE, hz, hP, hK⟩ := hv
  have hx := B.exec
  have hb := B.bytes
  have hr := B.returns
  have hts := atoms_spec (ws := wsX1_remainder) B.pre
  have hown : s.vm.findClass RX1 = some m.cls := findClass_of_methodNamed B.named
  have hlocks := B.notSynchronized
  have hl := lv_entry ([.ref (ad 0), .int v, .int u]) (n := 7) (Nat.le_of_ble_eq_true rfl)
  rw [lg_entry_eq]
  generalize (lg_sl ([.ref (ad 0), .int v, .int u]) ++ List.replicate (7 - (lg_sl ([.ref (ad 0), .int v, .int u])).length) Slot.unset).toArray = ls at hl ⊢
  have hl : lv_has ls 7 [(0, .ref (ad 0)), (1, .int v), (2, .int u)] := hl
  have hinX1 : ∀ w ∈ wsX10, w ∈ wsX1_remainder := fun _ h => by unfold wsX1_remainder; exact List.mem_cons_of_mem _ (List.mem_append_left _ (List.mem_append_left _ (List.mem_append_right _ (h))))
  have hinX0 : ∀ w ∈ wsX00, w ∈ wsX1_remainder := fun _ h => by unfold wsX1_remainder; exact List.mem_cons_of_mem _ (List.mem_append_left _ (List.mem_append_right _ (h)))
  have h6 := hS.1
  refine lv_aload_n hx hb dX1_remainder_0 rfl (lv_at hl 0 rfl) ?_
  refine lv_iload_n hx hb dX1_remainder_1 rfl (lv_at hl 1 rfl) ?_
  refine cs_xcallr (vx_runV (As := [.int v]) (rest := []) ⟨hx, hb, hml, hown, hts⟩ (k_X1_findModel l hlf D S ad cy hS v) (cwV 1 hts gX1_remainder_X1_findModel rfl rfl rfl (by decide +kernel) ⟨(Nat.le_of_ble_eq_true rfl), (Nat.le_of_ble_eq_true rfl)⟩) ⟨cs_Bx.blind, va_recv hK hP (ci := 1) (q0 := 0) rfl rfl, cs_Bx.at hE hz hP hK⟩ rfl rfl hl.1 rfl (lv_room (Nat.le_of_ble_eq_true rfl)) dX1_remainder_2 ⟨(Nat.le_of_ble_eq_true rfl), (Nat.le_of_ble_eq_true rfl)⟩) (fun E ce q9 H1 h1 h2 h3 h4 h5 h6 => cs_xout hout hlocks (fun E h => Or.inl ⟨(by unfold cs_k1; simp [cs_k1, cs_k2, cs_nS, cs_pl, cs_bRow, cs_bSer, cs_bDef, h.2]), h.1⟩) (Nat.le_of_ble_eq_true rfl) (Nat.le_of_ble_eq_true rfl) E ce q9 H1 h1 h2 h3 h4 h5 h6) (fun okM => ?_)
  obtain ⟨k, hk, rfl⟩ := cs_mod_of hS okM
  have hk31 : k < 2 ^ 31 := by omega
  have hkc : cs_c (nI k) = k := cs_cI hk31
  obtain ⟨hw1, hw2⟩ := hS.2.1 k hk
  refine cs_topv (y := .ref (ad (8 + k))) (by rw [hkc]) ?_
  refine lv_astore_n (lv' := [(3, .ref (ad (8 + k))), (0, .ref (ad 0)), (1, .int (nI k)), (2, .int u)]) hx hb dX1_remainder_5 rfl hl (by decide) rfl (fun ls hl => ?_)
  refine lv_iload_n hx hb dX1_remainder_6 rfl (lv_at hl 3 rfl) ?_
  refine cs_xcallv (vx_runS (As := [.int u]) (rest := []) ⟨hx, hb, hml, hown, hts⟩ (k_X1_requireRow l hlf D S ad cy u) (va_cwS 1 hts gX1_remainder_X1_requireRow rfl rfl rfl (by decide +kernel) ⟨(Nat.le_of_ble_eq_true rfl), (Nat.le_of_ble_eq_true rfl)⟩) ⟨cs_Bx.blind, cs_Bx.at hE hz cs_none hK⟩ rfl rfl hl.1 rfl (lv_room (Nat.le_of_ble_eq_true rfl)) dX1_remainder_7 ⟨(Nat.le_of_ble_eq_true rfl), (Nat.le_of_ble_eq_true rfl)⟩) (fun E ce q9 H1 h1 h2 h3 h4 h5 h6 => cs_xout hout hlocks (fun E h => Or.inl ⟨(by unfold cs_k1; simp [cs_k1, cs_k2, cs_nS, cs_pl, cs_bRow, cs_bSer, cs_bDef, okM, hkc, h.2]), h.1⟩) (Nat.le_of_ble_eq_true rfl) (Nat.le_of_ble_eq_true rfl) E ce q9 H1 h1 h2 h3 h4 h5 h6) (fun okR => ?_)
  obtain ⟨r, hr4, rfl⟩ := cs_row_of okR
  have r31 : r < 2 ^ 31 := by omega
  have rc : cs_c (nI r) = r := cs_cI r31
  have hl8 := hS.2.2.1 r
  refine lv_aload_n hx hb dX1_remainder_10 rfl (lv_at hl 1 rfl) ?_
  refine va_get (D := D) (ci := 1) (v := .ref (ad 3)) (C := RX1) (T := TX1) (N := 4) hx hb hts hinX1 hown hK hP 0 cs_L0 rfl 3 (by decide) (hts (.fieldLink RX1 24 "ChecksumLab" "sizes" "[I") (by decide +kernel)) (fun _ h9 => h9) rfl dX1_remainder_11 ?_
  refine lv_iload_n hx hb dX1_remainder_14 rfl (lv_at hl 3 rfl) ?_
  refine cs_iald hx hb hK hP 3 0 cs_L3 rfl (k := r) (hr4) (by decide) dX1_remainder_15 ?_
  refine cs_top (y := nI (cs_ln S r)) rfl ?_
  refine lv_istore (lv' := [(4, .int (nI (cs_ln S r))), (3, .ref (ad (8 + k))), (0, .ref (ad 0)), (1, .int (nI k)), (2, .int (nI r))]) hx hb dX1_remainder_16 hl (by decide) rfl (fun ls hl => ?_)
  refine lv_iconst (v := 0) hx hb dX1_remainder_18 (by decide) ?_
  refine lv_istore (lv' := [(5, .int 0), (4, .int (nI (cs_ln S r))), (3, .ref (ad (8 + k))), (0, .ref (ad 0)), (1, .int (nI k)), (2, .int (nI r))]) hx hb dX1_remainder_19 hl (by decide) rfl (fun ls hl => ?_)
  refine lv_iconst (v := 0) hx hb dX1_remainder_21 (by decide) ?_
  refine lv_istore (lv' := [(6, .int 0), (5, .int 0), (4, .int (nI (cs_ln S r))), (3, .ref (ad (8 + k))), (0, .ref (ad 0)), (1, .int (nI k)), (2, .int (nI r))]) hx hb dX1_remainder_22 hl (by decide) rfl (fun ls hl => ?_)
  have loop : ∀ (n i : Nat), i + n = cs_ln S r → ∀ ls : Array Slot, lv_has ls 7 [(0, .ref (ad 0)), (2, .int (nI r)), (3, .ref (ad (8 + k))), (4, .int (nI (cs_ln S r))), (5, .int (cs_rs (cs_w S k) (cs_p S k) (cs_by S r) i)), (6, .int (nI i))] → W pg l e (headSpec wsX1_remainder ({ frames := 7, cells := 2, slots := 12, locals := 103 })).room s m [Value.ref (ad 0), Value.int (nI k), Value.int (nI r)].toArray below meth c s.heap [] 2 12 (vx_MQ below (vp_Si (fun rr => cs_k1 (cs_M S (nI k) && cs_in (nI r) 0 3) = 0 ∧ rr = cs_vRem S (nI k) (nI r))) (cs_XC (cs_E (cs_k1 (cs_M S (nI k) && cs_in (nI r) 0 3)) cs_IOB "" "")) [Value.ref (ad 0), Value.int (nI k), Value.int (nI r)].toArray s 2 12 (fun _ => False)) (F0 m 24 ls []) := by
    intro n
    induction n with
    | zero =>
      intro i hi ls hl
      refine lv_iload hx hb dX1_remainder_24 (lv_at hl 5 rfl) ?_
      refine lv_iload hx hb dX1_remainder_26 (lv_at hl 3 rfl) ?_
      refine lv_icmp_ge (tgt := 54) hx hb dX1_remainder_28 (by decide) (fun c_28 => ?_) (fun c_28 => ?_)
      · refine lv_iload hx hb dX1_remainder_54 (lv_at hl 4 rfl) ?_
        refine W.widen (k := 2) (n := 12) (Nat.le_of_ble_eq_true rfl) (Nat.le_of_ble_eq_true rfl) ?_
        exact vx_ret (W.iret (v := cs_rs (cs_w S k) (cs_p S k) (cs_by S r) i) hx hb hr (fun t ht _ => ⟨cs_rs (cs_w S k) (cs_p S k) (cs_by S r) i, rfl, ⟨by unfold cs_k1; simp [cs_k1, cs_k2, cs_nS, cs_pl, cs_bRow, cs_bSer, cs_bDef, okM, hkc, okR, rc], by unfold cs_vRem; rw [hkc, rc, ← hi, Nat.add_zero]⟩, ht⟩) (fun q h => by cases h) dX1_remainder_56)
      · exact absurd (nI_le (a := cs_ln S r) (b := i) (by omega) (by omega)) c_28
    | succ n ih =>
      intro i hi ls hl
      refine lv_iload hx hb dX1_remainder_24 (lv_at hl 5 rfl) ?_
      refine lv_iload hx hb dX1_remainder_26 (lv_at hl 3 rfl) ?_
      refine lv_icmp_ge (tgt := 54) hx hb dX1_remainder_28 (by decide) (fun c_28 => ?_) (fun c_28 => ?_)
      · exact absurd c_28 (nI_ge (a := i) (b := cs_ln S r) (by omega) (by omega))
      · refine lv_aload_n hx hb dX1_remainder_31 rfl (lv_at hl 2 rfl) ?_
        refine lv_iload hx hb dX1_remainder_32 (lv_at hl 4 rfl) ?_
        refine lv_aload_n hx hb dX1_remainder_34 rfl (lv_at hl 0 rfl) ?_
        refine va_get (D := D) (ci := 1) (v := .ref (ad 2)) (C := RX1) (T := TX1) (N := 4) hx hb hts hinX1 hown hK hP 0 cs_L0 rfl 2 (by decide) (hts (.fieldLink RX1 21 "ChecksumLab" "rows" "[[I") (by decide +kernel)) (fun _ h9 => h9) rfl dX1_remainder_35 ?_
        refine lv_iload_n hx hb dX1_remainder_38 rfl (lv_at hl 1 rfl) ?_
        refine cs_aldA hx hb hK hP 2 4 cs_L2 rfl (k := r) (hr4) (by decide) dX1_remainder_39 ?_
        refine cs_topv (y := .ref (ad (4 + r))) (by rw [if_pos (hr4)]; rfl) ?_
        refine lv_iload hx hb dX1_remainder_40 (lv_at hl 5 rfl) ?_
        refine cs_iald hx hb hK hP (4 + r) 0 (cs_Lr hr4) rfl (k := i) (by omega) (by decide) dX1_remainder_42 ?_
        refine cs_top (y := nI (cs_by S r i)) rfl ?_
        refine vp_callSi (W.runV (As := [.int (cs_rs (cs_w S k) (cs_p S k) (cs_by S r) i), .int (nI (cs_by S r i))]) (rest := []) ⟨hx, hb, hml, hown, hts⟩ (k_X0_divideByte l D (cs_tys cy) (ad (8 + k)) (cs_w S k) (cs_p S k) (cs_i S k) (cs_x S k) (cs_ri S k) (cs_ro S k) (cs_rs (cs_w S k) (cs_p S k) (cs_by S r) i) (nI (cs_by S r i))) (cwV 2 hts gX1_remainder_X0_divideByte rfl rfl rfl (by decide +kernel) ⟨Nat.le_of_ble_eq_true rfl, Nat.le_of_ble_eq_true rfl⟩) ⟨cs_B.blind, va_recv hK (cs_one hP (cs_Lm hk)) (ci := 0) (q0 := 0) rfl rfl, cs_B.at hE (cs_one hP (cs_Lm hk)) hK⟩ rfl rfl hl.1 rfl (lv_room (Nat.le_of_ble_eq_true rfl)) dX1_remainder_43 ⟨Nat.le_of_ble_eq_true rfl, Nat.le_of_ble_eq_true rfl⟩) (fun r_43 e_43 => ?_)
        subst e_43
        refine lv_istore (lv' := [(5, .int (cs_dv (cs_w S k) (cs_p S k) (nI (cs_by S r i)) 8 (cs_rs (cs_w S k) (cs_p S k) (cs_by S r) i))), (0, .ref (ad 0)), (2, .int (nI r)), (3, .ref (ad (8 + k))), (4, .int (nI (cs_ln S r))), (6, .int (nI i))]) hx hb dX1_remainder_46 hl (by decide) rfl (fun ls hl => ?_)
        refine lv_iinc (v := nI (i + 1)) (lv' := [(6, .int (nI (i + 1))), (5, .int (cs_dv (cs_w S k) (cs_p S k) (nI (cs_by S r i)) 8 (cs_rs (cs_w S k) (cs_p S k) (cs_by S r) i))), (0, .ref (ad 0)), (2, .int (nI r)), (3, .ref (ad (8 + k))), (4, .int (nI (cs_ln S r)))]) hx hb dX1_remainder_48 hl (k := 5) rfl (cs_inc1 i) (by decide) rfl (fun ls hl => ?_)
        refine lv_goto (tgt := 24) hx hb dX1_remainder_51 (by decide) ?_
        exact ih (i + 1) (by omega) ls (lv_sub hl [2, 3, 4, 5, 1, 0] rfl)
  exact loop (cs_ln S r) 0 (by omega) ls (lv_sub hl [4, 6, 3, 2, 1, 0] rfl)
