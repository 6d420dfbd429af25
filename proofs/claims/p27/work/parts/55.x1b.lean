set_option maxHeartbeats 4000000 in
set_option maxRecDepth 100000 in
theorem k_X1_requireIndex (l : Launch) (hlf : l.stackTraces = false) (D : va_G) (S : cs_St) (ad : Nat → Nat) (cy : Nat → ClassId) (hS : cs_ok S) (r : Nat) (hr4 : r < 4) (v : Int32) : cs_Xv l yX1_requireIndex wsX1_requireIndex ({ frames := 6, cells := 1, slots := 6, locals := 82 }) D (cs_tys cy) (cs_L S ad cy) [.ref (ad 0), .int (nI r), .int v] (cs_in v 0 (nI (cs_ln S r) - 1) = true) (cs_bad cs_IOB (cs_in v 0 (nI (cs_ln S r) - 1))) 1 6 := by
  refine vx_ofW (cc := cX1_requireIndex) (maxL := 3) (ret := none) (by decide) rfl ?_
  intro pg e s m args below meth c s₁ B hml hout hv
  obtain ⟨rfl, hE, hz, hP, hK⟩ := hv
  have hx := B.exec
  have hb := B.bytes
  have hr := B.returns
  have hts := atoms_spec (ws := wsX1_requireIndex) B.pre
  have hown : s.vm.findClass RX1 = some m.cls := findClass_of_methodNamed B.named
  have hlocks := B.notSynchronized
  have hl := lv_entry ([.ref (ad 0), .int (nI r), .int v]) (n := 3) (Nat.le_of_ble_eq_true rfl)
  rw [lg_entry_eq]
  generalize (lg_sl ([.ref (ad 0), .int (nI r), .int v]) ++ List.replicate (3 - (lg_sl ([.ref (ad 0), .int (nI r), .int v])).length) Slot.unset).toArray = ls at hl ⊢
  have hl : lv_has ls 3 [(0, .ref (ad 0)), (1, .int (nI r)), (2, .int v)] := hl
  have hinX1 : ∀ w ∈ wsX10, w ∈ wsX1_requireIndex := fun _ h => by unfold wsX1_requireIndex; exact List.mem_cons_of_mem _ (List.mem_append_left _ (List.mem_append_right _ (h)))
  refine lv_iload_n hx hb dX1_requireIndex_0 rfl (lv_at hl 2 rfl) ?_
  refine lv_if_lt (tgt := 14) hx hb dX1_requireIndex_1 (by decide) (fun c_1 => ?_) (fun c_1 => ?_)
  · exact cs_throw (cls := cs_IOB) (text := "no such index") hx hb hlf hown hts (by decide +kernel) cs_at3 hE hE.2.1.2.2.1 cs_ot3 (fun _ h => by unfold wsX1_requireIndex; exact List.mem_cons_of_mem _ (List.mem_append_right _ (h))) (by decide +kernel) (by decide +kernel) (hE.2.2 (151, "no such index") (by decide +kernel)) hz (hl.1.trans hml.symm) dX1_requireIndex_14 dX1_requireIndex_17 dX1_requireIndex_18 dX1_requireIndex_20 dX1_requireIndex_23 hout (Nat.le_of_ble_eq_true rfl) (Nat.le_of_ble_eq_true rfl) (Nat.le_of_ble_eq_true rfl) (Nat.le_of_ble_eq_true rfl) hlocks (⟨rfl, cs_inF1 (Int32.not_le.mpr c_1)⟩) (Nat.le_of_ble_eq_true rfl) (Nat.le_of_ble_eq_true rfl)
  · refine lv_iload_n hx hb dX1_requireIndex_4 rfl (lv_at hl 2 rfl) ?_
    refine lv_aload_n hx hb dX1_requireIndex_5 rfl (lv_at hl 0 rfl) ?_
    refine va_get (D := D) (ci := 1) (v := .ref (ad 3)) (C := RX1) (T := TX1) (N := 4) hx hb hts hinX1 hown hK hP 0 cs_L0 rfl 3 (by decide) (hts (.fieldLink RX1 24 "ChecksumLab" "sizes" "[I") (by decide +kernel)) (fun _ h9 => h9) rfl dX1_requireIndex_6 ?_
    refine lv_iload_n hx hb dX1_requireIndex_9 rfl (lv_at hl 1 rfl) ?_
    refine cs_iald hx hb hK hP 3 0 cs_L3 rfl (k := r) (hr4) (by decide) dX1_requireIndex_10 ?_
    refine cs_top (y := nI (cs_ln S r)) rfl ?_
    refine lv_icmp_lt (tgt := 24) hx hb dX1_requireIndex_11 (by decide) (fun c_11 => ?_) (fun c_11 => ?_)
    · refine W.widen (k := 1) (n := 6) (Nat.le_of_ble_eq_true rfl) (Nat.le_of_ble_eq_true rfl) ?_
      exact vx_ret (W.vret hx hb hr (fun t ht _ => ⟨rfl, cs_pl1 (hS.2.2.1 r) c_1 c_11, ht⟩) (fun q h => by cases h) dX1_requireIndex_24)
    · exact cs_throw (cls := cs_IOB) (text := "no such index") hx hb hlf hown hts (by decide +kernel) cs_at3 hE hE.2.1.2.2.1 cs_ot3 (fun _ h => by unfold wsX1_requireIndex; exact List.mem_cons_of_mem _ (List.mem_append_right _ (h))) (by decide +kernel) (by decide +kernel) (hE.2.2 (151, "no such index") (by decide +kernel)) hz (hl.1.trans hml.symm) dX1_requireIndex_14 dX1_requireIndex_17 dX1_requireIndex_18 dX1_requireIndex_20 dX1_requireIndex_23 hout (Nat.le_of_ble_eq_true rfl) (Nat.le_of_ble_eq_true rfl) (Nat.le_of_ble_eq_true rfl) (Nat.le_of_ble_eq_true rfl) hlocks (⟨rfl, cs_pl0 (hS.2.2.1 r) c_11⟩) (Nat.le_of_ble_eq_true rfl) (Nat.le_of_ble_eq_true rfl)
set_option maxHeartbeats 4000000 in
set_option maxRecDepth 100000 in
theorem k_X1_requireRoom (l : Launch) (hlf : l.stackTraces = false) (D : va_G) (S : cs_St) (ad : Nat → Nat) (cy : Nat → ClassId) (r : Nat) (hr4 : r < 4) (v : Int32) : cs_Xv l yX1_requireRoom wsX1_requireRoom ({ frames := 6, cells := 1, slots := 6, locals := 82 }) D (cs_tys cy) (cs_L S ad cy) [.ref (ad 0), .int (nI r), .int v] (v ≤ 256 - nI (cs_ln S r)) (cs_bad cs_ISE (decide (v ≤ 256 - nI (cs_ln S r)))) 1 6 := by
  refine vx_ofW (cc := cX1_requireRoom) (maxL := 3) (ret := none) (by decide) rfl ?_
  intro pg e s m args below meth c s₁ B hml hout hv
  obtain ⟨rfl, hE, hz, hP, hK⟩ := hv
  have hx := B.exec
  have hb := B.bytes
  have hr := B.returns
  have hts := atoms_spec (ws := wsX1_requireRoom) B.pre
  have hown : s.vm.findClass RX1 = some m.cls := findClass_of_methodNamed B.named
  have hlocks := B.notSynchronized
  have hl := lv_entry ([.ref (ad 0), .int (nI r), .int v]) (n := 3) (Nat.le_of_ble_eq_true rfl)
  rw [lg_entry_eq]
  generalize (lg_sl ([.ref (ad 0), .int (nI r), .int v]) ++ List.replicate (3 - (lg_sl ([.ref (ad 0), .int (nI r), .int v])).length) Slot.unset).toArray = ls at hl ⊢
  have hl : lv_has ls 3 [(0, .ref (ad 0)), (1, .int (nI r)), (2, .int v)] := hl
  have hinX1 : ∀ w ∈ wsX10, w ∈ wsX1_requireRoom := fun _ h => by unfold wsX1_requireRoom; exact List.mem_cons_of_mem _ (List.mem_append_left _ (List.mem_append_right _ (h)))
  refine lv_iload_n hx hb dX1_requireRoom_0 rfl (lv_at hl 2 rfl) ?_
  refine lv_sipush (v := 256) hx hb dX1_requireRoom_1 (by decide) ?_
  refine lv_aload_n hx hb dX1_requireRoom_4 rfl (lv_at hl 0 rfl) ?_
  refine va_get (D := D) (ci := 1) (v := .ref (ad 3)) (C := RX1) (T := TX1) (N := 4) hx hb hts hinX1 hown hK hP 0 cs_L0 rfl 3 (by decide) (hts (.fieldLink RX1 24 "ChecksumLab" "sizes" "[I") (by decide +kernel)) (fun _ h9 => h9) rfl dX1_requireRoom_5 ?_
  refine lv_iload_n hx hb dX1_requireRoom_8 rfl (lv_at hl 1 rfl) ?_
  refine cs_iald hx hb hK hP 3 0 cs_L3 rfl (k := r) (hr4) (by decide) dX1_requireRoom_9 ?_
  refine cs_top (y := nI (cs_ln S r)) rfl ?_
  refine lv_isub hx hb dX1_requireRoom_10 ?_
  refine lv_icmp_le (tgt := 24) hx hb dX1_requireRoom_11 (by decide) (fun c_11 => ?_) (fun c_11 => ?_)
  · refine W.widen (k := 1) (n := 6) (Nat.le_of_ble_eq_true rfl) (Nat.le_of_ble_eq_true rfl) ?_
    exact vx_ret (W.vret hx hb hr (fun t ht _ => ⟨rfl, c_11, ht⟩) (fun q h => by cases h) dX1_requireRoom_24)
  · exact cs_throw (cls := cs_ISE) (text := "the row would have more than 256 bytes") hx hb hlf hown hts (by decide +kernel) cs_at2 hE hE.2.1.2.1 cs_ot2 (fun _ h => by unfold wsX1_requireRoom; exact List.mem_cons_of_mem _ (List.mem_append_right _ (h))) (by decide +kernel) (by decide +kernel) (hE.2.2 (153, "the row would have more than 256 bytes") (by decide +kernel)) hz (hl.1.trans hml.symm) dX1_requireRoom_14 dX1_requireRoom_17 dX1_requireRoom_18 dX1_requireRoom_20 dX1_requireRoom_23 hout (Nat.le_of_ble_eq_true rfl) (Nat.le_of_ble_eq_true rfl) (Nat.le_of_ble_eq_true rfl) (Nat.le_of_ble_eq_true rfl) hlocks (⟨rfl, decide_eq_false c_11⟩) (Nat.le_of_ble_eq_true rfl) (Nat.le_of_ble_eq_true rfl)
set_option maxHeartbeats 4000000 in
set_option maxRecDepth 100000 in
theorem k_X1_findModel (l : Launch) (hlf : l.stackTraces = false) (D : va_G) (S : cs_St) (ad : Nat → Nat) (cy : Nat → ClassId) (hS : cs_ok S) (v : Int32) : cs_Xr l yX1_findModel wsX1_findModel ({ frames := 6, cells := 1, slots := 6, locals := 82 }) D (cs_tys cy) (cs_L S ad cy) [.ref (ad 0), .int v] (ad (8 + cs_c v)) (cs_M S v = true) (cs_bad cs_IOB (cs_M S v)) 1 6 := by
  refine vx_ofW (cc := cX1_findModel) (maxL := 2) (ret := (some (.object "ChecksumLab$Model"))) (by decide) rfl ?_
  intro pg e s m args below meth c s₁ B hml hout hv
  obtain ⟨rfl, hE, hz, hP, hK⟩ := hv
  have hx := B.exec
  have hb := B.bytes
  have hr := B.returns
  have hts := atoms_spec (ws := wsX1_findModel) B.pre
  have hown : s.vm.findClass RX1 = some m.cls := findClass_of_methodNamed B.named
  have hlocks := B.notSynchronized
  have hl := lv_entry ([.ref (ad 0), .int v]) (n := 2) (Nat.le_of_ble_eq_true rfl)
  rw [lg_entry_eq]
  generalize (lg_sl ([.ref (ad 0), .int v]) ++ List.replicate (2 - (lg_sl ([.ref (ad 0), .int v])).length) Slot.unset).toArray = ls at hl ⊢
  have hl : lv_has ls 2 [(0, .ref (ad 0)), (1, .int v)] := hl
  have hinX1 : ∀ w ∈ wsX10, w ∈ wsX1_findModel := fun _ h => by unfold wsX1_findModel; exact List.mem_cons_of_mem _ (List.mem_append_left _ (List.mem_append_right _ (h)))
  have h6 := hS.1
  refine lv_iload_n hx hb dX1_findModel_0 rfl (lv_at hl 1 rfl) ?_
  refine lv_if_lt (tgt := 22) hx hb dX1_findModel_1 (by decide) (fun c_1 => ?_) (fun c_1 => ?_)
  · exact cs_throw (cls := cs_IOB) (text := "no such model") hx hb hlf hown hts (by decide +kernel) cs_at3 hE hE.2.1.2.2.1 cs_ot3 (fun _ h => by unfold wsX1_findModel; exact List.mem_cons_of_mem _ (List.mem_append_right _ (h))) (by decide +kernel) (by decide +kernel) (hE.2.2 (147, "no such model") (by decide +kernel)) hz (hl.1.trans hml.symm) dX1_findModel_22 dX1_findModel_25 dX1_findModel_26 dX1_findModel_28 dX1_findModel_31 hout (Nat.le_of_ble_eq_true rfl) (Nat.le_of_ble_eq_true rfl) (Nat.le_of_ble_eq_true rfl) (Nat.le_of_ble_eq_true rfl) hlocks (⟨rfl, cs_inF1 (Int32.not_le.mpr c_1)⟩) (Nat.le_of_ble_eq_true rfl) (Nat.le_of_ble_eq_true rfl)
  · refine lv_iload_n hx hb dX1_findModel_4 rfl (lv_at hl 1 rfl) ?_
    refine lv_aload_n hx hb dX1_findModel_5 rfl (lv_at hl 0 rfl) ?_
    refine va_get (D := D) (ci := 1) (v := .ref (ad 1)) (C := RX1) (T := TX1) (N := 4) hx hb hts hinX1 hown hK hP 0 cs_L0 rfl 0 (by decide) (hts (.fieldLink RX1 11 "ChecksumLab" "defined" "[LChecksumLab$Model;") (by decide +kernel)) (fun _ h9 => h9) rfl dX1_findModel_6 ?_
    refine va_alen (v := 6) hx hb hK hP 1 3 cs_L1 rfl rfl dX1_findModel_9 ?_
    refine lv_icmp_ge (tgt := 22) hx hb dX1_findModel_10 (by decide) (fun c_10 => ?_) (fun c_10 => ?_)
    · exact cs_throw (cls := cs_IOB) (text := "no such model") hx hb hlf hown hts (by decide +kernel) cs_at3 hE hE.2.1.2.2.1 cs_ot3 (fun _ h => by unfold wsX1_findModel; exact List.mem_cons_of_mem _ (List.mem_append_right _ (h))) (by decide +kernel) (by decide +kernel) (hE.2.2 (147, "no such model") (by decide +kernel)) hz (hl.1.trans hml.symm) dX1_findModel_22 dX1_findModel_25 dX1_findModel_26 dX1_findModel_28 dX1_findModel_31 hout (Nat.le_of_ble_eq_true rfl) (Nat.le_of_ble_eq_true rfl) (Nat.le_of_ble_eq_true rfl) (Nat.le_of_ble_eq_true rfl) hlocks (⟨rfl, cs_M6 h6 c_10⟩) (Nat.le_of_ble_eq_true rfl) (Nat.le_of_ble_eq_true rfl)
    · obtain ⟨k, hk6, rfl⟩ := cs_ix6 c_1 c_10
      have hkc : cs_c (nI k) = k := cs_cI (by omega)
      refine lv_aload_n hx hb dX1_findModel_13 rfl (lv_at hl 0 rfl) ?_
      refine va_get (D := D) (ci := 1) (v := .ref (ad 1)) (C := RX1) (T := TX1) (N := 4) hx hb hts hinX1 hown hK hP 0 cs_L0 rfl 0 (by decide) (hts (.fieldLink RX1 11 "ChecksumLab" "defined" "[LChecksumLab$Model;") (by decide +kernel)) (fun _ h9 => h9) rfl dX1_findModel_14 ?_
      refine lv_iload_n hx hb dX1_findModel_17 rfl (lv_at hl 1 rfl) ?_
      refine cs_aldq hx hb hK hP 1 3 cs_L1 rfl (k := k) hk6 (by decide) dX1_findModel_18 ?_
      by_cases hk : k < cs_n S
      · refine cs_topv (y := .ref (ad (8 + k))) (by rw [if_pos hk]; rfl) ?_
        refine lv_ifnonnull (tgt := 32) hx hb dX1_findModel_19 (by decide) ?_
        refine lv_aload_n hx hb dX1_findModel_32 rfl (lv_at hl 0 rfl) ?_
        refine va_get (D := D) (ci := 1) (v := .ref (ad 1)) (C := RX1) (T := TX1) (N := 4) hx hb hts hinX1 hown hK hP 0 cs_L0 rfl 0 (by decide) (hts (.fieldLink RX1 11 "ChecksumLab" "defined" "[LChecksumLab$Model;") (by decide +kernel)) (fun _ h9 => h9) rfl dX1_findModel_33 ?_
        refine lv_iload_n hx hb dX1_findModel_36 rfl (lv_at hl 1 rfl) ?_
        refine cs_aldq hx hb hK hP 1 3 cs_L1 rfl (k := k) hk6 (by decide) dX1_findModel_37 ?_
        refine cs_topv (y := .ref (ad (8 + k))) (by rw [if_pos hk]; rfl) ?_
        refine W.widen (k := 1) (n := 6) (Nat.le_of_ble_eq_true rfl) (Nat.le_of_ble_eq_true rfl) ?_
        exact vx_ret (W.aret (v := .ref (ad (8 + k))) hx hb hr (Or.inl ⟨_, rfl⟩) (Or.inr ⟨_, rfl⟩) (fun t ht _ => ⟨by rw [hkc], cs_in_mod hk h6, ht⟩) (fun q h => by cases h) dX1_findModel_38)
      · refine cs_topv (y := .null) (by rw [if_neg hk]; rfl) ?_
        refine lv_ifnonnullN hx hb dX1_findModel_19 ?_
        exact cs_throw (cls := cs_IOB) (text := "no such model") hx hb hlf hown hts (by decide +kernel) cs_at3 hE hE.2.1.2.2.1 cs_ot3 (fun _ h => by unfold wsX1_findModel; exact List.mem_cons_of_mem _ (List.mem_append_right _ (h))) (by decide +kernel) (by decide +kernel) (hE.2.2 (147, "no such model") (by decide +kernel)) hz (hl.1.trans hml.symm) dX1_findModel_22 dX1_findModel_25 dX1_findModel_26 dX1_findModel_28 dX1_findModel_31 hout (Nat.le_of_ble_eq_true rfl) (Nat.le_of_ble_eq_true rfl) (Nat.le_of_ble_eq_true rfl) (Nat.le_of_ble_eq_true rfl) hlocks (⟨rfl, cs_Mn h6 hk6 hk⟩) (Nat.le_of_ble_eq_true rfl) (Nat.le_of_ble_eq_true rfl)

