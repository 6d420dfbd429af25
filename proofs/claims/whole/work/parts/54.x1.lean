theorem cs_lt4 {v : Int32} (h : v < 4) : v ≤ 3 := by
  rw [Int32.lt_iff_toInt_lt] at h
  rw [Int32.le_iff_toInt_le]
  have e4 : (4 : Int32).toInt = 4 := by decide
  have e3 : (3 : Int32).toInt = 3 := by decide
  omega
theorem cs_le3 {v : Int32} (h : v ≤ 3) : v < 4 := by
  rw [Int32.le_iff_toInt_le] at h
  rw [Int32.lt_iff_toInt_lt]
  have e4 : (4 : Int32).toInt = 4 := by decide
  have e3 : (3 : Int32).toInt = 3 := by decide
  omega
set_option maxHeartbeats 4000000 in
set_option maxRecDepth 100000 in
theorem k_X1_requireRow (l : Launch) (hlf : l.stackTraces = false) (D : va_G) (S : cs_St) (ad : Nat → Nat) (cy : Nat → ClassId) (v : Int32) : cs_Xv l yX1_requireRow wsX1_requireRow ({ frames := 6, cells := 1, slots := 6, locals := 82 }) D (cs_tys cy) [] [.int v] (cs_in v 0 3 = true) (cs_bad cs_IOB (cs_in v 0 3)) 1 6 := by
  refine vx_ofW (cc := cX1_requireRow) (maxL := 1) (ret := none) (by decide) rfl ?_
  intro pg e s m args below meth c s₁ B hml hout hv
  obtain ⟨rfl, hE, hz, hP, hK⟩ := hv
  have hx := B.exec
  have hb := B.bytes
  have hr := B.returns
  have hts := atoms_spec (ws := wsX1_requireRow) B.pre
  have hown : s.vm.findClass RX1 = some m.cls := findClass_of_methodNamed B.named
  have hlocks := B.notSynchronized
  have hl := lv_entry ([.int v]) (n := 1) (Nat.le_of_ble_eq_true rfl)
  rw [lg_entry_eq]
  generalize (lg_sl ([.int v]) ++ List.replicate (1 - (lg_sl ([.int v])).length) Slot.unset).toArray = ls at hl ⊢
  have hl : lv_has ls 1 [(0, .int v)] := hl
  refine lv_iload_n hx hb dX1_requireRow_0 rfl (lv_at hl 0 rfl) ?_
  refine lv_if_lt (tgt := 9) hx hb dX1_requireRow_1 (by decide) (fun c_1 => ?_) (fun c_1 => ?_)
  · exact cs_throw (cls := cs_IOB) (text := "no such row") hx hb hlf hown hts (by decide +kernel) cs_at3 hE hE.2.1.2.2.1 cs_ot3 (fun _ h => by unfold wsX1_requireRow; exact List.mem_cons_of_mem _ (List.mem_append_right _ (h))) (by decide +kernel) (by decide +kernel) (hE.2.2 (149, "no such row") (by decide +kernel)) hz (hl.1.trans hml.symm) dX1_requireRow_9 dX1_requireRow_12 dX1_requireRow_13 dX1_requireRow_15 dX1_requireRow_18 hout (Nat.le_of_ble_eq_true rfl) (Nat.le_of_ble_eq_true rfl) (Nat.le_of_ble_eq_true rfl) (Nat.le_of_ble_eq_true rfl) hlocks (⟨rfl, cs_inF1 (Int32.not_le.mpr c_1)⟩) (Nat.le_of_ble_eq_true rfl) (Nat.le_of_ble_eq_true rfl)
  · refine lv_iload_n hx hb dX1_requireRow_4 rfl (lv_at hl 0 rfl) ?_
    refine lv_iconst (v := 4) hx hb dX1_requireRow_5 (by decide) ?_
    refine lv_icmp_lt (tgt := 19) hx hb dX1_requireRow_6 (by decide) (fun c_6 => ?_) (fun c_6 => ?_)
    · refine W.widen (k := 1) (n := 6) (Nat.le_of_ble_eq_true rfl) (Nat.le_of_ble_eq_true rfl) ?_
      exact vx_ret (W.vret hx hb hr (fun t ht _ => ⟨rfl, cs_inT (Int32.not_lt.mp c_1) (cs_lt4 c_6), ht⟩) (fun q h => by cases h) dX1_requireRow_19)
    · exact cs_throw (cls := cs_IOB) (text := "no such row") hx hb hlf hown hts (by decide +kernel) cs_at3 hE hE.2.1.2.2.1 cs_ot3 (fun _ h => by unfold wsX1_requireRow; exact List.mem_cons_of_mem _ (List.mem_append_right _ (h))) (by decide +kernel) (by decide +kernel) (hE.2.2 (149, "no such row") (by decide +kernel)) hz (hl.1.trans hml.symm) dX1_requireRow_9 dX1_requireRow_12 dX1_requireRow_13 dX1_requireRow_15 dX1_requireRow_18 hout (Nat.le_of_ble_eq_true rfl) (Nat.le_of_ble_eq_true rfl) (Nat.le_of_ble_eq_true rfl) (Nat.le_of_ble_eq_true rfl) hlocks (⟨rfl, cs_inF2 (fun z => c_6 (cs_le3 z))⟩) (Nat.le_of_ble_eq_true rfl) (Nat.le_of_ble_eq_true rfl)
set_option maxHeartbeats 4000000 in
set_option maxRecDepth 100000 in
theorem k_X1_requireByte (l : Launch) (hlf : l.stackTraces = false) (D : va_G) (S : cs_St) (ad : Nat → Nat) (cy : Nat → ClassId) (v : Int32) : cs_Xv l yX1_requireByte wsX1_requireByte ({ frames := 6, cells := 1, slots := 6, locals := 82 }) D (cs_tys cy) [] [.int v] (cs_in v 0 255 = true) (cs_bad cs_IAE (cs_in v 0 255)) 1 6 := by
  refine vx_ofW (cc := cX1_requireByte) (maxL := 1) (ret := none) (by decide) rfl ?_
  intro pg e s m args below meth c s₁ B hml hout hv
  obtain ⟨rfl, hE, hz, hP, hK⟩ := hv
  have hx := B.exec
  have hb := B.bytes
  have hr := B.returns
  have hts := atoms_spec (ws := wsX1_requireByte) B.pre
  have hown : s.vm.findClass RX1 = some m.cls := findClass_of_methodNamed B.named
  have hlocks := B.notSynchronized
  have hl := lv_entry ([.int v]) (n := 1) (Nat.le_of_ble_eq_true rfl)
  rw [lg_entry_eq]
  generalize (lg_sl ([.int v]) ++ List.replicate (1 - (lg_sl ([.int v])).length) Slot.unset).toArray = ls at hl ⊢
  have hl : lv_has ls 1 [(0, .int v)] := hl
  refine lv_iload_n hx hb dX1_requireByte_0 rfl (lv_at hl 0 rfl) ?_
  refine lv_if_lt (tgt := 11) hx hb dX1_requireByte_1 (by decide) (fun c_1 => ?_) (fun c_1 => ?_)
  · exact cs_throw (cls := cs_IAE) (text := "not a byte") hx hb hlf hown hts (by decide +kernel) cs_at1 hE hE.2.1.1 cs_ot1 (fun _ h => by unfold wsX1_requireByte; exact List.mem_cons_of_mem _ (List.mem_append_right _ (h))) (by decide +kernel) (by decide +kernel) (hE.2.2 (155, "not a byte") (by decide +kernel)) hz (hl.1.trans hml.symm) dX1_requireByte_11 dX1_requireByte_14 dX1_requireByte_15 dX1_requireByte_17 dX1_requireByte_20 hout (Nat.le_of_ble_eq_true rfl) (Nat.le_of_ble_eq_true rfl) (Nat.le_of_ble_eq_true rfl) (Nat.le_of_ble_eq_true rfl) hlocks (⟨rfl, cs_inF1 (Int32.not_le.mpr c_1)⟩) (Nat.le_of_ble_eq_true rfl) (Nat.le_of_ble_eq_true rfl)
  · refine lv_iload_n hx hb dX1_requireByte_4 rfl (lv_at hl 0 rfl) ?_
    refine lv_sipush (v := 255) hx hb dX1_requireByte_5 (by decide) ?_
    refine lv_icmp_le (tgt := 21) hx hb dX1_requireByte_8 (by decide) (fun c_8 => ?_) (fun c_8 => ?_)
    · refine W.widen (k := 1) (n := 6) (Nat.le_of_ble_eq_true rfl) (Nat.le_of_ble_eq_true rfl) ?_
      exact vx_ret (W.vret hx hb hr (fun t ht _ => ⟨rfl, cs_inT (Int32.not_lt.mp c_1) c_8, ht⟩) (fun q h => by cases h) dX1_requireByte_21)
    · exact cs_throw (cls := cs_IAE) (text := "not a byte") hx hb hlf hown hts (by decide +kernel) cs_at1 hE hE.2.1.1 cs_ot1 (fun _ h => by unfold wsX1_requireByte; exact List.mem_cons_of_mem _ (List.mem_append_right _ (h))) (by decide +kernel) (by decide +kernel) (hE.2.2 (155, "not a byte") (by decide +kernel)) hz (hl.1.trans hml.symm) dX1_requireByte_11 dX1_requireByte_14 dX1_requireByte_15 dX1_requireByte_17 dX1_requireByte_20 hout (Nat.le_of_ble_eq_true rfl) (Nat.le_of_ble_eq_true rfl) (Nat.le_of_ble_eq_true rfl) (Nat.le_of_ble_eq_true rfl) hlocks (⟨rfl, cs_inF2 c_8⟩) (Nat.le_of_ble_eq_true rfl) (Nat.le_of_ble_eq_true rfl)
set_option maxHeartbeats 4000000 in
set_option maxRecDepth 100000 in
theorem k_X1_requireLength (l : Launch) (hlf : l.stackTraces = false) (D : va_G) (S : cs_St) (ad : Nat → Nat) (cy : Nat → ClassId) (v : Int32) : cs_Xv l yX1_requireLength wsX1_requireLength ({ frames := 6, cells := 1, slots := 6, locals := 82 }) D (cs_tys cy) [] [.int v] (decide (0 ≤ v) = true) (cs_bad cs_IAE (decide (0 ≤ v))) 1 6 := by
  refine vx_ofW (cc := cX1_requireLength) (maxL := 1) (ret := none) (by decide) rfl ?_
  intro pg e s m args below meth c s₁ B hml hout hv
  obtain ⟨rfl, hE, hz, hP, hK⟩ := hv
  have hx := B.exec
  have hb := B.bytes
  have hr := B.returns
  have hts := atoms_spec (ws := wsX1_requireLength) B.pre
  have hown : s.vm.findClass RX1 = some m.cls := findClass_of_methodNamed B.named
  have hlocks := B.notSynchronized
  have hl := lv_entry ([.int v]) (n := 1) (Nat.le_of_ble_eq_true rfl)
  rw [lg_entry_eq]
  generalize (lg_sl ([.int v]) ++ List.replicate (1 - (lg_sl ([.int v])).length) Slot.unset).toArray = ls at hl ⊢
  have hl : lv_has ls 1 [(0, .int v)] := hl
  refine lv_iload_n hx hb dX1_requireLength_0 rfl (lv_at hl 0 rfl) ?_
  refine lv_if_ge (tgt := 14) hx hb dX1_requireLength_1 (by decide) (fun c_1 => ?_) (fun c_1 => ?_)
  · refine W.widen (k := 1) (n := 6) (Nat.le_of_ble_eq_true rfl) (Nat.le_of_ble_eq_true rfl) ?_
    exact vx_ret (W.vret hx hb hr (fun t ht _ => ⟨rfl, decide_eq_true c_1, ht⟩) (fun q h => by cases h) dX1_requireLength_14)
  · exact cs_throw (cls := cs_IAE) (text := "a negative number of bytes") hx hb hlf hown hts (by decide +kernel) cs_at1 hE hE.2.1.1 cs_ot1 (fun _ h => by unfold wsX1_requireLength; exact List.mem_cons_of_mem _ (List.mem_append_right _ (h))) (by decide +kernel) (by decide +kernel) (hE.2.2 (157, "a negative number of bytes") (by decide +kernel)) hz (hl.1.trans hml.symm) dX1_requireLength_4 dX1_requireLength_7 dX1_requireLength_8 dX1_requireLength_10 dX1_requireLength_13 hout (Nat.le_of_ble_eq_true rfl) (Nat.le_of_ble_eq_true rfl) (Nat.le_of_ble_eq_true rfl) (Nat.le_of_ble_eq_true rfl) hlocks (⟨rfl, decide_eq_false c_1⟩) (Nat.le_of_ble_eq_true rfl) (Nat.le_of_ble_eq_true rfl)
theorem cs_is32 {w : Nat} (hw : w ≤ 32) (h : (32 : Int32) ≤ nI w) : nI w = 32 := by
  have := (nI_leI (a := 32) (by decide) (by omega)).mp h
  have e : w = 32 := by omega
  rw [e]; rfl
set_option maxHeartbeats 4000000 in
set_option maxRecDepth 100000 in
theorem k_X1_requireNumber (l : Launch) (hlf : l.stackTraces = false) (D : va_G) (S : cs_St) (ad : Nat → Nat) (cy : Nat → ClassId) (wd : Nat) (hwd : wd ≤ 32) (v : Int32) : cs_Xv l yX1_requireNumber wsX1_requireNumber ({ frames := 6, cells := 1, slots := 6, locals := 82 }) D (cs_tys cy) [] [.int (nI wd), .int v] (cs_nb v (nI wd) = true) (cs_bad cs_IAE (cs_nb v (nI wd))) 1 6 := by
  refine vx_ofW (cc := cX1_requireNumber) (maxL := 2) (ret := none) (by decide) rfl ?_
  intro pg e s m args below meth c s₁ B hml hout hv
  obtain ⟨rfl, hE, hz, hP, hK⟩ := hv
  have hx := B.exec
  have hb := B.bytes
  have hr := B.returns
  have hts := atoms_spec (ws := wsX1_requireNumber) B.pre
  have hown : s.vm.findClass RX1 = some m.cls := findClass_of_methodNamed B.named
  have hlocks := B.notSynchronized
  have hl := lv_entry ([.int (nI wd), .int v]) (n := 2) (Nat.le_of_ble_eq_true rfl)
  rw [lg_entry_eq]
  generalize (lg_sl ([.int (nI wd), .int v]) ++ List.replicate (2 - (lg_sl ([.int (nI wd), .int v])).length) Slot.unset).toArray = ls at hl ⊢
  have hl : lv_has ls 2 [(0, .int (nI wd)), (1, .int v)] := hl
  refine lv_iload_n hx hb dX1_requireNumber_0 rfl (lv_at hl 0 rfl) ?_
  refine lv_bipush (v := 32) hx hb dX1_requireNumber_1 (by decide) ?_
  refine lv_icmp_ge (tgt := 22) hx hb dX1_requireNumber_3 (by decide) (fun c_3 => ?_) (fun c_3 => ?_)
  · refine W.widen (k := 1) (n := 6) (Nat.le_of_ble_eq_true rfl) (Nat.le_of_ble_eq_true rfl) ?_
    exact vx_ret (W.vret hx hb hr (fun t ht _ => ⟨rfl, by unfold cs_nb; rw [decide_eq_true (cs_is32 hwd c_3)]; rfl, ht⟩) (fun q h => by cases h) dX1_requireNumber_22)
  · refine lv_iload_n hx hb dX1_requireNumber_6 rfl (lv_at hl 1 rfl) ?_
    refine lv_iload_n hx hb dX1_requireNumber_7 rfl (lv_at hl 0 rfl) ?_
    refine lv_iushr (v := cs_ur v (nI wd)) hx hb dX1_requireNumber_8 rfl ?_
    refine lv_if_eq (tgt := 22) hx hb dX1_requireNumber_9 (by decide) (fun c_9 => ?_) (fun c_9 => ?_)
    · refine W.widen (k := 1) (n := 6) (Nat.le_of_ble_eq_true rfl) (Nat.le_of_ble_eq_true rfl) ?_
      exact vx_ret (W.vret hx hb hr (fun t ht _ => ⟨rfl, by unfold cs_nb; rw [decide_eq_true c_9, Bool.or_true], ht⟩) (fun q h => by cases h) dX1_requireNumber_22)
    · exact cs_throw (cls := cs_IAE) (text := "not a number with w bits") hx hb hlf hown hts (by decide +kernel) cs_at1 hE hE.2.1.1 cs_ot1 (fun _ h => by unfold wsX1_requireNumber; exact List.mem_cons_of_mem _ (List.mem_append_right _ (h))) (by decide +kernel) (by decide +kernel) (hE.2.2 (159, "not a number with w bits") (by decide +kernel)) hz (hl.1.trans hml.symm) dX1_requireNumber_12 dX1_requireNumber_15 dX1_requireNumber_16 dX1_requireNumber_18 dX1_requireNumber_21 hout (Nat.le_of_ble_eq_true rfl) (Nat.le_of_ble_eq_true rfl) (Nat.le_of_ble_eq_true rfl) (Nat.le_of_ble_eq_true rfl) hlocks (⟨rfl, by unfold cs_nb; rw [decide_eq_false c_9, decide_eq_false (fun z => c_3 (by rw [z]; exact Int32.le_refl _))]; rfl⟩) (Nat.le_of_ble_eq_true rfl) (Nat.le_of_ble_eq_true rfl)
set_option maxHeartbeats 4000000 in
set_option maxRecDepth 100000 in
theorem k_X1_requireFletcher (l : Launch) (hlf : l.stackTraces = false) (D : va_G) (S : cs_St) (ad : Nat → Nat) (cy : Nat → ClassId) (v : Int32) : cs_Xv l yX1_requireFletcher wsX1_requireFletcher ({ frames := 6, cells := 1, slots := 6, locals := 82 }) D (cs_tys cy) [] [.int v] (cs_fk v = true) (cs_bad cs_IAE (cs_fk v)) 1 6 := by
  refine vx_ofW (cc := cX1_requireFletcher) (maxL := 1) (ret := none) (by decide) rfl ?_
  intro pg e s m args below meth c s₁ B hml hout hv
  obtain ⟨rfl, hE, hz, hP, hK⟩ := hv
  have hx := B.exec
  have hb := B.bytes
  have hr := B.returns
  have hts := atoms_spec (ws := wsX1_requireFletcher) B.pre
  have hown : s.vm.findClass RX1 = some m.cls := findClass_of_methodNamed B.named
  have hlocks := B.notSynchronized
  have hl := lv_entry ([.int v]) (n := 1) (Nat.le_of_ble_eq_true rfl)
  rw [lg_entry_eq]
  generalize (lg_sl ([.int v]) ++ List.replicate (1 - (lg_sl ([.int v])).length) Slot.unset).toArray = ls at hl ⊢
  have hl : lv_has ls 1 [(0, .int v)] := hl
  refine lv_iload_n hx hb dX1_requireFletcher_0 rfl (lv_at hl 0 rfl) ?_
  refine lv_if_lt (tgt := 26) hx hb dX1_requireFletcher_1 (by decide) (fun c_1 => ?_) (fun c_1 => ?_)
  · exact cs_throw (cls := cs_IAE) (text := "not a Fletcher sum") hx hb hlf hown hts (by decide +kernel) cs_at1 hE hE.2.1.1 cs_ot1 (fun _ h => by unfold wsX1_requireFletcher; exact List.mem_cons_of_mem _ (List.mem_append_right _ (h))) (by decide +kernel) (by decide +kernel) (hE.2.2 (161, "not a Fletcher sum") (by decide +kernel)) hz (hl.1.trans hml.symm) dX1_requireFletcher_26 dX1_requireFletcher_29 dX1_requireFletcher_30 dX1_requireFletcher_32 dX1_requireFletcher_35 hout (Nat.le_of_ble_eq_true rfl) (Nat.le_of_ble_eq_true rfl) (Nat.le_of_ble_eq_true rfl) (Nat.le_of_ble_eq_true rfl) hlocks (⟨rfl, by unfold cs_fk; rw [decide_eq_false (Int32.not_le.mpr c_1)]; rfl⟩) (Nat.le_of_ble_eq_true rfl) (Nat.le_of_ble_eq_true rfl)
  · refine lv_iload_n hx hb dX1_requireFletcher_4 rfl (lv_at hl 0 rfl) ?_
    refine lv_sipush (v := 256) hx hb dX1_requireFletcher_5 (by decide) ?_
    refine lv_idiv hx hb dX1_requireFletcher_8 (by decide) ?_
    refine lv_sipush (v := 255) hx hb dX1_requireFletcher_9 (by decide) ?_
    refine lv_icmp_ge (tgt := 26) hx hb dX1_requireFletcher_12 (by decide) (fun c_12 => ?_) (fun c_12 => ?_)
    · exact cs_throw (cls := cs_IAE) (text := "not a Fletcher sum") hx hb hlf hown hts (by decide +kernel) cs_at1 hE hE.2.1.1 cs_ot1 (fun _ h => by unfold wsX1_requireFletcher; exact List.mem_cons_of_mem _ (List.mem_append_right _ (h))) (by decide +kernel) (by decide +kernel) (hE.2.2 (161, "not a Fletcher sum") (by decide +kernel)) hz (hl.1.trans hml.symm) dX1_requireFletcher_26 dX1_requireFletcher_29 dX1_requireFletcher_30 dX1_requireFletcher_32 dX1_requireFletcher_35 hout (Nat.le_of_ble_eq_true rfl) (Nat.le_of_ble_eq_true rfl) (Nat.le_of_ble_eq_true rfl) (Nat.le_of_ble_eq_true rfl) hlocks (⟨rfl, by unfold cs_fk; rw [decide_eq_false (Int32.not_lt.mpr c_12), Bool.and_false]; rfl⟩) (Nat.le_of_ble_eq_true rfl) (Nat.le_of_ble_eq_true rfl)
    · refine lv_iload_n hx hb dX1_requireFletcher_15 rfl (lv_at hl 0 rfl) ?_
      refine lv_sipush (v := 256) hx hb dX1_requireFletcher_16 (by decide) ?_
      refine lv_irem hx hb dX1_requireFletcher_19 (by decide) ?_
      refine cs_top (y := cs_rem v 256) (rfl) ?_
      refine lv_sipush (v := 255) hx hb dX1_requireFletcher_20 (by decide) ?_
      refine lv_icmp_lt (tgt := 36) hx hb dX1_requireFletcher_23 (by decide) (fun c_23 => ?_) (fun c_23 => ?_)
      · refine W.widen (k := 1) (n := 6) (Nat.le_of_ble_eq_true rfl) (Nat.le_of_ble_eq_true rfl) ?_
        exact vx_ret (W.vret hx hb hr (fun t ht _ => ⟨rfl, by unfold cs_fk; rw [decide_eq_true (Int32.not_lt.mp c_1), decide_eq_true (Int32.not_le.mp c_12), decide_eq_true c_23]; rfl, ht⟩) (fun q h => by cases h) dX1_requireFletcher_36)
      · exact cs_throw (cls := cs_IAE) (text := "not a Fletcher sum") hx hb hlf hown hts (by decide +kernel) cs_at1 hE hE.2.1.1 cs_ot1 (fun _ h => by unfold wsX1_requireFletcher; exact List.mem_cons_of_mem _ (List.mem_append_right _ (h))) (by decide +kernel) (by decide +kernel) (hE.2.2 (161, "not a Fletcher sum") (by decide +kernel)) hz (hl.1.trans hml.symm) dX1_requireFletcher_26 dX1_requireFletcher_29 dX1_requireFletcher_30 dX1_requireFletcher_32 dX1_requireFletcher_35 hout (Nat.le_of_ble_eq_true rfl) (Nat.le_of_ble_eq_true rfl) (Nat.le_of_ble_eq_true rfl) (Nat.le_of_ble_eq_true rfl) hlocks (⟨rfl, by unfold cs_fk; rw [decide_eq_false c_23, Bool.and_false]⟩) (Nat.le_of_ble_eq_true rfl) (Nat.le_of_ble_eq_true rfl)
set_option maxHeartbeats 4000000 in
set_option maxRecDepth 100000 in
theorem k_X1_adlerA (l : Launch) (D : va_G) (S : cs_St) (ad : Nat → Nat) (cy : Nat → ClassId) (v : Int32) : cs_Mi l yX1_adlerA wsX1_adlerA ({ frames := 0, cells := 0, slots := 0, locals := 0 }) D (cs_tys cy) [] [.int v] (v &&& 65535) := by
  refine Met.ofW (cc := cX1_adlerA) (maxL := 1) (ret := (some .int)) (by decide) rfl ?_
  intro pg e s m args below meth c s₁ B hml hv
  obtain ⟨rfl, hE, hP, hK⟩ := hv
  have hx := B.exec
  have hb := B.bytes
  have hr := B.returns
  have hts := atoms_spec (ws := wsX1_adlerA) B.pre
  have hown : s.vm.findClass RX1 = some m.cls := findClass_of_methodNamed B.named
  have hlocks := B.notSynchronized
  have hl := lv_entry ([.int v]) (n := 1) (Nat.le_of_ble_eq_true rfl)
  rw [lg_entry_eq]
  generalize (lg_sl ([.int v]) ++ List.replicate (1 - (lg_sl ([.int v])).length) Slot.unset).toArray = ls at hl ⊢
  have hl : lv_has ls 1 [(0, .int v)] := hl
  refine lv_iload_n hx hb dX1_adlerA_0 rfl (lv_at hl 0 rfl) ?_
  refine lv_ldc (v := 65535) hx hb hown (hts (.constant RX1 165 65535) (by decide +kernel)) dX1_adlerA_1 ?_
  refine lv_iand hx hb dX1_adlerA_3 ?_
  exact W.iret (v := v &&& 65535) hx hb hr (fun t ht _ => ⟨v &&& 65535, rfl, rfl, ht⟩) (fun q h => by cases h) dX1_adlerA_4
set_option maxHeartbeats 4000000 in
set_option maxRecDepth 100000 in
theorem k_X1_adlerB (l : Launch) (D : va_G) (S : cs_St) (ad : Nat → Nat) (cy : Nat → ClassId) (v : Int32) : cs_Mi l yX1_adlerB wsX1_adlerB ({ frames := 0, cells := 0, slots := 0, locals := 0 }) D (cs_tys cy) [] [.int v] (cs_ur v 16) := by
  refine Met.ofW (cc := cX1_adlerB) (maxL := 1) (ret := (some .int)) (by decide) rfl ?_
  intro pg e s m args below meth c s₁ B hml hv
  obtain ⟨rfl, hE, hP, hK⟩ := hv
  have hx := B.exec
  have hb := B.bytes
  have hr := B.returns
  have hts := atoms_spec (ws := wsX1_adlerB) B.pre
  have hown : s.vm.findClass RX1 = some m.cls := findClass_of_methodNamed B.named
  have hlocks := B.notSynchronized
  have hl := lv_entry ([.int v]) (n := 1) (Nat.le_of_ble_eq_true rfl)
  rw [lg_entry_eq]
  generalize (lg_sl ([.int v]) ++ List.replicate (1 - (lg_sl ([.int v])).length) Slot.unset).toArray = ls at hl ⊢
  have hl : lv_has ls 1 [(0, .int v)] := hl
  refine lv_iload_n hx hb dX1_adlerB_0 rfl (lv_at hl 0 rfl) ?_
  refine lv_bipush (v := 16) hx hb dX1_adlerB_1 (by decide) ?_
  refine lv_iushr (v := cs_ur v 16) hx hb dX1_adlerB_3 rfl ?_
  exact W.iret (v := cs_ur v 16) hx hb hr (fun t ht _ => ⟨cs_ur v 16, rfl, rfl, ht⟩) (fun q h => by cases h) dX1_adlerB_4
set_option maxHeartbeats 4000000 in
set_option maxRecDepth 100000 in
theorem k_X1_requireAdler (l : Launch) (hlf : l.stackTraces = false) (D : va_G) (S : cs_St) (ad : Nat → Nat) (cy : Nat → ClassId) (v : Int32) : cs_Xv l yX1_requireAdler wsX1_requireAdler ({ frames := 6, cells := 1, slots := 6, locals := 82 }) D (cs_tys cy) [] [.int v] (cs_ak v = true) (cs_bad cs_IAE (cs_ak v)) 1 6 := by
  refine vx_ofW (cc := cX1_requireAdler) (maxL := 1) (ret := none) (by decide) rfl ?_
  intro pg e s m args below meth c s₁ B hml hout hv
  obtain ⟨rfl, hE, hz, hP, hK⟩ := hv
  have hx := B.exec
  have hb := B.bytes
  have hr := B.returns
  have hts := atoms_spec (ws := wsX1_requireAdler) B.pre
  have hown : s.vm.findClass RX1 = some m.cls := findClass_of_methodNamed B.named
  have hlocks := B.notSynchronized
  have hl := lv_entry ([.int v]) (n := 1) (Nat.le_of_ble_eq_true rfl)
  rw [lg_entry_eq]
  generalize (lg_sl ([.int v]) ++ List.replicate (1 - (lg_sl ([.int v])).length) Slot.unset).toArray = ls at hl ⊢
  have hl : lv_has ls 1 [(0, .int v)] := hl
  refine lv_iload_n hx hb dX1_requireAdler_0 rfl (lv_at hl 0 rfl) ?_
  refine vp_callSi (W.runS (As := [.int v]) (rest := []) ⟨hx, hb, hml, hown, hts⟩ (k_X1_adlerA l D S ad cy v) (va_cwS 1 hts gX1_requireAdler_X1_adlerA rfl rfl rfl (by decide +kernel) ⟨Nat.le_of_ble_eq_true rfl, Nat.le_of_ble_eq_true rfl⟩) ⟨cs_B.blind, cs_B.at hE cs_none hK⟩ rfl rfl hl.1 rfl (lv_room (Nat.le_of_ble_eq_true rfl)) dX1_requireAdler_1 ⟨Nat.le_of_ble_eq_true rfl, Nat.le_of_ble_eq_true rfl⟩) (fun r_1 e_1 => ?_)
  subst e_1
  refine lv_ldc (v := 65521) hx hb hown (hts (.constant RX1 131 65521) (by decide +kernel)) dX1_requireAdler_4 ?_
  refine lv_icmp_ge (tgt := 18) hx hb dX1_requireAdler_6 (by decide) (fun c_6 => ?_) (fun c_6 => ?_)
  · exact cs_throw (cls := cs_IAE) (text := "not an Adler sum") hx hb hlf hown hts (by decide +kernel) cs_at1 hE hE.2.1.1 cs_ot1 (fun _ h => by unfold wsX1_requireAdler; exact List.mem_cons_of_mem _ (List.mem_append_right _ (h))) (by decide +kernel) (by decide +kernel) (hE.2.2 (163, "not an Adler sum") (by decide +kernel)) hz (hl.1.trans hml.symm) dX1_requireAdler_18 dX1_requireAdler_21 dX1_requireAdler_22 dX1_requireAdler_24 dX1_requireAdler_27 hout (Nat.le_of_ble_eq_true rfl) (Nat.le_of_ble_eq_true rfl) (Nat.le_of_ble_eq_true rfl) (Nat.le_of_ble_eq_true rfl) hlocks (⟨rfl, by unfold cs_ak; rw [decide_eq_false (Int32.not_lt.mpr c_6)]; rfl⟩) (Nat.le_of_ble_eq_true rfl) (Nat.le_of_ble_eq_true rfl)
  · refine lv_iload_n hx hb dX1_requireAdler_9 rfl (lv_at hl 0 rfl) ?_
    refine vp_callSi (W.runS (As := [.int v]) (rest := []) ⟨hx, hb, hml, hown, hts⟩ (k_X1_adlerB l D S ad cy v) (va_cwS 1 hts gX1_requireAdler_X1_adlerB rfl rfl rfl (by decide +kernel) ⟨Nat.le_of_ble_eq_true rfl, Nat.le_of_ble_eq_true rfl⟩) ⟨cs_B.blind, cs_B.at hE cs_none hK⟩ rfl rfl hl.1 rfl (lv_room (Nat.le_of_ble_eq_true rfl)) dX1_requireAdler_10 ⟨Nat.le_of_ble_eq_true rfl, Nat.le_of_ble_eq_true rfl⟩) (fun r_10 e_10 => ?_)
    subst e_10
    refine lv_ldc (v := 65521) hx hb hown (hts (.constant RX1 131 65521) (by decide +kernel)) dX1_requireAdler_13 ?_
    refine lv_icmp_lt (tgt := 28) hx hb dX1_requireAdler_15 (by decide) (fun c_15 => ?_) (fun c_15 => ?_)
    · refine W.widen (k := 1) (n := 6) (Nat.le_of_ble_eq_true rfl) (Nat.le_of_ble_eq_true rfl) ?_
      exact vx_ret (W.vret hx hb hr (fun t ht _ => ⟨rfl, by unfold cs_ak; rw [decide_eq_true (Int32.not_le.mp c_6), decide_eq_true c_15]; rfl, ht⟩) (fun q h => by cases h) dX1_requireAdler_28)
    · exact cs_throw (cls := cs_IAE) (text := "not an Adler sum") hx hb hlf hown hts (by decide +kernel) cs_at1 hE hE.2.1.1 cs_ot1 (fun _ h => by unfold wsX1_requireAdler; exact List.mem_cons_of_mem _ (List.mem_append_right _ (h))) (by decide +kernel) (by decide +kernel) (hE.2.2 (163, "not an Adler sum") (by decide +kernel)) hz (hl.1.trans hml.symm) dX1_requireAdler_18 dX1_requireAdler_21 dX1_requireAdler_22 dX1_requireAdler_24 dX1_requireAdler_27 hout (Nat.le_of_ble_eq_true rfl) (Nat.le_of_ble_eq_true rfl) (Nat.le_of_ble_eq_true rfl) (Nat.le_of_ble_eq_true rfl) hlocks (⟨rfl, by unfold cs_ak; rw [decide_eq_false c_15, Bool.and_false]⟩) (Nat.le_of_ble_eq_true rfl) (Nat.le_of_ble_eq_true rfl)
