theorem cs_lt4 {v : Int32} (h : v < 4) : v ≤ 3 := by
  rw [Int32.lt_iff_toInt_lt] at h
  rw [Int32.le_iff_toInt_le]
  have e4 : (4 : Int32).toInt = 4 := by decide
  have e3 : (3 : Int32).toInt = 3 := by decide
  omega
theorem cs_le3 {v : Int32} (h : v ≤ 3) : v < 4 := by
  rw [Int32.le_iff_toInt_le] at h
  rw [Int32.lt_iff_toInt_lt]
  have e4 : (4 : Int32).toInt = 4 := by decide
  have e3 : (3 : Int32).toInt = 3 := by decide
  omega
set_option maxHeartbeats 4000000 in
set_option maxRecDepth 100000 in
theorem k_X1_requireRow (l : Launch) (hlf : l.stackTraces = false) (D : va_G) (S : cs_St) (ad : Nat → Nat) (cy : Nat → ClassId) (v : Int32) : cs_Xv l yX1_requireRow wsX1_requireRow ({ frames := 6, cells := 1, slots := 6, locals := 82 }) D (cs_tys cy) [] [.int v] (cs_in v 0 3 = true) (cs_bad cs_IOB (cs_in v 0 3)) 1 6 := by
  refine vx_ofW (cc := cX1_requireRow) (maxL := 1) (ret := none) (by decide) rfl ?_
  intro pg e s m args below meth c s₁ B hml hout hv
  obtain ⟨rfl, hE, hz, hP, hK⟩ := hv
  have hx := B.exec
  have hb := B.bytes
  have hr := B.returns
  have hts := atoms_spec (ws := wsX1_requireRow) B.pre
  have hown : s.vm.findClass RX1 = some m.cls := findClass_of_methodNamed B.named
  have hlocks := B.notSynchronized
  have hl := lv_entry ([.int v]) (n := 1) (Nat.le_of_ble_eq_true rfl)
  rw [lg_entry_eq]
  generalize (lg_sl ([.int v]) ++ List.replicate (1 - (lg_sl ([.int v])).length) Slot.unset).toArray = ls at hl ⊢
  have hl : lv_has ls 1 [(0, .int v)] := hl
  refine lv_iload_n hx hb dX1_requireRow_0 rfl (lv_at hl 0 rfl) ?_
  refine lv_if_lt (tgt := 9) hx hb dX1_requireRow_1 (by decide) (fun c_1 => ?_) (fun c_1 => ?_)
  · exact cs_throw (cls := cs_IOB) (text := "no such row") hx hb hlf hown hts (by decide +kernel) cs_at3 hE hE.2.1.2.2.1 cs_ot3 (fun _ h => by unfold wsX1_requireRow; exact List.mem_cons_of_mem _ (List.mem_append_right _ (h))) (by decide +kernel) (by decide +kernel) (hE.2.2 (149, "no such row") (by decide +kernel)) hz (hl.1.trans hml.symm) dX1_requireRow_9 dX1_requireRow_12 dX1_requireRow_13 dX1_requireRow_15 dX1_requireRow_18 hout (Nat.le_of_ble_eq_true rfl) (Nat.le_of_ble_eq_true rfl) (Nat.le_of_ble_eq_true rfl) (Nat.le_of_ble_eq_true rfl) hlocks (⟨rfl, cs_inF1 (Int32.not_le.mpr c_1)⟩) (Nat.le_of_ble_eq_true rfl) (Nat.le_of_ble_eq_true rfl)
  · refine lv_iload_n hx hb dX1_requireRow_4 rfl (lv_at hl 0 rfl) ?_
    refine lv_iconst (v := 4) hx hb dX1_requireRow_5 (by decide) ?_
    refine lv_icmp_lt (tgt := 19) hx hb dX1_requireRow_6 (by decide) (fun c_6 => ?_) (fun c_6 => ?_)
    · refine W.widen (k := 1) (n := 6) (Nat.le_of_ble_eq_true rfl) (Nat.le_of_ble_eq_true rfl) ?_
      exact vx_ret (W.vret hx hb hr (fun t ht _ => ⟨rfl, cs_inT (Int32.not_lt.mp c_1) (cs_lt4 c_6), ht⟩) (fun q h => by cases h) dX1_requireRow_19)
    · exact cs_throw (cls := cs_IOB) (text := "no such row") hx hb hlf hown hts (by decide +kernel) cs_at3 hE hE.2.1.2.2.1 cs_ot3 (fun _ h => by unfold wsX1_requireRow; exact List.mem_cons_of_mem _ (List.mem_append_right _ (h))) (by decide +kernel) (by decide +kernel) (hE.2.2 (149, "no such row") (by decide +kernel)) hz (hl.1.trans hml.symm) dX1_requireRow_9 dX1_requireRow_12 dX1_requireRow_13 dX1_requireRow_15 dX1_requireRow_18 hout (Nat.le_of_ble_eq_true rfl) (Nat.le_of_ble_eq_true rfl) (Nat.le_of_ble_eq_true rfl) (Nat.le_of_ble_eq_true rfl) hlocks (⟨rfl, cs_inF2 (fun z => c_6 (cs_le3 z))⟩) (Nat.le_of_ble_eq_true rfl) (Nat.le_of_ble_eq_true rfl)
set_option maxHeartbeats 4000000 in
set_option maxRecDepth 100000 in
theorem k_X1_requireByte (l : Launch) (hlf : l.stackTraces = false) (D : va_G) (S : cs_St) (ad : Nat → Nat) (cy : Nat → ClassId) (v : Int32) : cs_Xv l yX1_requireByte wsX1_requireByte ({ frames := 6, cells := 1, slots := 6, locals := 82 }) D (cs_tys cy) [] [.int v] (cs_in v 0 255 = true) (cs_bad cs_IAE (cs_in v 0 255)) 1 6 := by
  refine vx_ofW (cc := cX1_requireByte) (maxL := 1) (ret := none) (by decide) rfl ?_
  intro pg e s m args below meth c s₁ B hml hout hv
  obtain ⟨rfl, hE, hz, hP, hK⟩ := hv
  have hx := B.exec
  have hb := B.bytes
  have hr := B.returns
  have hts := atoms_spec (ws := wsX1_requireByte) B.pre
  have hown : s.vm.findClass RX1 = some m.cls := findClass_of_methodNamed B.named
  have hlocks := B.notSynchronized
  have hl := lv_entry ([.int v]) (n := 1) (Nat.le_of_ble_eq_true rfl)
  rw [lg_entry_eq]
  generalize (lg_sl ([.int v]) ++ List.replicate (1 - (lg_sl ([.int v])).length) Slot.unset).toArray = ls at hl ⊢
  have hl : lv_has ls 1 [(0, .int v)] := hl
  refine lv_iload_n hx hb dX1_requireByte_0 rfl (lv_at hl 0 rfl) ?_
  refine lv_if_lt (tgt := 11) hx hb dX1_requireByte_1 (by decide) (fun c_1 => ?_) (fun c_1 => ?_)
  · exact cs_throw (cls := cs_IAE) (text := "not a byte") hx hb hlf hown hts (by decide +kernel) cs_at1 hE hE.2.1.1 cs_ot1 (fun _ h => by unfold wsX1_requireByte; exact List.mem_cons_of_mem _ (List.mem_append_right _ (h))) (by decide +kernel) (by decide +kernel) (hE.2.2 (155, "not a byte") (by decide +kernel)) hz (hl.1.trans hml.symm) dX1_requireByte_11 dX1_requireByte_14 dX1_requireByte_15 dX1_requireByte_17 dX1_requireByte_20 hout (Nat.le_of_ble_eq_true rfl) (Nat.le_of_ble_eq_true rfl) (Nat.le_of_ble_eq_true rfl) (Nat.le_of_ble_eq_true rfl) hlocks (⟨rfl, cs_inF1 (Int32.not_le.mpr c_1)⟩) (Nat.le_of_ble_eq_true rfl) (Nat.le_of_ble_eq_true rfl)
  · refine lv_iload_n hx hb dX1_requireByte_4 rfl (lv_at hl 0 rfl) ?_
    refine lv_sipush (v := 255) hx hb dX1_requireByte_5 (by decide) ?_
    refine lv_icmp_le (tgt := 21) hx hb dX1_requireByte_8 (by decide) (fun c_8 => ?_) (fun c_8 => ?_)
    · refine W.widen (k := 1) (n := 6) (Nat.le_of_ble_eq_true rfl) (Nat.le_of_ble_eq_true rfl) ?_
      exact vx_ret (W.vret hx hb hr (fun t ht _ => ⟨rfl, cs_inT (Int32.not_lt.mp c_1) c_8, ht⟩) (fun q h => by cases h) dX1_requireByte_21)
    · exact cs_throw (cls := cs_IAE) (text := "not a byte") hx hb hlf hown hts (by decide +kernel) cs_at1 hE hE.2.1.1 cs_ot1 (fun _ h => by unfold wsX1_requireByte; exact List.mem_cons_of_mem _ (List.mem_append_right _ (h))) (by decide +kernel) (by decide +kernel) (hE.2.2 (155, "not a byte") (by decide +kernel)) hz (hl.1.trans hml.symm) dX1_requireByte_11 dX1_requireByte_14 dX1_requireByte_15 dX1_requireByte_17 dX1_requireByte_20 hout (Nat.le_of_ble_eq_true rfl) (Nat.le_of_ble_eq_true rfl) (Nat.le_of_ble_eq_true rfl) (Nat.le_of_ble_eq_true rfl) hlocks (⟨rfl, cs_inF2 c_8⟩) (Nat.le_of_ble_eq_true rfl) (Nat.le_of_ble_eq_true rfl)
theorem cs_is32 {w : Nat} (hw : w ≤ 32) (h : (32 : Int32) ≤ nI w) : nI w = 32 := by
  have := (nI_leI (a := 32) (by decide) (by omega)).mp h
  have e : w = 32 := by omega
  rw [e]; rfl
set_option maxHeartbeats 4000000 in
set_option maxRecDepth 100000 in
theorem k_X1_requireNumber (l : Launch) (hlf : l.stackTraces = false) (D : va_G) (S : cs_St) (ad : Nat → Nat) (cy : Nat → ClassId) (wd : Nat) (hwd : wd ≤ 32) (v : Int32) : cs_Xv l yX1_requireNumber wsX1_requireNumber ({ frames := 6, cells := 1, slots := 6, locals := 82 }) D (cs_tys cy) [] [.int (nI wd), .int v] (cs_nb v (nI wd) = true) (cs_bad cs_IAE (cs_nb v (nI wd))) 1 6 := by
  refine vx_ofW (cc := cX1_requireNumber) (maxL := 2) (ret := none) (by decide) rfl ?_
  intro pg e s m args below meth c s₁ B hml hout hv
  obtain ⟨rfl, hE, hz, hP, hK⟩ := hv
  have hx := B.exec
  have hb := B.bytes
  have hr := B.returns
  have hts := atoms_spec (ws := wsX1_requireNumber) B.pre
  have hown : s.vm.findClass RX1 = some m.cls := findClass_of_methodNamed B.named
  have hlocks := B.notSynchronized
  have hl := lv_entry ([.int (nI wd), .int v]) (n := 2) (Nat.le_of_ble_eq_true rfl)
  rw [lg_entry_eq]
  generalize (lg_sl ([.int (nI wd), .int v]) ++ List.replicate (2 - (lg_sl ([.int (nI wd), .int v])).length) Slot.unset).toArray = ls at hl ⊢
  have hl : lv_has ls 2 [(0, .int (nI wd)), (1, .int v)] := hl
  refine lv_iload_n hx hb dX1_requireNumber_0 rfl (lv_at hl 0 rfl) ?_
  refine lv_bipush (v := 32) hx hb dX1_requireNumber_1 (by decide) ?_
  refine lv_icmp_ge (tgt := 22) hx hb dX1_requireNumber_3 (by decide) (fun c_3 => ?_) (fun c_3 => ?_)
  · refine W.widen (k := 1) (n := 6) (Nat.le_of_ble_eq_true rfl) (Nat.le_of_ble_eq_true rfl) ?_
    exact vx_ret (W.vret hx hb hr (fun t ht _ => ⟨rfl, by unfold cs_nb; rw [decide_eq_true (cs_is32 hwd c_3)]; rfl, ht⟩) (fun q h => by cases h) dX1_requireNumber_22)
  · refine lv_iload_n hx hb dX1_requireNumber_6 rfl (lv_at hl 1 rfl) ?_
    refine lv_iload_n hx hb dX1_requireNumber_7 rfl (lv_at hl 0 rfl) ?_
    refine lv_iushr (v := cs_ur v (nI wd)) hx hb dX1_requireNumber_8 rfl ?_
    refine lv_if_eq (tgt := 22) hx hb dX1_requireNumber_9 (by decide) (fun c_9 => ?_) (fun c_9 => ?_)
    · refine W.widen (k := 1) (n := 6) (Nat.le_of_ble_eq_true rfl) (Nat.le_of_ble_eq_true rfl) ?_
      exact vx_ret (W.vret hx hb hr (fun t ht _ => ⟨rfl, by unfold cs_nb; rw [decide_eq_true c_9, Bool.or_true], ht⟩) (fun q h => by cases h) dX1_requireNumber_22)
    · exact cs_throw (cls := cs_IAE) (text := "not a number with w bits") hx hb hlf hown hts (by decide +kernel) cs_at1 hE hE.2.1.1 cs_ot1 (fun _ h => by unfold wsX1_requireNumber; exact List.mem_cons_of_mem _ (List.mem_append_right _ (h))) (by decide +kernel) (by decide +kernel) (hE.2.2 (159, "not a number with w bits") (by decide +kernel)) hz (hl.1.trans hml.symm) dX1_requireNumber_12 dX1_requireNumber_15 dX1_requireNumber_16 dX1_requireNumber_18 dX1_requireNumber_21 hout (Nat.le_of_ble_eq_true rfl) (Nat.le_of_ble_eq_true rfl) (Nat.le_of_ble_eq_true rfl) (Nat.le_of_ble_eq_true rfl) hlocks (⟨rfl, by unfold cs_nb; rw [decide_eq_false c_9, decide_eq_false (fun z => c_3 (by rw [z]; exact Int32.le_refl _))]; rfl⟩) (Nat.le_of_ble_eq_true rfl) (Nat.le_of_ble_eq_true rfl)
