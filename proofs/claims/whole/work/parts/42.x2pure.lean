theorem cs_lt32 {w : Nat} (h : w ≤ 32) (c : ¬ nI w = 32) : w < 32 := by
  have : w ≠ 32 := fun z => c (by rw [z]; rfl)
  omega
set_option maxHeartbeats 4000000 in
set_option maxRecDepth 100000 in
theorem k_X2_thrown (l : Launch) (D : va_G) (S : cs_St) (th : Int32) (bd : Nat → Nat) (cy : Nat → ClassId)  : cs_Mi l yX2_thrown wsX2_thrown ({ frames := 0, cells := 0, slots := 0, locals := 0 }) D (cs_tys cy) (cs_R S th bd cy) [.ref (bd 0)] (th) := by
  refine Met.ofW (cc := cX2_thrown) (maxL := 1) (ret := (some .int)) (by decide) rfl ?_
  intro pg e s m args below meth c s₁ B hml hv
  obtain ⟨rfl, hE, hP, hK⟩ := hv
  have hx := B.exec
  have hb := B.bytes
  have hr := B.returns
  have hts := atoms_spec (ws := wsX2_thrown) B.pre
  have hown : s.vm.findClass RX2 = some m.cls := findClass_of_methodNamed B.named
  have hlocks := B.notSynchronized
  have hl := lv_entry ([.ref (bd 0)]) (n := 1) (Nat.le_of_ble_eq_true rfl)
  rw [lg_entry_eq]
  generalize (lg_sl ([.ref (bd 0)]) ++ List.replicate (1 - (lg_sl ([.ref (bd 0)])).length) Slot.unset).toArray = ls at hl ⊢
  have hl : lv_has ls 1 [(0, .ref (bd 0))] := hl
  have hinX2 : ∀ w ∈ wsX20, w ∈ wsX2_thrown := fun _ h => by unfold wsX2_thrown; exact List.mem_cons_of_mem _ (List.mem_append_right _ h)
  refine lv_aload_n hx hb dX2_thrown_0 rfl (lv_at hl 0 rfl) ?_
  refine va_get (D := D) (ci := 2) (v := .int th) (C := RX2) (T := TX2) (N := 10) hx hb hts hinX2 hown hK hP 0 cs_R0 rfl 9 (by decide) (hts (.fieldLink RX2 35 "ChecksumLabModel" "thrown" "I") (by decide +kernel)) (fun _ h9 => h9) rfl dX2_thrown_1 ?_
  exact W.iret (v := th) hx hb hr (fun t ht _ => ⟨th, rfl, rfl, ht⟩) (fun q h => by cases h) dX2_thrown_4
set_option maxHeartbeats 4000000 in
set_option maxRecDepth 100000 in
theorem k_X2_in (l : Launch) (D : va_G) (S : cs_St) (th : Int32) (bd : Nat → Nat) (cy : Nat → ClassId) (v lo hi : Int32) : cs_Mi l yX2_in wsX2_in ({ frames := 0, cells := 0, slots := 0, locals := 0 }) D (cs_tys cy) [] [.int v, .int lo, .int hi] (cs_z (cs_in v lo hi)) := by
  refine Met.ofW (cc := cX2_in) (maxL := 3) (ret := (some .boolean)) (by decide) rfl ?_
  intro pg e s m args below meth c s₁ B hml hv
  obtain ⟨rfl, hE, hP, hK⟩ := hv
  have hx := B.exec
  have hb := B.bytes
  have hr := B.returns
  have hts := atoms_spec (ws := wsX2_in) B.pre
  have hown : s.vm.findClass RX2 = some m.cls := findClass_of_methodNamed B.named
  have hlocks := B.notSynchronized
  have hl := lv_entry ([.int v, .int lo, .int hi]) (n := 3) (Nat.le_of_ble_eq_true rfl)
  rw [lg_entry_eq]
  generalize (lg_sl ([.int v, .int lo, .int hi]) ++ List.replicate (3 - (lg_sl ([.int v, .int lo, .int hi])).length) Slot.unset).toArray = ls at hl ⊢
  have hl : lv_has ls 3 [(0, .int v), (1, .int lo), (2, .int hi)] := hl
  refine lv_iload_n hx hb dX2_in_0 rfl (lv_at hl 0 rfl) ?_
  refine lv_iload_n hx hb dX2_in_1 rfl (lv_at hl 1 rfl) ?_
  refine lv_icmp_lt (tgt := 14) hx hb dX2_in_2 (by decide) (fun c_2 => ?_) (fun c_2 => ?_)
  · refine lv_iconst (v := 0) hx hb dX2_in_14 (by decide) ?_
    exact W.zret (ty := .boolean) (v := 0) hx hb hr (rfl) (fun t ht _ => ⟨0, rfl, by rw [cs_inF1 (Int32.not_le.mpr c_2)]; rfl, ht⟩) (fun q h => by cases h) dX2_in_15
  · refine lv_iload_n hx hb dX2_in_5 rfl (lv_at hl 0 rfl) ?_
    refine lv_iload_n hx hb dX2_in_6 rfl (lv_at hl 2 rfl) ?_
    refine lv_icmp_gt (tgt := 14) hx hb dX2_in_7 (by decide) (fun c_7 => ?_) (fun c_7 => ?_)
    · refine lv_iconst (v := 0) hx hb dX2_in_14 (by decide) ?_
      exact W.zret (ty := .boolean) (v := 0) hx hb hr (rfl) (fun t ht _ => ⟨0, rfl, by rw [cs_inF2 (Int32.not_le.mpr c_7)]; rfl, ht⟩) (fun q h => by cases h) dX2_in_15
    · refine lv_iconst (v := 1) hx hb dX2_in_10 (by decide) ?_
      refine lv_goto (tgt := 15) hx hb dX2_in_11 (by decide) ?_
      exact W.zret (ty := .boolean) (v := 1) hx hb hr (rfl) (fun t ht _ => ⟨1, rfl, by rw [cs_inT (Int32.not_lt.mp c_2) (Int32.not_lt.mp c_7)]; rfl, ht⟩) (fun q h => by cases h) dX2_in_15
set_option maxHeartbeats 4000000 in
set_option maxRecDepth 100000 in
theorem k_X2_isModel (l : Launch) (D : va_G) (S : cs_St) (th : Int32) (bd : Nat → Nat) (cy : Nat → ClassId) (v : Int32) : cs_Mi l yX2_isModel wsX2_isModel ({ frames := 1, cells := 0, slots := 0, locals := 22 }) D (cs_tys cy) (cs_R S th bd cy) [.ref (bd 0), .int v] (cs_z (cs_in v 0 (nI (cs_n S) - 1))) := by
  refine Met.ofW (cc := cX2_isModel) (maxL := 2) (ret := (some .boolean)) (by decide) rfl ?_
  intro pg e s m args below meth c s₁ B hml hv
  obtain ⟨rfl, hE, hP, hK⟩ := hv
  have hx := B.exec
  have hb := B.bytes
  have hr := B.returns
  have hts := atoms_spec (ws := wsX2_isModel) B.pre
  have hown : s.vm.findClass RX2 = some m.cls := findClass_of_methodNamed B.named
  have hlocks := B.notSynchronized
  have hl := lv_entry ([.ref (bd 0), .int v]) (n := 2) (Nat.le_of_ble_eq_true rfl)
  rw [lg_entry_eq]
  generalize (lg_sl ([.ref (bd 0), .int v]) ++ List.replicate (2 - (lg_sl ([.ref (bd 0), .int v])).length) Slot.unset).toArray = ls at hl ⊢
  have hl : lv_has ls 2 [(0, .ref (bd 0)), (1, .int v)] := hl
  have hinX2 : ∀ w ∈ wsX20, w ∈ wsX2_isModel := fun _ h => by unfold wsX2_isModel; exact List.mem_cons_of_mem _ (List.mem_append_right _ h)
  refine lv_iload_n hx hb dX2_isModel_0 rfl (lv_at hl 1 rfl) ?_
  refine lv_iconst (v := 0) hx hb dX2_isModel_1 (by decide) ?_
  refine lv_aload_n hx hb dX2_isModel_2 rfl (lv_at hl 0 rfl) ?_
  refine va_get (D := D) (ci := 2) (v := .int (nI (cs_n S))) (C := RX2) (T := TX2) (N := 10) hx hb hts hinX2 hown hK hP 0 cs_R0 rfl 6 (by decide) (hts (.fieldLink RX2 39 "ChecksumLabModel" "models" "I") (by decide +kernel)) (fun _ h9 => h9) rfl dX2_isModel_3 ?_
  refine lv_iconst (v := 1) hx hb dX2_isModel_6 (by decide) ?_
  refine lv_isub hx hb dX2_isModel_7 ?_
  refine vp_callSi (W.runS (As := [.int v, .int 0, .int ((nI (cs_n S)) - 1)]) (rest := []) ⟨hx, hb, hml, hown, hts⟩ (k_X2_in l D S th bd cy  v 0 ((nI (cs_n S)) - 1)) (va_cwS 3 hts gX2_isModel_X2_in rfl rfl rfl (by decide +kernel) ⟨Nat.le_of_ble_eq_true rfl, Nat.le_of_ble_eq_true rfl⟩) ⟨cs_B.blind, cs_B.at hE cs_none hK⟩ rfl rfl hl.1 rfl (lv_room (Nat.le_of_ble_eq_true rfl)) dX2_isModel_8 ⟨Nat.le_of_ble_eq_true rfl, Nat.le_of_ble_eq_true rfl⟩) (fun r_8 e_8 => ?_)
  subst e_8
  exact W.zret (ty := .boolean) (v := cs_z (cs_in v 0 ((nI (cs_n S)) - 1))) hx hb hr (cs_z_nar (cs_in v 0 ((nI (cs_n S)) - 1))) (fun t ht _ => ⟨cs_z (cs_in v 0 ((nI (cs_n S)) - 1)), rfl, rfl, ht⟩) (fun q h => by cases h) dX2_isModel_11
set_option maxHeartbeats 4000000 in
set_option maxRecDepth 100000 in
theorem k_X2_isRow (l : Launch) (D : va_G) (S : cs_St) (th : Int32) (bd : Nat → Nat) (cy : Nat → ClassId) (v : Int32) : cs_Mi l yX2_isRow wsX2_isRow ({ frames := 1, cells := 0, slots := 0, locals := 22 }) D (cs_tys cy) [] [.int v] (cs_z (cs_in v 0 3)) := by
  refine Met.ofW (cc := cX2_isRow) (maxL := 1) (ret := (some .boolean)) (by decide) rfl ?_
  intro pg e s m args below meth c s₁ B hml hv
  obtain ⟨rfl, hE, hP, hK⟩ := hv
  have hx := B.exec
  have hb := B.bytes
  have hr := B.returns
  have hts := atoms_spec (ws := wsX2_isRow) B.pre
  have hown : s.vm.findClass RX2 = some m.cls := findClass_of_methodNamed B.named
  have hlocks := B.notSynchronized
  have hl := lv_entry ([.int v]) (n := 1) (Nat.le_of_ble_eq_true rfl)
  rw [lg_entry_eq]
  generalize (lg_sl ([.int v]) ++ List.replicate (1 - (lg_sl ([.int v])).length) Slot.unset).toArray = ls at hl ⊢
  have hl : lv_has ls 1 [(0, .int v)] := hl
  refine lv_iload_n hx hb dX2_isRow_0 rfl (lv_at hl 0 rfl) ?_
  refine lv_iconst (v := 0) hx hb dX2_isRow_1 (by decide) ?_
  refine lv_iconst (v := 3) hx hb dX2_isRow_2 (by decide) ?_
  refine vp_callSi (W.runS (As := [.int v, .int 0, .int 3]) (rest := []) ⟨hx, hb, hml, hown, hts⟩ (k_X2_in l D S th bd cy  v 0 3) (va_cwS 3 hts gX2_isRow_X2_in rfl rfl rfl (by decide +kernel) ⟨Nat.le_of_ble_eq_true rfl, Nat.le_of_ble_eq_true rfl⟩) ⟨cs_B.blind, cs_B.at hE cs_none hK⟩ rfl rfl hl.1 rfl (lv_room (Nat.le_of_ble_eq_true rfl)) dX2_isRow_3 ⟨Nat.le_of_ble_eq_true rfl, Nat.le_of_ble_eq_true rfl⟩) (fun r_3 e_3 => ?_)
  subst e_3
  exact W.zret (ty := .boolean) (v := cs_z (cs_in v 0 3)) hx hb hr (cs_z_nar (cs_in v 0 3)) (fun t ht _ => ⟨cs_z (cs_in v 0 3), rfl, rfl, ht⟩) (fun q h => by cases h) dX2_isRow_6
set_option maxHeartbeats 4000000 in
set_option maxRecDepth 100000 in
theorem k_X2_isByte (l : Launch) (D : va_G) (S : cs_St) (th : Int32) (bd : Nat → Nat) (cy : Nat → ClassId) (v : Int32) : cs_Mi l yX2_isByte wsX2_isByte ({ frames := 1, cells := 0, slots := 0, locals := 22 }) D (cs_tys cy) [] [.int v] (cs_z (cs_in v 0 255)) := by
  refine Met.ofW (cc := cX2_isByte) (maxL := 1) (ret := (some .boolean)) (by decide) rfl ?_
  intro pg e s m args below meth c s₁ B hml hv
  obtain ⟨rfl, hE, hP, hK⟩ := hv
  have hx := B.exec
  have hb := B.bytes
  have hr := B.returns
  have hts := atoms_spec (ws := wsX2_isByte) B.pre
  have hown : s.vm.findClass RX2 = some m.cls := findClass_of_methodNamed B.named
  have hlocks := B.notSynchronized
  have hl := lv_entry ([.int v]) (n := 1) (Nat.le_of_ble_eq_true rfl)
  rw [lg_entry_eq]
  generalize (lg_sl ([.int v]) ++ List.replicate (1 - (lg_sl ([.int v])).length) Slot.unset).toArray = ls at hl ⊢
  have hl : lv_has ls 1 [(0, .int v)] := hl
  refine lv_iload_n hx hb dX2_isByte_0 rfl (lv_at hl 0 rfl) ?_
  refine lv_iconst (v := 0) hx hb dX2_isByte_1 (by decide) ?_
  refine lv_sipush (v := 255) hx hb dX2_isByte_2 (by decide) ?_
  refine vp_callSi (W.runS (As := [.int v, .int 0, .int 255]) (rest := []) ⟨hx, hb, hml, hown, hts⟩ (k_X2_in l D S th bd cy  v 0 255) (va_cwS 3 hts gX2_isByte_X2_in rfl rfl rfl (by decide +kernel) ⟨Nat.le_of_ble_eq_true rfl, Nat.le_of_ble_eq_true rfl⟩) ⟨cs_B.blind, cs_B.at hE cs_none hK⟩ rfl rfl hl.1 rfl (lv_room (Nat.le_of_ble_eq_true rfl)) dX2_isByte_5 ⟨Nat.le_of_ble_eq_true rfl, Nat.le_of_ble_eq_true rfl⟩) (fun r_5 e_5 => ?_)
  subst e_5
  exact W.zret (ty := .boolean) (v := cs_z (cs_in v 0 255)) hx hb hr (cs_z_nar (cs_in v 0 255)) (fun t ht _ => ⟨cs_z (cs_in v 0 255), rfl, rfl, ht⟩) (fun q h => by cases h) dX2_isByte_8
set_option maxHeartbeats 4000000 in
set_option maxRecDepth 100000 in
theorem k_X2_hasBits (l : Launch) (D : va_G) (S : cs_St) (th : Int32) (bd : Nat → Nat) (cy : Nat → ClassId) (v u : Int32) : cs_Mi l yX2_hasBits wsX2_hasBits ({ frames := 0, cells := 0, slots := 0, locals := 0 }) D (cs_tys cy) [] [.int v, .int u] (cs_z (cs_nb v u)) := by
  refine Met.ofW (cc := cX2_hasBits) (maxL := 2) (ret := (some .boolean)) (by decide) rfl ?_
  intro pg e s m args below meth c s₁ B hml hv
  obtain ⟨rfl, hE, hP, hK⟩ := hv
  have hx := B.exec
  have hb := B.bytes
  have hr := B.returns
  have hts := atoms_spec (ws := wsX2_hasBits) B.pre
  have hown : s.vm.findClass RX2 = some m.cls := findClass_of_methodNamed B.named
  have hlocks := B.notSynchronized
  have hl := lv_entry ([.int v, .int u]) (n := 2) (Nat.le_of_ble_eq_true rfl)
  rw [lg_entry_eq]
  generalize (lg_sl ([.int v, .int u]) ++ List.replicate (2 - (lg_sl ([.int v, .int u])).length) Slot.unset).toArray = ls at hl ⊢
  have hl : lv_has ls 2 [(0, .int v), (1, .int u)] := hl
  refine lv_iload_n hx hb dX2_hasBits_0 rfl (lv_at hl 1 rfl) ?_
  refine lv_bipush (v := 32) hx hb dX2_hasBits_1 (by decide) ?_
  refine lv_icmp_eq (tgt := 12) hx hb dX2_hasBits_3 (by decide) (fun c_3 => ?_) (fun c_3 => ?_)
  · refine lv_iconst (v := 1) hx hb dX2_hasBits_12 (by decide) ?_
    refine lv_goto (tgt := 17) hx hb dX2_hasBits_13 (by decide) ?_
    exact W.zret (ty := .boolean) (v := 1) hx hb hr (rfl) (fun t ht _ => ⟨1, rfl, by unfold cs_nb; rw [decide_eq_true c_3]; rfl, ht⟩) (fun q h => by cases h) dX2_hasBits_17
  · refine lv_iload_n hx hb dX2_hasBits_6 rfl (lv_at hl 0 rfl) ?_
    refine lv_iload_n hx hb dX2_hasBits_7 rfl (lv_at hl 1 rfl) ?_
    refine lv_iushr (v := cs_ur v u) hx hb dX2_hasBits_8 rfl ?_
    refine lv_if_ne (tgt := 16) hx hb dX2_hasBits_9 (by decide) (fun c_9 => ?_) (fun c_9 => ?_)
    · refine lv_iconst (v := 0) hx hb dX2_hasBits_16 (by decide) ?_
      exact W.zret (ty := .boolean) (v := 0) hx hb hr (rfl) (fun t ht _ => ⟨0, rfl, by unfold cs_nb; rw [decide_eq_false c_3, decide_eq_false c_9]; rfl, ht⟩) (fun q h => by cases h) dX2_hasBits_17
    · refine lv_iconst (v := 1) hx hb dX2_hasBits_12 (by decide) ?_
      refine lv_goto (tgt := 17) hx hb dX2_hasBits_13 (by decide) ?_
      exact W.zret (ty := .boolean) (v := 1) hx hb hr (rfl) (fun t ht _ => ⟨1, rfl, by unfold cs_nb; rw [decide_eq_true c_9, Bool.or_true]; rfl, ht⟩) (fun q h => by cases h) dX2_hasBits_17
set_option maxHeartbeats 4000000 in
set_option maxRecDepth 100000 in
theorem k_X2_isNumber (l : Launch) (D : va_G) (S : cs_St) (th : Int32) (bd : Nat → Nat) (cy : Nat → ClassId) (hS : cs_ok S) (k : Nat) (hk : k < cs_n S) (v : Int32) : cs_Mi l yX2_isNumber wsX2_isNumber ({ frames := 1, cells := 0, slots := 0, locals := 21 }) D (cs_tys cy) (cs_R S th bd cy) [.ref (bd 0), .int (nI k), .int v] (cs_z (cs_nb v (nI (cs_w S k)))) := by
  refine Met.ofW (cc := cX2_isNumber) (maxL := 3) (ret := (some .boolean)) (by decide) rfl ?_
  intro pg e s m args below meth c s₁ B hml hv
  obtain ⟨rfl, hE, hP, hK⟩ := hv
  have hx := B.exec
  have hb := B.bytes
  have hr := B.returns
  have hts := atoms_spec (ws := wsX2_isNumber) B.pre
  have hown : s.vm.findClass RX2 = some m.cls := findClass_of_methodNamed B.named
  have hlocks := B.notSynchronized
  have hl := lv_entry ([.ref (bd 0), .int (nI k), .int v]) (n := 3) (Nat.le_of_ble_eq_true rfl)
  rw [lg_entry_eq]
  generalize (lg_sl ([.ref (bd 0), .int (nI k), .int v]) ++ List.replicate (3 - (lg_sl ([.ref (bd 0), .int (nI k), .int v])).length) Slot.unset).toArray = ls at hl ⊢
  have hl : lv_has ls 3 [(0, .ref (bd 0)), (1, .int (nI k)), (2, .int v)] := hl
  have hinX2 : ∀ w ∈ wsX20, w ∈ wsX2_isNumber := fun _ h => by unfold wsX2_isNumber; exact List.mem_cons_of_mem _ (List.mem_append_right _ h)
  have h6 := hS.1
  refine lv_iload_n hx hb dX2_isNumber_0 rfl (lv_at hl 2 rfl) ?_
  refine lv_aload_n hx hb dX2_isNumber_1 rfl (lv_at hl 0 rfl) ?_
  refine va_get (D := D) (ci := 2) (v := .ref (bd 1)) (C := RX2) (T := TX2) (N := 10) hx hb hts hinX2 hown hK hP 0 cs_R0 rfl 0 (by decide) (hts (.fieldLink RX2 7 "ChecksumLabModel" "width" "[I") (by decide +kernel)) (fun _ h9 => h9) rfl dX2_isNumber_2 ?_
  refine lv_iload_n hx hb dX2_isNumber_5 rfl (lv_at hl 1 rfl) ?_
  refine cs_iald hx hb hK hP 1 0 cs_R1 rfl (k := k) (by omega) (by decide) dX2_isNumber_6 ?_
  refine vp_callSi (W.runS (As := [.int v, .int (nI (cs_w S k))]) (rest := []) ⟨hx, hb, hml, hown, hts⟩ (k_X2_hasBits l D S th bd cy  v (nI (cs_w S k))) (va_cwS 2 hts gX2_isNumber_X2_hasBits rfl rfl rfl (by decide +kernel) ⟨Nat.le_of_ble_eq_true rfl, Nat.le_of_ble_eq_true rfl⟩) ⟨cs_B.blind, cs_B.at hE cs_none hK⟩ rfl rfl hl.1 rfl (lv_room (Nat.le_of_ble_eq_true rfl)) dX2_isNumber_7 ⟨Nat.le_of_ble_eq_true rfl, Nat.le_of_ble_eq_true rfl⟩) (fun r_7 e_7 => ?_)
  subst e_7
  exact W.zret (ty := .boolean) (v := cs_z (cs_nb v (nI (cs_w S k)))) hx hb hr (cs_z_nar (cs_nb v (nI (cs_w S k)))) (fun t ht _ => ⟨cs_z (cs_nb v (nI (cs_w S k))), rfl, rfl, ht⟩) (fun q h => by cases h) dX2_isNumber_10
set_option maxHeartbeats 4000000 in
set_option maxRecDepth 100000 in
theorem k_X2_timesX (l : Launch) (D : va_G) (S : cs_St) (th : Int32) (bd : Nat → Nat) (cy : Nat → ClassId) (hS : cs_ok S) (k : Nat) (hk : k < cs_n S) (v : Int32) : cs_Mi l yX2_timesX wsX2_timesX ({ frames := 0, cells := 0, slots := 0, locals := 0 }) D (cs_tys cy) (cs_R S th bd cy) [.ref (bd 0), .int (nI k), .int v] (cs_T (cs_w S k) (cs_p S k) v) := by
  refine Met.ofW (cc := cX2_timesX) (maxL := 5) (ret := (some .int)) (by decide) rfl ?_
  intro pg e s m args below meth c s₁ B hml hv
  obtain ⟨rfl, hE, hP, hK⟩ := hv
  have hx := B.exec
  have hb := B.bytes
  have hr := B.returns
  have hts := atoms_spec (ws := wsX2_timesX) B.pre
  have hown : s.vm.findClass RX2 = some m.cls := findClass_of_methodNamed B.named
  have hlocks := B.notSynchronized
  have hl := lv_entry ([.ref (bd 0), .int (nI k), .int v]) (n := 5) (Nat.le_of_ble_eq_true rfl)
  rw [lg_entry_eq]
  generalize (lg_sl ([.ref (bd 0), .int (nI k), .int v]) ++ List.replicate (5 - (lg_sl ([.ref (bd 0), .int (nI k), .int v])).length) Slot.unset).toArray = ls at hl ⊢
  have hl : lv_has ls 5 [(0, .ref (bd 0)), (1, .int (nI k)), (2, .int v)] := hl
  have hinX2 : ∀ w ∈ wsX20, w ∈ wsX2_timesX := fun _ h => by unfold wsX2_timesX; exact List.mem_cons_of_mem _ (List.mem_append_right _ h)
  have h6 := hS.1
  obtain ⟨hw1, hw2⟩ := hS.2.1 k hk
  have j21 : ∀ b : Bool, (b = true ↔ cs_ur v (nI (cs_w S k) - 1) &&& 1 = 1) → W pg l e (headSpec wsX2_timesX ({ frames := 0, cells := 0, slots := 0, locals := 0 })).room s m [Value.ref (bd 0), Value.int (nI k), Value.int v].toArray below meth c s.heap [] 0 0 (MQ below (vp_Si (fun rr => rr = cs_T (cs_w S k) (cs_p S k) v)) [Value.ref (bd 0), Value.int (nI k), Value.int v].toArray s 0 0 (fun _ => False)) (F0 m 21 ls [.int (cs_z b)]) := by
    intro b hbt
    refine lv_istore_n (lv' := [(3, .int (cs_z b)), (0, .ref (bd 0)), (1, .int (nI k)), (2, .int v)]) hx hb dX2_timesX_21 rfl hl (by decide) rfl (fun ls hl => ?_)
    refine lv_aload_n hx hb dX2_timesX_22 rfl (lv_at hl 1 rfl) ?_
    refine va_get (D := D) (ci := 2) (v := .ref (bd 1)) (C := RX2) (T := TX2) (N := 10) hx hb hts hinX2 hown hK hP 0 cs_R0 rfl 0 (by decide) (hts (.fieldLink RX2 7 "ChecksumLabModel" "width" "[I") (by decide +kernel)) (fun _ h9 => h9) rfl dX2_timesX_23 ?_
    refine lv_iload_n hx hb dX2_timesX_26 rfl (lv_at hl 2 rfl) ?_
    refine cs_iald hx hb hK hP 1 0 cs_R1 rfl (k := k) (by omega) (by decide) dX2_timesX_27 ?_
    refine lv_bipush (v := 32) hx hb dX2_timesX_28 (by decide) ?_
    refine lv_icmp_ne (tgt := 39) hx hb dX2_timesX_30 (by decide) (fun c_30 => ?_) (fun c_30 => ?_)
    · refine lv_iload_n hx hb dX2_timesX_39 rfl (lv_at hl 3 rfl) ?_
      refine lv_iconst (v := 1) hx hb dX2_timesX_40 (by decide) ?_
      refine lv_ishl hx hb dX2_timesX_41 ?_
      refine lv_iconst (v := 1) hx hb dX2_timesX_42 (by decide) ?_
      refine lv_aload_n hx hb dX2_timesX_43 rfl (lv_at hl 1 rfl) ?_
      refine va_get (D := D) (ci := 2) (v := .ref (bd 1)) (C := RX2) (T := TX2) (N := 10) hx hb hts hinX2 hown hK hP 0 cs_R0 rfl 0 (by decide) (hts (.fieldLink RX2 7 "ChecksumLabModel" "width" "[I") (by decide +kernel)) (fun _ h9 => h9) rfl dX2_timesX_44 ?_
      refine lv_iload_n hx hb dX2_timesX_47 rfl (lv_at hl 2 rfl) ?_
      refine cs_iald hx hb hK hP 1 0 cs_R1 rfl (k := k) (by omega) (by decide) dX2_timesX_48 ?_
      refine lv_ishl hx hb dX2_timesX_49 ?_
      refine lv_iconst (v := 1) hx hb dX2_timesX_50 (by decide) ?_
      refine lv_isub hx hb dX2_timesX_51 ?_
      refine lv_iand hx hb dX2_timesX_52 ?_
      refine lv_istore (lv' := [(4, .int ((v <<< (1 &&& 31)) &&& ((1 <<< ((nI (cs_w S k)) &&& 31)) - 1))), (3, .int (cs_z b)), (0, .ref (bd 0)), (1, .int (nI k)), (2, .int v)]) hx hb dX2_timesX_53 hl (by decide) rfl (fun ls hl => ?_)
      refine lv_iload_n hx hb dX2_timesX_55 rfl (lv_at hl 1 rfl) ?_
      refine cs_ifeq (tgt := 71) hx hb dX2_timesX_56 (by decide) (fun c_56 => ?_) (fun c_56 => ?_)
      · refine lv_iload hx hb dX2_timesX_71 (lv_at hl 0 rfl) ?_
        exact W.iret (v := (v <<< (1 &&& 31)) &&& ((1 <<< ((nI (cs_w S k)) &&& 31)) - 1)) hx hb hr (fun t ht _ => ⟨(v <<< (1 &&& 31)) &&& ((1 <<< ((nI (cs_w S k)) &&& 31)) - 1), rfl, by have h := cs_T_r (p := cs_p S k) hw1 hw2 (t := (v <<< (1 &&& 31)) &&& ((1 <<< ((nI (cs_w S k)) &&& 31)) - 1)) (by rw [cs_mkR _ (cs_lt32 hw2 c_30) hw1]) b hbt; rw [if_neg (by rw [c_56]; decide)] at h; exact h, ht⟩) (fun q h => by cases h) dX2_timesX_73
      · refine lv_iload hx hb dX2_timesX_59 (lv_at hl 0 rfl) ?_
        refine lv_aload_n hx hb dX2_timesX_61 rfl (lv_at hl 2 rfl) ?_
        refine va_get (D := D) (ci := 2) (v := .ref (bd 2)) (C := RX2) (T := TX2) (N := 10) hx hb hts hinX2 hown hK hP 0 cs_R0 rfl 1 (by decide) (hts (.fieldLink RX2 13 "ChecksumLabModel" "poly" "[I") (by decide +kernel)) (fun _ h9 => h9) rfl dX2_timesX_62 ?_
        refine lv_iload_n hx hb dX2_timesX_65 rfl (lv_at hl 3 rfl) ?_
        refine cs_iald hx hb hK hP 2 0 cs_R2 rfl (k := k) (by omega) (by decide) dX2_timesX_66 ?_
        refine lv_ixor hx hb dX2_timesX_67 ?_
        refine lv_goto (tgt := 73) hx hb dX2_timesX_68 (by decide) ?_
        exact W.iret (v := ((v <<< (1 &&& 31)) &&& ((1 <<< ((nI (cs_w S k)) &&& 31)) - 1)) ^^^ (cs_p S k)) hx hb hr (fun t ht _ => ⟨((v <<< (1 &&& 31)) &&& ((1 <<< ((nI (cs_w S k)) &&& 31)) - 1)) ^^^ (cs_p S k), rfl, by have h := cs_T_r (p := cs_p S k) hw1 hw2 (t := (v <<< (1 &&& 31)) &&& ((1 <<< ((nI (cs_w S k)) &&& 31)) - 1)) (by rw [cs_mkR _ (cs_lt32 hw2 c_30) hw1]) b hbt; rw [if_pos c_56] at h; exact h, ht⟩) (fun q h => by cases h) dX2_timesX_73
    · refine lv_iload_n hx hb dX2_timesX_33 rfl (lv_at hl 3 rfl) ?_
      refine lv_iconst (v := 1) hx hb dX2_timesX_34 (by decide) ?_
      refine lv_ishl hx hb dX2_timesX_35 ?_
      refine lv_goto (tgt := 53) hx hb dX2_timesX_36 (by decide) ?_
      refine lv_istore (lv' := [(4, .int (v <<< (1 &&& 31))), (3, .int (cs_z b)), (0, .ref (bd 0)), (1, .int (nI k)), (2, .int v)]) hx hb dX2_timesX_53 hl (by decide) rfl (fun ls hl => ?_)
      refine lv_iload_n hx hb dX2_timesX_55 rfl (lv_at hl 1 rfl) ?_
      refine cs_ifeq (tgt := 71) hx hb dX2_timesX_56 (by decide) (fun c_56 => ?_) (fun c_56 => ?_)
      · refine lv_iload hx hb dX2_timesX_71 (lv_at hl 0 rfl) ?_
        exact W.iret (v := v <<< (1 &&& 31)) hx hb hr (fun t ht _ => ⟨v <<< (1 &&& 31), rfl, by have h := cs_T_r (p := cs_p S k) hw1 hw2 (t := v <<< (1 &&& 31)) (by have e := (nI_eq (b := 32) (by omega) (by decide)).mp c_30; rw [e, cs_mk32]) b hbt; rw [if_neg (by rw [c_56]; decide)] at h; exact h, ht⟩) (fun q h => by cases h) dX2_timesX_73
      · refine lv_iload hx hb dX2_timesX_59 (lv_at hl 0 rfl) ?_
        refine lv_aload_n hx hb dX2_timesX_61 rfl (lv_at hl 2 rfl) ?_
        refine va_get (D := D) (ci := 2) (v := .ref (bd 2)) (C := RX2) (T := TX2) (N := 10) hx hb hts hinX2 hown hK hP 0 cs_R0 rfl 1 (by decide) (hts (.fieldLink RX2 13 "ChecksumLabModel" "poly" "[I") (by decide +kernel)) (fun _ h9 => h9) rfl dX2_timesX_62 ?_
        refine lv_iload_n hx hb dX2_timesX_65 rfl (lv_at hl 3 rfl) ?_
        refine cs_iald hx hb hK hP 2 0 cs_R2 rfl (k := k) (by omega) (by decide) dX2_timesX_66 ?_
        refine lv_ixor hx hb dX2_timesX_67 ?_
        refine lv_goto (tgt := 73) hx hb dX2_timesX_68 (by decide) ?_
        exact W.iret (v := (v <<< (1 &&& 31)) ^^^ (cs_p S k)) hx hb hr (fun t ht _ => ⟨(v <<< (1 &&& 31)) ^^^ (cs_p S k), rfl, by have h := cs_T_r (p := cs_p S k) hw1 hw2 (t := v <<< (1 &&& 31)) (by have e := (nI_eq (b := 32) (by omega) (by decide)).mp c_30; rw [e, cs_mk32]) b hbt; rw [if_pos c_56] at h; exact h, ht⟩) (fun q h => by cases h) dX2_timesX_73
  refine lv_iload_n hx hb dX2_timesX_0 rfl (lv_at hl 2 rfl) ?_
  refine lv_aload_n hx hb dX2_timesX_1 rfl (lv_at hl 0 rfl) ?_
  refine va_get (D := D) (ci := 2) (v := .ref (bd 1)) (C := RX2) (T := TX2) (N := 10) hx hb hts hinX2 hown hK hP 0 cs_R0 rfl 0 (by decide) (hts (.fieldLink RX2 7 "ChecksumLabModel" "width" "[I") (by decide +kernel)) (fun _ h9 => h9) rfl dX2_timesX_2 ?_
  refine lv_iload_n hx hb dX2_timesX_5 rfl (lv_at hl 1 rfl) ?_
  refine cs_iald hx hb hK hP 1 0 cs_R1 rfl (k := k) (by omega) (by decide) dX2_timesX_6 ?_
  refine lv_iconst (v := 1) hx hb dX2_timesX_7 (by decide) ?_
  refine lv_isub hx hb dX2_timesX_8 ?_
  refine lv_iushr (v := cs_ur v ((nI (cs_w S k)) - 1)) hx hb dX2_timesX_9 rfl ?_
  refine lv_iconst (v := 1) hx hb dX2_timesX_10 (by decide) ?_
  refine lv_iand hx hb dX2_timesX_11 ?_
  refine lv_iconst (v := 1) hx hb dX2_timesX_12 (by decide) ?_
  refine lv_icmp_ne (tgt := 20) hx hb dX2_timesX_13 (by decide) (fun c_13 => ?_) (fun c_13 => ?_)
  · refine lv_iconst (v := 0) hx hb dX2_timesX_20 (by decide) ?_
    exact j21 false ⟨(fun z => by cases z), (fun z => absurd z c_13)⟩ 
  · refine lv_iconst (v := 1) hx hb dX2_timesX_16 (by decide) ?_
    refine lv_goto (tgt := 21) hx hb dX2_timesX_17 (by decide) ?_
    exact j21 true ⟨fun _ => c_13, fun _ => rfl⟩ 
set_option maxHeartbeats 4000000 in
set_option maxRecDepth 100000 in
theorem k_X2_times (l : Launch) (D : va_G) (S : cs_St) (th : Int32) (bd : Nat → Nat) (cy : Nat → ClassId) (hS : cs_ok S) (k : Nat) (hk : k < cs_n S) (v u : Int32) (bi : Nat) (hbi : bi ≤ 32) : cs_Mi l yX2_times wsX2_times ({ frames := 1, cells := 0, slots := 0, locals := 24 }) D (cs_tys cy) (cs_R S th bd cy) [.ref (bd 0), .int (nI k), .int v, .int u, .int (nI bi)] (cs_mul (cs_w S k) (cs_p S k) v u bi) := by
  refine Met.ofW (cc := cX2_times) (maxL := 7) (ret := (some .int)) (by decide) rfl ?_
  intro pg e s m args below meth c s₁ B hml hv
  obtain ⟨rfl, hE, hP, hK⟩ := hv
  have hx := B.exec
  have hb := B.bytes
  have hr := B.returns
  have hts := atoms_spec (ws := wsX2_times) B.pre
  have hown : s.vm.findClass RX2 = some m.cls := findClass_of_methodNamed B.named
  have hlocks := B.notSynchronized
  have hl := lv_entry ([.ref (bd 0), .int (nI k), .int v, .int u, .int (nI bi)]) (n := 7) (Nat.le_of_ble_eq_true rfl)
  rw [lg_entry_eq]
  generalize (lg_sl ([.ref (bd 0), .int (nI k), .int v, .int u, .int (nI bi)]) ++ List.replicate (7 - (lg_sl ([.ref (bd 0), .int (nI k), .int v, .int u, .int (nI bi)])).length) Slot.unset).toArray = ls at hl ⊢
  have hl : lv_has ls 7 [(0, .ref (bd 0)), (1, .int (nI k)), (2, .int v), (3, .int u), (4, .int (nI bi))] := hl
  have hinX2 : ∀ w ∈ wsX20, w ∈ wsX2_times := fun _ h => by unfold wsX2_times; exact List.mem_cons_of_mem _ (List.mem_append_right _ h)
  have h6 := hS.1
  have loop : ∀ (n : Nat) (r : Int32) (b : Int32), b = nI n - 1 → n ≤ 32 → cs_mul (cs_w S k) (cs_p S k) v u bi = cs_pd (cs_w S k) (cs_p S k) v u n r → ∀ ls : Array Slot, lv_has ls 7 [(0, .ref (bd 0)), (1, .int (nI k)), (2, .int v), (3, .int u), (5, .int r), (6, .int b)] → W pg l e (headSpec wsX2_times ({ frames := 1, cells := 0, slots := 0, locals := 24 })).room s m [Value.ref (bd 0), Value.int (nI k), Value.int v, Value.int u, Value.int (nI bi)].toArray below meth c s.heap [] 0 0 (MQ below (vp_Si (fun rr => rr = cs_mul (cs_w S k) (cs_p S k) v u bi)) [Value.ref (bd 0), Value.int (nI k), Value.int v, Value.int u, Value.int (nI bi)].toArray s 0 0 (fun _ => False)) (F0 m 9 ls []) := by
    intro n
    induction n with
    | zero =>
      intro r b eb hn h0 ls hl
      subst eb
      refine lv_iload hx hb dX2_times_9 (lv_at hl 5 rfl) ?_
      refine lv_if_lt (tgt := 50) hx hb dX2_times_11 (by decide) (fun c_11 => ?_) (fun c_11 => ?_)
      · refine lv_iload hx hb dX2_times_50 (lv_at hl 4 rfl) ?_
        exact W.iret (v := r) hx hb hr (fun t ht _ => ⟨r, rfl, h0.symm, ht⟩) (fun q h => by cases h) dX2_times_52
      · exact absurd cs_m1 c_11
    | succ n ih =>
      intro r b eb hn h0 ls hl
      rw [nI_pred] at eb
      subst eb
      refine lv_iload hx hb dX2_times_9 (lv_at hl 5 rfl) ?_
      refine lv_if_lt (tgt := 50) hx hb dX2_times_11 (by decide) (fun c_11 => ?_) (fun c_11 => ?_)
      · exact absurd c_11 (nI_pos (by omega))
      · refine lv_aload_n hx hb dX2_times_14 rfl (lv_at hl 0 rfl) ?_
        refine lv_iload_n hx hb dX2_times_15 rfl (lv_at hl 1 rfl) ?_
        refine lv_iload hx hb dX2_times_16 (lv_at hl 4 rfl) ?_
        refine vp_callSi (W.runV (As := [.int (nI k), .int r]) (rest := []) ⟨hx, hb, hml, hown, hts⟩ (k_X2_timesX l D S th bd cy hS k hk r) (cwV 2 hts gX2_times_X2_timesX rfl rfl rfl (by decide +kernel) ⟨Nat.le_of_ble_eq_true rfl, Nat.le_of_ble_eq_true rfl⟩) ⟨cs_B.blind, va_recv hK hP (ci := 2) (q0 := 0) rfl rfl, cs_B.at hE hP hK⟩ rfl rfl hl.1 rfl (lv_room (Nat.le_of_ble_eq_true rfl)) dX2_times_18 ⟨Nat.le_of_ble_eq_true rfl, Nat.le_of_ble_eq_true rfl⟩) (fun r_18 e_18 => ?_)
        subst e_18
        refine lv_istore (lv' := [(5, .int (cs_T (cs_w S k) (cs_p S k) r)), (0, .ref (bd 0)), (1, .int (nI k)), (2, .int v), (3, .int u), (6, .int (nI n))]) hx hb dX2_times_21 hl (by decide) rfl (fun ls hl => ?_)
        refine lv_iload_n hx hb dX2_times_23 rfl (lv_at hl 4 rfl) ?_
        refine lv_iload hx hb dX2_times_24 (lv_at hl 5 rfl) ?_
        refine lv_iushr (v := cs_ur u (nI n)) hx hb dX2_times_26 rfl ?_
        refine lv_iconst (v := 1) hx hb dX2_times_27 (by decide) ?_
        refine lv_iand hx hb dX2_times_28 ?_
        refine lv_iconst (v := 1) hx hb dX2_times_29 (by decide) ?_
        refine lv_icmp_ne (tgt := 40) hx hb dX2_times_30 (by decide) (fun c_30 => ?_) (fun c_30 => ?_)
        · refine lv_iload hx hb dX2_times_40 (lv_at hl 0 rfl) ?_
          refine lv_istore (lv' := [(5, .int (cs_T (cs_w S k) (cs_p S k) r)), (0, .ref (bd 0)), (1, .int (nI k)), (2, .int v), (3, .int u), (6, .int (nI n))]) hx hb dX2_times_42 hl (by decide) rfl (fun ls hl => ?_)
          refine lv_iinc (v := (nI n) - 1) (lv' := [(6, .int ((nI n) - 1)), (5, .int (cs_T (cs_w S k) (cs_p S k) r)), (0, .ref (bd 0)), (1, .int (nI k)), (2, .int v), (3, .int u)]) hx hb dX2_times_44 hl (k := 5) rfl (cs_dec (nI n)) (by decide) rfl (fun ls hl => ?_)
          refine lv_goto (tgt := 9) hx hb dX2_times_47 (by decide) ?_
          exact ih _ _ rfl (by omega) (h0.trans (cs_pd_0 c_30)) ls (lv_sub hl [2, 3, 4, 5, 1, 0] rfl)
        · refine lv_iload hx hb dX2_times_33 (lv_at hl 0 rfl) ?_
          refine lv_iload_n hx hb dX2_times_35 rfl (lv_at hl 3 rfl) ?_
          refine lv_ixor hx hb dX2_times_36 ?_
          refine lv_goto (tgt := 42) hx hb dX2_times_37 (by decide) ?_
          refine lv_istore (lv' := [(5, .int ((cs_T (cs_w S k) (cs_p S k) r) ^^^ v)), (0, .ref (bd 0)), (1, .int (nI k)), (2, .int v), (3, .int u), (6, .int (nI n))]) hx hb dX2_times_42 hl (by decide) rfl (fun ls hl => ?_)
          refine lv_iinc (v := (nI n) - 1) (lv' := [(6, .int ((nI n) - 1)), (5, .int ((cs_T (cs_w S k) (cs_p S k) r) ^^^ v)), (0, .ref (bd 0)), (1, .int (nI k)), (2, .int v), (3, .int u)]) hx hb dX2_times_44 hl (k := 5) rfl (cs_dec (nI n)) (by decide) rfl (fun ls hl => ?_)
          refine lv_goto (tgt := 9) hx hb dX2_times_47 (by decide) ?_
          exact ih _ _ rfl (by omega) (h0.trans (cs_pd_1 c_30)) ls (lv_sub hl [2, 3, 4, 5, 1, 0] rfl)
  refine lv_iconst (v := 0) hx hb dX2_times_0 (by decide) ?_
  refine lv_istore (lv' := [(5, .int 0), (0, .ref (bd 0)), (1, .int (nI k)), (2, .int v), (3, .int u), (4, .int (nI bi))]) hx hb dX2_times_1 hl (by decide) rfl (fun ls hl => ?_)
  refine lv_iload hx hb dX2_times_3 (lv_at hl 5 rfl) ?_
  refine lv_iconst (v := 1) hx hb dX2_times_5 (by decide) ?_
  refine lv_isub hx hb dX2_times_6 ?_
  refine lv_istore (lv' := [(6, .int ((nI bi) - 1)), (5, .int 0), (0, .ref (bd 0)), (1, .int (nI k)), (2, .int v), (3, .int u), (4, .int (nI bi))]) hx hb dX2_times_7 hl (by decide) rfl (fun ls hl => ?_)
  exact loop bi 0 _ rfl hbi rfl ls (lv_sub hl [2, 3, 4, 5, 1, 0] rfl)
set_option maxHeartbeats 4000000 in
set_option maxRecDepth 100000 in
theorem k_X2_powerOf (l : Launch) (D : va_G) (S : cs_St) (th : Int32) (bd : Nat → Nat) (cy : Nat → ClassId) (hS : cs_ok S) (k : Nat) (hk : k < cs_n S) (v : Int64) : cs_Mi l yX2_powerOf wsX2_powerOf ({ frames := 2, cells := 0, slots := 0, locals := 50 }) D (cs_tys cy) (cs_R S th bd cy) [.ref (bd 0), .int (nI k), .long v] (cs_pow (cs_w S k) (cs_p S k) v) := by
  refine Met.ofW (cc := cX2_powerOf) (maxL := 6) (ret := (some .int)) (by decide) rfl ?_
  intro pg e s m args below meth c s₁ B hml hv
  obtain ⟨rfl, hE, hP, hK⟩ := hv
  have hx := B.exec
  have hb := B.bytes
  have hr := B.returns
  have hts := atoms_spec (ws := wsX2_powerOf) B.pre
  have hown : s.vm.findClass RX2 = some m.cls := findClass_of_methodNamed B.named
  have hlocks := B.notSynchronized
  have hl := lv_entry ([.ref (bd 0), .int (nI k), .long v]) (n := 6) (Nat.le_of_ble_eq_true rfl)
  rw [lg_entry_eq]
  generalize (lg_sl ([.ref (bd 0), .int (nI k), .long v]) ++ List.replicate (6 - (lg_sl ([.ref (bd 0), .int (nI k), .long v])).length) Slot.unset).toArray = ls at hl ⊢
  have hl : lv_has ls 6 [(0, .ref (bd 0)), (1, .int (nI k)), (2, .long v)] := hl
  have hinX2 : ∀ w ∈ wsX20, w ∈ wsX2_powerOf := fun _ h => by unfold wsX2_powerOf; exact List.mem_cons_of_mem _ (List.mem_append_right _ h)
  have h6 := hS.1
  obtain ⟨hw1, hw2⟩ := hS.2.1 k hk
  have loop : ∀ (n : Nat) (r : Int32) (b : Int32), b = nI n - 1 → n ≤ 63 → cs_pow (cs_w S k) (cs_p S k) v = cs_pq (cs_w S k) (cs_p S k) v n r → ∀ ls : Array Slot, lv_has ls 6 [(0, .ref (bd 0)), (1, .int (nI k)), (2, .long v), (4, .int r), (5, .int b)] → W pg l e (headSpec wsX2_powerOf ({ frames := 2, cells := 0, slots := 0, locals := 50 })).room s m [Value.ref (bd 0), Value.int (nI k), Value.long v].toArray below meth c s.heap [] 0 0 (MQ below (vp_Si (fun rr => rr = cs_pow (cs_w S k) (cs_p S k) v)) [Value.ref (bd 0), Value.int (nI k), Value.long v].toArray s 0 0 (fun _ => False)) (F0 m 7 ls []) := by
    intro n
    induction n with
    | zero =>
      intro r b eb hn h0 ls hl
      subst eb
      refine lv_iload hx hb dX2_powerOf_7 (lv_at hl 4 rfl) ?_
      refine lv_if_lt (tgt := 60) hx hb dX2_powerOf_9 (by decide) (fun c_9 => ?_) (fun c_9 => ?_)
      · refine lv_iload hx hb dX2_powerOf_60 (lv_at hl 3 rfl) ?_
        exact W.iret (v := r) hx hb hr (fun t ht _ => ⟨r, rfl, h0.symm, ht⟩) (fun q h => by cases h) dX2_powerOf_62
      · exact absurd cs_m1 c_9
    | succ n ih =>
      intro r b eb hn h0 ls hl
      rw [nI_pred] at eb
      subst eb
      refine lv_iload hx hb dX2_powerOf_7 (lv_at hl 4 rfl) ?_
      refine lv_if_lt (tgt := 60) hx hb dX2_powerOf_9 (by decide) (fun c_9 => ?_) (fun c_9 => ?_)
      · exact absurd c_9 (nI_pos (by omega))
      · refine lv_aload_n hx hb dX2_powerOf_12 rfl (lv_at hl 0 rfl) ?_
        refine lv_iload_n hx hb dX2_powerOf_13 rfl (lv_at hl 1 rfl) ?_
        refine lv_iload hx hb dX2_powerOf_14 (lv_at hl 3 rfl) ?_
        refine lv_iload hx hb dX2_powerOf_16 (lv_at hl 3 rfl) ?_
        refine lv_aload_n hx hb dX2_powerOf_18 rfl (lv_at hl 0 rfl) ?_
        refine va_get (D := D) (ci := 2) (v := .ref (bd 1)) (C := RX2) (T := TX2) (N := 10) hx hb hts hinX2 hown hK hP 0 cs_R0 rfl 0 (by decide) (hts (.fieldLink RX2 7 "ChecksumLabModel" "width" "[I") (by decide +kernel)) (fun _ h9 => h9) rfl dX2_powerOf_19 ?_
        refine lv_iload_n hx hb dX2_powerOf_22 rfl (lv_at hl 1 rfl) ?_
        refine cs_iald hx hb hK hP 1 0 cs_R1 rfl (k := k) (by omega) (by decide) dX2_powerOf_23 ?_
        refine vp_callSi (W.runV (As := [.int (nI k), .int r, .int r, .int (nI (cs_w S k))]) (rest := []) ⟨hx, hb, hml, hown, hts⟩ (k_X2_times l D S th bd cy hS k hk r r (cs_w S k) hw2) (cwV 4 hts gX2_powerOf_X2_times rfl rfl rfl (by decide +kernel) ⟨Nat.le_of_ble_eq_true rfl, Nat.le_of_ble_eq_true rfl⟩) ⟨cs_B.blind, va_recv hK hP (ci := 2) (q0 := 0) rfl rfl, cs_B.at hE hP hK⟩ rfl rfl hl.1 rfl (lv_room (Nat.le_of_ble_eq_true rfl)) dX2_powerOf_24 ⟨Nat.le_of_ble_eq_true rfl, Nat.le_of_ble_eq_true rfl⟩) (fun r_24 e_24 => ?_)
        subst e_24
        refine lv_istore (lv' := [(4, .int (cs_mul (cs_w S k) (cs_p S k) r r (cs_w S k))), (0, .ref (bd 0)), (1, .int (nI k)), (2, .long v), (5, .int (nI n))]) hx hb dX2_powerOf_27 hl (by decide) rfl (fun ls hl => ?_)
        refine lv_lload_n hx hb dX2_powerOf_29 rfl (lv_at hl 3 rfl) ?_
        refine lv_iload hx hb dX2_powerOf_30 (lv_at hl 4 rfl) ?_
        refine lv_lshr (v := v >>> ((nI n).toInt64 &&& 63)) hx hb dX2_powerOf_32 rfl ?_
        refine lv_lconst (v := 1) hx hb dX2_powerOf_33 (by decide) ?_
        refine lv_land hx hb dX2_powerOf_34 ?_
        refine lv_lconst (v := 1) hx hb dX2_powerOf_35 (by decide) ?_
        refine W.lcmp hx hb dX2_powerOf_36 ?_
        refine lv_if_ne (tgt := 50) hx hb dX2_powerOf_37 (by decide) (fun c_37 => ?_) (fun c_37 => ?_)
        · refine lv_iload hx hb dX2_powerOf_50 (lv_at hl 0 rfl) ?_
          refine lv_istore (lv' := [(4, .int (cs_mul (cs_w S k) (cs_p S k) r r (cs_w S k))), (0, .ref (bd 0)), (1, .int (nI k)), (2, .long v), (5, .int (nI n))]) hx hb dX2_powerOf_52 hl (by decide) rfl (fun ls hl => ?_)
          refine lv_iinc (v := (nI n) - 1) (lv' := [(5, .int ((nI n) - 1)), (4, .int (cs_mul (cs_w S k) (cs_p S k) r r (cs_w S k))), (0, .ref (bd 0)), (1, .int (nI k)), (2, .long v)]) hx hb dX2_powerOf_54 hl (k := 4) rfl (cs_dec (nI n)) (by decide) rfl (fun ls hl => ?_)
          refine lv_goto (tgt := 7) hx hb dX2_powerOf_57 (by decide) ?_
          exact ih _ _ rfl (by omega) (h0.trans (cs_pq_0 (fun z => c_37 ((lg_cmp_eq _ _).mpr ((cs_lbR v n (by omega)).trans z))))) ls (lv_sub hl [2, 3, 4, 1, 0] rfl)
        · refine lv_aload_n hx hb dX2_powerOf_40 rfl (lv_at hl 1 rfl) ?_
          refine lv_iload_n hx hb dX2_powerOf_41 rfl (lv_at hl 2 rfl) ?_
          refine lv_iload hx hb dX2_powerOf_42 (lv_at hl 0 rfl) ?_
          refine vp_callSi (W.runV (As := [.int (nI k), .int (cs_mul (cs_w S k) (cs_p S k) r r (cs_w S k))]) (rest := []) ⟨hx, hb, hml, hown, hts⟩ (k_X2_timesX l D S th bd cy hS k hk (cs_mul (cs_w S k) (cs_p S k) r r (cs_w S k))) (cwV 2 hts gX2_powerOf_X2_timesX rfl rfl rfl (by decide +kernel) ⟨Nat.le_of_ble_eq_true rfl, Nat.le_of_ble_eq_true rfl⟩) ⟨cs_B.blind, va_recv hK hP (ci := 2) (q0 := 0) rfl rfl, cs_B.at hE hP hK⟩ rfl rfl hl.1 rfl (lv_room (Nat.le_of_ble_eq_true rfl)) dX2_powerOf_44 ⟨Nat.le_of_ble_eq_true rfl, Nat.le_of_ble_eq_true rfl⟩) (fun r_44 e_44 => ?_)
          subst e_44
          refine lv_goto (tgt := 52) hx hb dX2_powerOf_47 (by decide) ?_
          refine lv_istore (lv' := [(4, .int (cs_T (cs_w S k) (cs_p S k) (cs_mul (cs_w S k) (cs_p S k) r r (cs_w S k)))), (0, .ref (bd 0)), (1, .int (nI k)), (2, .long v), (5, .int (nI n))]) hx hb dX2_powerOf_52 hl (by decide) rfl (fun ls hl => ?_)
          refine lv_iinc (v := (nI n) - 1) (lv' := [(5, .int ((nI n) - 1)), (4, .int (cs_T (cs_w S k) (cs_p S k) (cs_mul (cs_w S k) (cs_p S k) r r (cs_w S k)))), (0, .ref (bd 0)), (1, .int (nI k)), (2, .long v)]) hx hb dX2_powerOf_54 hl (k := 4) rfl (cs_dec (nI n)) (by decide) rfl (fun ls hl => ?_)
          refine lv_goto (tgt := 7) hx hb dX2_powerOf_57 (by decide) ?_
          exact ih _ _ rfl (by omega) (h0.trans (cs_pq_1 ((cs_lbR v n (by omega)).symm.trans ((lg_cmp_eq _ _).mp c_37)))) ls (lv_sub hl [2, 3, 4, 1, 0] rfl)
  refine lv_iconst (v := 1) hx hb dX2_powerOf_0 (by decide) ?_
  refine lv_istore (lv' := [(4, .int 1), (0, .ref (bd 0)), (1, .int (nI k)), (2, .long v)]) hx hb dX2_powerOf_1 hl (by decide) rfl (fun ls hl => ?_)
  refine lv_bipush (v := 62) hx hb dX2_powerOf_3 (by decide) ?_
  refine lv_istore (lv' := [(5, .int 62), (4, .int 1), (0, .ref (bd 0)), (1, .int (nI k)), (2, .long v)]) hx hb dX2_powerOf_5 hl (by decide) rfl (fun ls hl => ?_)
  exact loop 63 1 _ (by decide) (by decide) rfl ls (lv_sub hl [2, 3, 4, 1, 0] rfl)
set_option maxHeartbeats 4000000 in
set_option maxRecDepth 100000 in
theorem k_X2_reversed (l : Launch) (D : va_G) (S : cs_St) (th : Int32) (bd : Nat → Nat) (cy : Nat → ClassId) (v : Int32) (b0 : Nat) (hb0 : b0 ≤ 32) : cs_Mi l yX2_reversed wsX2_reversed ({ frames := 0, cells := 0, slots := 0, locals := 0 }) D (cs_tys cy) [] [.int v, .int (nI b0)] (cs_rv v b0) := by
  refine Met.ofW (cc := cX2_reversed) (maxL := 4) (ret := (some .int)) (by decide) rfl ?_
  intro pg e s m args below meth c s₁ B hml hv
  obtain ⟨rfl, hE, hP, hK⟩ := hv
  have hx := B.exec
  have hb := B.bytes
  have hr := B.returns
  have hts := atoms_spec (ws := wsX2_reversed) B.pre
  have hown : s.vm.findClass RX2 = some m.cls := findClass_of_methodNamed B.named
  have hlocks := B.notSynchronized
  have hl := lv_entry ([.int v, .int (nI b0)]) (n := 4) (Nat.le_of_ble_eq_true rfl)
  rw [lg_entry_eq]
  generalize (lg_sl ([.int v, .int (nI b0)]) ++ List.replicate (4 - (lg_sl ([.int v, .int (nI b0)])).length) Slot.unset).toArray = ls at hl ⊢
  have hl : lv_has ls 4 [(0, .int v), (1, .int (nI b0))] := hl
  have loop : ∀ (n i : Nat), i + n = b0 → ∀ ls : Array Slot, lv_has ls 4 [(0, .int v), (1, .int (nI b0)), (2, .int (cs_rw v (nI b0) i)), (3, .int (nI i))] → W pg l e (headSpec wsX2_reversed ({ frames := 0, cells := 0, slots := 0, locals := 0 })).room s m [Value.int v, Value.int (nI b0)].toArray below meth c s.heap [] 0 0 (MQ below (vp_Si (fun rr => rr = cs_rv v b0)) [Value.int v, Value.int (nI b0)].toArray s 0 0 (fun _ => False)) (F0 m 4 ls []) := by
    intro n
    induction n with
    | zero =>
      intro i hi   ls hl
      rw [Nat.add_zero] at hi
      subst hi
      refine lv_iload_n hx hb dX2_reversed_4 rfl (lv_at hl 3 rfl) ?_
      refine lv_iload_n hx hb dX2_reversed_5 rfl (lv_at hl 1 rfl) ?_
      refine lv_icmp_ge (tgt := 29) hx hb dX2_reversed_6 (by decide) (fun c_6 => ?_) (fun c_6 => ?_)
      · refine lv_iload_n hx hb dX2_reversed_29 rfl (lv_at hl 2 rfl) ?_
        exact W.iret (v := cs_rw v (nI i) i) hx hb hr (fun t ht _ => ⟨cs_rw v (nI i) i, rfl, cs_rw_rv v _ hb0, ht⟩) (fun q h => by cases h) dX2_reversed_30
      · exact absurd (nI_le (a := _) (b := _) (Nat.le_refl _) (by omega)) c_6
    | succ n ih =>
      intro i hi   ls hl
      refine lv_iload_n hx hb dX2_reversed_4 rfl (lv_at hl 3 rfl) ?_
      refine lv_iload_n hx hb dX2_reversed_5 rfl (lv_at hl 1 rfl) ?_
      refine lv_icmp_ge (tgt := 29) hx hb dX2_reversed_6 (by decide) (fun c_6 => ?_) (fun c_6 => ?_)
      · exact absurd c_6 (nI_ge (a := i) (b := b0) (by omega) (by omega))
      · refine lv_iload_n hx hb dX2_reversed_9 rfl (lv_at hl 2 rfl) ?_
        refine lv_iload_n hx hb dX2_reversed_10 rfl (lv_at hl 0 rfl) ?_
        refine lv_iload_n hx hb dX2_reversed_11 rfl (lv_at hl 3 rfl) ?_
        refine lv_iushr (v := cs_ur v (nI i)) hx hb dX2_reversed_12 rfl ?_
        refine lv_iconst (v := 1) hx hb dX2_reversed_13 (by decide) ?_
        refine lv_iand hx hb dX2_reversed_14 ?_
        refine lv_iload_n hx hb dX2_reversed_15 rfl (lv_at hl 1 rfl) ?_
        refine lv_iconst (v := 1) hx hb dX2_reversed_16 (by decide) ?_
        refine lv_isub hx hb dX2_reversed_17 ?_
        refine lv_iload_n hx hb dX2_reversed_18 rfl (lv_at hl 3 rfl) ?_
        refine lv_isub hx hb dX2_reversed_19 ?_
        refine lv_ishl hx hb dX2_reversed_20 ?_
        refine lv_ior hx hb dX2_reversed_21 ?_
        refine lv_istore_n (lv' := [(2, .int ((cs_rw v (nI b0) i) ||| (((cs_ur v (nI i)) &&& 1) <<< ((((nI b0) - 1) - (nI i)) &&& 31)))), (0, .int v), (1, .int (nI b0)), (3, .int (nI i))]) hx hb dX2_reversed_22 rfl hl (by decide) rfl (fun ls hl => ?_)
        refine lv_iinc (v := nI (i + 1)) (lv' := [(3, .int (nI (i + 1))), (2, .int ((cs_rw v (nI b0) i) ||| (((cs_ur v (nI i)) &&& 1) <<< ((((nI b0) - 1) - (nI i)) &&& 31)))), (0, .int v), (1, .int (nI b0))]) hx hb dX2_reversed_23 hl (k := 3) rfl (cs_inc1 i) (by decide) rfl (fun ls hl => ?_)
        refine lv_goto (tgt := 4) hx hb dX2_reversed_26 (by decide) ?_
        exact ih (i + 1) (by omega) ls (lv_sub hl [2, 3, 1, 0] rfl)
  refine lv_iconst (v := 0) hx hb dX2_reversed_0 (by decide) ?_
  refine lv_istore_n (lv' := [(2, .int 0), (0, .int v), (1, .int (nI b0))]) hx hb dX2_reversed_1 rfl hl (by decide) rfl (fun ls hl => ?_)
  refine lv_iconst (v := 0) hx hb dX2_reversed_2 (by decide) ?_
  refine lv_istore_n (lv' := [(3, .int 0), (2, .int 0), (0, .int v), (1, .int (nI b0))]) hx hb dX2_reversed_3 rfl hl (by decide) rfl (fun ls hl => ?_)
  exact loop b0 0 (by omega) ls (lv_sub hl [2, 3, 1, 0] rfl)
set_option maxHeartbeats 4000000 in
set_option maxRecDepth 100000 in
theorem k_X2_registerOf (l : Launch) (D : va_G) (S : cs_St) (th : Int32) (bd : Nat → Nat) (cy : Nat → ClassId) (hS : cs_ok S) (k : Nat) (hk : k < cs_n S) (v : Int32) : cs_Mi l yX2_registerOf wsX2_registerOf ({ frames := 1, cells := 0, slots := 0, locals := 23 }) D (cs_tys cy) (cs_R S th bd cy) [.ref (bd 0), .int (nI k), .int v] (cs_so (cs_ro S k) (cs_w S k) (v ^^^ cs_x S k)) := by
  refine Met.ofW (cc := cX2_registerOf) (maxL := 4) (ret := (some .int)) (by decide) rfl ?_
  intro pg e s m args below meth c s₁ B hml hv
  obtain ⟨rfl, hE, hP, hK⟩ := hv
  have hx := B.exec
  have hb := B.bytes
  have hr := B.returns
  have hts := atoms_spec (ws := wsX2_registerOf) B.pre
  have hown : s.vm.findClass RX2 = some m.cls := findClass_of_methodNamed B.named
  have hlocks := B.notSynchronized
  have hl := lv_entry ([.ref (bd 0), .int (nI k), .int v]) (n := 4) (Nat.le_of_ble_eq_true rfl)
  rw [lg_entry_eq]
  generalize (lg_sl ([.ref (bd 0), .int (nI k), .int v]) ++ List.replicate (4 - (lg_sl ([.ref (bd 0), .int (nI k), .int v])).length) Slot.unset).toArray = ls at hl ⊢
  have hl : lv_has ls 4 [(0, .ref (bd 0)), (1, .int (nI k)), (2, .int v)] := hl
  have hinX2 : ∀ w ∈ wsX20, w ∈ wsX2_registerOf := fun _ h => by unfold wsX2_registerOf; exact List.mem_cons_of_mem _ (List.mem_append_right _ h)
  have h6 := hS.1
  obtain ⟨hw1, hw2⟩ := hS.2.1 k hk
  refine lv_iload_n hx hb dX2_registerOf_0 rfl (lv_at hl 2 rfl) ?_
  refine lv_aload_n hx hb dX2_registerOf_1 rfl (lv_at hl 0 rfl) ?_
  refine va_get (D := D) (ci := 2) (v := .ref (bd 4)) (C := RX2) (T := TX2) (N := 10) hx hb hts hinX2 hown hK hP 0 cs_R0 rfl 3 (by decide) (hts (.fieldLink RX2 19 "ChecksumLabModel" "xorOut" "[I") (by decide +kernel)) (fun _ h9 => h9) rfl dX2_registerOf_2 ?_
  refine lv_iload_n hx hb dX2_registerOf_5 rfl (lv_at hl 1 rfl) ?_
  refine cs_iald hx hb hK hP 4 0 cs_R4 rfl (k := k) (by omega) (by decide) dX2_registerOf_6 ?_
  refine lv_ixor hx hb dX2_registerOf_7 ?_
  refine lv_istore_n (lv' := [(3, .int (v ^^^ (cs_x S k))), (0, .ref (bd 0)), (1, .int (nI k)), (2, .int v)]) hx hb dX2_registerOf_8 rfl hl (by decide) rfl (fun ls hl => ?_)
  refine lv_aload_n hx hb dX2_registerOf_9 rfl (lv_at hl 1 rfl) ?_
  refine va_get (D := D) (ci := 2) (v := .ref (bd 6)) (C := RX2) (T := TX2) (N := 10) hx hb hts hinX2 hown hK hP 0 cs_R0 rfl 5 (by decide) (hts (.fieldLink RX2 26 "ChecksumLabModel" "reflectOut" "[Z") (by decide +kernel)) (fun _ h9 => h9) rfl dX2_registerOf_10 ?_
  refine lv_iload_n hx hb dX2_registerOf_13 rfl (lv_at hl 2 rfl) ?_
  refine cs_zald hx hb hK hP 6 1 cs_R6 rfl (k := k) (by omega) (by decide) dX2_registerOf_14 ?_
  refine cs_ifeq (tgt := 31) hx hb dX2_registerOf_15 (by decide) (fun c_15 => ?_) (fun c_15 => ?_)
  · refine lv_iload_n hx hb dX2_registerOf_31 rfl (lv_at hl 0 rfl) ?_
    exact W.iret (v := v ^^^ (cs_x S k)) hx hb hr (fun t ht _ => ⟨v ^^^ (cs_x S k), rfl, (if_neg (by rw [c_15]; decide)).symm, ht⟩) (fun q h => by cases h) dX2_registerOf_32
  · refine lv_iload_n hx hb dX2_registerOf_18 rfl (lv_at hl 0 rfl) ?_
    refine lv_aload_n hx hb dX2_registerOf_19 rfl (lv_at hl 1 rfl) ?_
    refine va_get (D := D) (ci := 2) (v := .ref (bd 1)) (C := RX2) (T := TX2) (N := 10) hx hb hts hinX2 hown hK hP 0 cs_R0 rfl 0 (by decide) (hts (.fieldLink RX2 7 "ChecksumLabModel" "width" "[I") (by decide +kernel)) (fun _ h9 => h9) rfl dX2_registerOf_20 ?_
    refine lv_iload_n hx hb dX2_registerOf_23 rfl (lv_at hl 2 rfl) ?_
    refine cs_iald hx hb hK hP 1 0 cs_R1 rfl (k := k) (by omega) (by decide) dX2_registerOf_24 ?_
    refine vp_callSi (W.runS (As := [.int (v ^^^ (cs_x S k)), .int (nI (cs_w S k))]) (rest := []) ⟨hx, hb, hml, hown, hts⟩ (k_X2_reversed l D S th bd cy (v ^^^ (cs_x S k)) (cs_w S k) hw2) (va_cwS 2 hts gX2_registerOf_X2_reversed rfl rfl rfl (by decide +kernel) ⟨Nat.le_of_ble_eq_true rfl, Nat.le_of_ble_eq_true rfl⟩) ⟨cs_B.blind, cs_B.at hE cs_none hK⟩ rfl rfl hl.1 rfl (lv_room (Nat.le_of_ble_eq_true rfl)) dX2_registerOf_25 ⟨Nat.le_of_ble_eq_true rfl, Nat.le_of_ble_eq_true rfl⟩) (fun r_25 e_25 => ?_)
    subst e_25
    refine lv_goto (tgt := 32) hx hb dX2_registerOf_28 (by decide) ?_
    exact W.iret (v := cs_rv (v ^^^ (cs_x S k)) (cs_w S k)) hx hb hr (fun t ht _ => ⟨cs_rv (v ^^^ (cs_x S k)) (cs_w S k), rfl, (if_pos c_15).symm, ht⟩) (fun q h => by cases h) dX2_registerOf_32
set_option maxHeartbeats 4000000 in
set_option maxRecDepth 100000 in
theorem k_X2_sumOf (l : Launch) (D : va_G) (S : cs_St) (th : Int32) (bd : Nat → Nat) (cy : Nat → ClassId) (hS : cs_ok S) (k : Nat) (hk : k < cs_n S) (v : Int32) : cs_Mi l yX2_sumOf wsX2_sumOf ({ frames := 1, cells := 0, slots := 0, locals := 23 }) D (cs_tys cy) (cs_R S th bd cy) [.ref (bd 0), .int (nI k), .int v] (cs_so (cs_ro S k) (cs_w S k) v ^^^ cs_x S k) := by
  refine Met.ofW (cc := cX2_sumOf) (maxL := 4) (ret := (some .int)) (by decide) rfl ?_
  intro pg e s m args below meth c s₁ B hml hv
  obtain ⟨rfl, hE, hP, hK⟩ := hv
  have hx := B.exec
  have hb := B.bytes
  have hr := B.returns
  have hts := atoms_spec (ws := wsX2_sumOf) B.pre
  have hown : s.vm.findClass RX2 = some m.cls := findClass_of_methodNamed B.named
  have hlocks := B.notSynchronized
  have hl := lv_entry ([.ref (bd 0), .int (nI k), .int v]) (n := 4) (Nat.le_of_ble_eq_true rfl)
  rw [lg_entry_eq]
  generalize (lg_sl ([.ref (bd 0), .int (nI k), .int v]) ++ List.replicate (4 - (lg_sl ([.ref (bd 0), .int (nI k), .int v])).length) Slot.unset).toArray = ls at hl ⊢
  have hl : lv_has ls 4 [(0, .ref (bd 0)), (1, .int (nI k)), (2, .int v)] := hl
  have hinX2 : ∀ w ∈ wsX20, w ∈ wsX2_sumOf := fun _ h => by unfold wsX2_sumOf; exact List.mem_cons_of_mem _ (List.mem_append_right _ h)
  have h6 := hS.1
  obtain ⟨hw1, hw2⟩ := hS.2.1 k hk
  refine lv_aload_n hx hb dX2_sumOf_0 rfl (lv_at hl 0 rfl) ?_
  refine va_get (D := D) (ci := 2) (v := .ref (bd 6)) (C := RX2) (T := TX2) (N := 10) hx hb hts hinX2 hown hK hP 0 cs_R0 rfl 5 (by decide) (hts (.fieldLink RX2 26 "ChecksumLabModel" "reflectOut" "[Z") (by decide +kernel)) (fun _ h9 => h9) rfl dX2_sumOf_1 ?_
  refine lv_iload_n hx hb dX2_sumOf_4 rfl (lv_at hl 1 rfl) ?_
  refine cs_zald hx hb hK hP 6 1 cs_R6 rfl (k := k) (by omega) (by decide) dX2_sumOf_5 ?_
  refine cs_ifeq (tgt := 22) hx hb dX2_sumOf_6 (by decide) (fun c_6 => ?_) (fun c_6 => ?_)
  · refine lv_iload_n hx hb dX2_sumOf_22 rfl (lv_at hl 2 rfl) ?_
    refine lv_istore_n (lv' := [(3, .int v), (0, .ref (bd 0)), (1, .int (nI k)), (2, .int v)]) hx hb dX2_sumOf_23 rfl hl (by decide) rfl (fun ls hl => ?_)
    refine lv_iload_n hx hb dX2_sumOf_24 rfl (lv_at hl 0 rfl) ?_
    refine lv_aload_n hx hb dX2_sumOf_25 rfl (lv_at hl 1 rfl) ?_
    refine va_get (D := D) (ci := 2) (v := .ref (bd 4)) (C := RX2) (T := TX2) (N := 10) hx hb hts hinX2 hown hK hP 0 cs_R0 rfl 3 (by decide) (hts (.fieldLink RX2 19 "ChecksumLabModel" "xorOut" "[I") (by decide +kernel)) (fun _ h9 => h9) rfl dX2_sumOf_26 ?_
    refine lv_iload_n hx hb dX2_sumOf_29 rfl (lv_at hl 2 rfl) ?_
    refine cs_iald hx hb hK hP 4 0 cs_R4 rfl (k := k) (by omega) (by decide) dX2_sumOf_30 ?_
    refine lv_ixor hx hb dX2_sumOf_31 ?_
    exact W.iret (v := v ^^^ (cs_x S k)) hx hb hr (fun t ht _ => ⟨v ^^^ (cs_x S k), rfl, by unfold cs_so; rw [if_neg (by rw [c_6]; decide)], ht⟩) (fun q h => by cases h) dX2_sumOf_32
  · refine lv_iload_n hx hb dX2_sumOf_9 rfl (lv_at hl 2 rfl) ?_
    refine lv_aload_n hx hb dX2_sumOf_10 rfl (lv_at hl 0 rfl) ?_
    refine va_get (D := D) (ci := 2) (v := .ref (bd 1)) (C := RX2) (T := TX2) (N := 10) hx hb hts hinX2 hown hK hP 0 cs_R0 rfl 0 (by decide) (hts (.fieldLink RX2 7 "ChecksumLabModel" "width" "[I") (by decide +kernel)) (fun _ h9 => h9) rfl dX2_sumOf_11 ?_
    refine lv_iload_n hx hb dX2_sumOf_14 rfl (lv_at hl 1 rfl) ?_
    refine cs_iald hx hb hK hP 1 0 cs_R1 rfl (k := k) (by omega) (by decide) dX2_sumOf_15 ?_
    refine vp_callSi (W.runS (As := [.int v, .int (nI (cs_w S k))]) (rest := []) ⟨hx, hb, hml, hown, hts⟩ (k_X2_reversed l D S th bd cy v (cs_w S k) hw2) (va_cwS 2 hts gX2_sumOf_X2_reversed rfl rfl rfl (by decide +kernel) ⟨Nat.le_of_ble_eq_true rfl, Nat.le_of_ble_eq_true rfl⟩) ⟨cs_B.blind, cs_B.at hE cs_none hK⟩ rfl rfl hl.1 rfl (lv_room (Nat.le_of_ble_eq_true rfl)) dX2_sumOf_16 ⟨Nat.le_of_ble_eq_true rfl, Nat.le_of_ble_eq_true rfl⟩) (fun r_16 e_16 => ?_)
    subst e_16
    refine lv_goto (tgt := 23) hx hb dX2_sumOf_19 (by decide) ?_
    refine lv_istore_n (lv' := [(3, .int (cs_rv v (cs_w S k))), (0, .ref (bd 0)), (1, .int (nI k)), (2, .int v)]) hx hb dX2_sumOf_23 rfl hl (by decide) rfl (fun ls hl => ?_)
    refine lv_iload_n hx hb dX2_sumOf_24 rfl (lv_at hl 0 rfl) ?_
    refine lv_aload_n hx hb dX2_sumOf_25 rfl (lv_at hl 1 rfl) ?_
    refine va_get (D := D) (ci := 2) (v := .ref (bd 4)) (C := RX2) (T := TX2) (N := 10) hx hb hts hinX2 hown hK hP 0 cs_R0 rfl 3 (by decide) (hts (.fieldLink RX2 19 "ChecksumLabModel" "xorOut" "[I") (by decide +kernel)) (fun _ h9 => h9) rfl dX2_sumOf_26 ?_
    refine lv_iload_n hx hb dX2_sumOf_29 rfl (lv_at hl 2 rfl) ?_
    refine cs_iald hx hb hK hP 4 0 cs_R4 rfl (k := k) (by omega) (by decide) dX2_sumOf_30 ?_
    refine lv_ixor hx hb dX2_sumOf_31 ?_
    exact W.iret (v := (cs_rv v (cs_w S k)) ^^^ (cs_x S k)) hx hb hr (fun t ht _ => ⟨(cs_rv v (cs_w S k)) ^^^ (cs_x S k), rfl, by unfold cs_so; rw [if_pos c_6], ht⟩) (fun q h => by cases h) dX2_sumOf_32
set_option maxHeartbeats 4000000 in
set_option maxRecDepth 100000 in
theorem k_X2_takes (l : Launch) (D : va_G) (S : cs_St) (th : Int32) (bd : Nat → Nat) (cy : Nat → ClassId) (hS : cs_ok S) (k : Nat) (hk : k < cs_n S) (v : Int32) (bb : Nat) (hbb : bb < 256) : cs_Mi l yX2_takes wsX2_takes ({ frames := 1, cells := 0, slots := 0, locals := 24 }) D (cs_tys cy) (cs_R S th bd cy) [.ref (bd 0), .int (nI k), .int v, .int (nI bb)] (cs_tk (cs_w S k) (cs_p S k) (cs_ri S k) v (nI bb)) := by
  refine Met.ofW (cc := cX2_takes) (maxL := 7) (ret := (some .int)) (by decide) rfl ?_
  intro pg e s m args below meth c s₁ B hml hv
  obtain ⟨rfl, hE, hP, hK⟩ := hv
  have hx := B.exec
  have hb := B.bytes
  have hr := B.returns
  have hts := atoms_spec (ws := wsX2_takes) B.pre
  have hown : s.vm.findClass RX2 = some m.cls := findClass_of_methodNamed B.named
  have hlocks := B.notSynchronized
  have hl := lv_entry ([.ref (bd 0), .int (nI k), .int v, .int (nI bb)]) (n := 7) (Nat.le_of_ble_eq_true rfl)
  rw [lg_entry_eq]
  generalize (lg_sl ([.ref (bd 0), .int (nI k), .int v, .int (nI bb)]) ++ List.replicate (7 - (lg_sl ([.ref (bd 0), .int (nI k), .int v, .int (nI bb)])).length) Slot.unset).toArray = ls at hl ⊢
  have hl : lv_has ls 7 [(0, .ref (bd 0)), (1, .int (nI k)), (2, .int v), (3, .int (nI bb))] := hl
  have hinX2 : ∀ w ∈ wsX20, w ∈ wsX2_takes := fun _ h => by unfold wsX2_takes; exact List.mem_cons_of_mem _ (List.mem_append_right _ h)
  have h6 := hS.1
  have loop : ∀ (n i : Nat), i + n = 8 → ∀ ls : Array Slot, lv_has ls 7 [(0, .ref (bd 0)), (1, .int (nI k)), (3, .int (nI bb)), (4, .int (cs_tz (cs_w S k) (cs_p S k) (cs_ri S k) (nI bb) v i)), (5, .int (nI i))] → W pg l e (headSpec wsX2_takes ({ frames := 1, cells := 0, slots := 0, locals := 24 })).room s m [Value.ref (bd 0), Value.int (nI k), Value.int v, Value.int (nI bb)].toArray below meth c s.heap [] 0 0 (MQ below (vp_Si (fun rr => rr = cs_tk (cs_w S k) (cs_p S k) (cs_ri S k) v (nI bb))) [Value.ref (bd 0), Value.int (nI k), Value.int v, Value.int (nI bb)].toArray s 0 0 (fun _ => False)) (F0 m 6 ls []) := by
    intro n
    induction n with
    | zero =>
      intro i hi   ls hl
      rw [Nat.add_zero] at hi
      subst hi
      refine lv_iload hx hb dX2_takes_6 (lv_at hl 4 rfl) ?_
      refine lv_bipush (v := 8) hx hb dX2_takes_8 (by decide) ?_
      refine lv_icmp_ge (tgt := 65) hx hb dX2_takes_10 (by decide) (fun c_10 => ?_) (fun c_10 => ?_)
      · refine lv_iload hx hb dX2_takes_65 (lv_at hl 3 rfl) ?_
        exact W.iret (v := cs_tz (cs_w S k) (cs_p S k) (cs_ri S k) (nI bb) v 8) hx hb hr (fun t ht _ => ⟨cs_tz (cs_w S k) (cs_p S k) (cs_ri S k) (nI bb) v 8, rfl, cs_tz8 hbb, ht⟩) (fun q h => by cases h) dX2_takes_67
      · exact absurd (nI_le (a := 8) (b := 8) (Nat.le_refl _) (by omega)) c_10
    | succ n ih =>
      intro i hi   ls hl
      refine lv_iload hx hb dX2_takes_6 (lv_at hl 4 rfl) ?_
      refine lv_bipush (v := 8) hx hb dX2_takes_8 (by decide) ?_
      refine lv_icmp_ge (tgt := 65) hx hb dX2_takes_10 (by decide) (fun c_10 => ?_) (fun c_10 => ?_)
      · exact absurd c_10 (nI_ge (a := i) (b := 8) (by omega) (by omega))
      · refine lv_iload_n hx hb dX2_takes_13 rfl (lv_at hl 2 rfl) ?_
        refine lv_aload_n hx hb dX2_takes_14 rfl (lv_at hl 0 rfl) ?_
        refine va_get (D := D) (ci := 2) (v := .ref (bd 5)) (C := RX2) (T := TX2) (N := 10) hx hb hts hinX2 hown hK hP 0 cs_R0 rfl 4 (by decide) (hts (.fieldLink RX2 22 "ChecksumLabModel" "reflectIn" "[Z") (by decide +kernel)) (fun _ h9 => h9) rfl dX2_takes_15 ?_
        refine lv_iload_n hx hb dX2_takes_18 rfl (lv_at hl 1 rfl) ?_
        refine cs_zald hx hb hK hP 5 1 cs_R5 rfl (k := k) (by omega) (by decide) dX2_takes_19 ?_
        refine cs_ifeq (tgt := 28) hx hb dX2_takes_20 (by decide) (fun c_20 => ?_) (fun c_20 => ?_)
        · refine lv_bipush (v := 7) hx hb dX2_takes_28 (by decide) ?_
          refine lv_iload hx hb dX2_takes_30 (lv_at hl 4 rfl) ?_
          refine lv_isub hx hb dX2_takes_32 ?_
          refine cs_top (y := cs_tq (cs_ri S k) i) (by unfold cs_tq; rw [if_neg (by rw [c_20]; decide)]) ?_
          refine lv_ishr hx hb dX2_takes_33 ?_
          refine lv_iconst (v := 1) hx hb dX2_takes_34 (by decide) ?_
          refine lv_iand hx hb dX2_takes_35 ?_
          refine lv_istore (lv' := [(6, .int (((nI bb) >>> ((cs_tq (cs_ri S k) i) &&& 31)) &&& 1)), (0, .ref (bd 0)), (1, .int (nI k)), (3, .int (nI bb)), (4, .int (cs_tz (cs_w S k) (cs_p S k) (cs_ri S k) (nI bb) v i)), (5, .int (nI i))]) hx hb dX2_takes_36 hl (by decide) rfl (fun ls hl => ?_)
          refine lv_aload_n hx hb dX2_takes_38 rfl (lv_at hl 1 rfl) ?_
          refine lv_iload_n hx hb dX2_takes_39 rfl (lv_at hl 2 rfl) ?_
          refine lv_iload hx hb dX2_takes_40 (lv_at hl 4 rfl) ?_
          refine lv_iload hx hb dX2_takes_42 (lv_at hl 0 rfl) ?_
          refine lv_aload_n hx hb dX2_takes_44 rfl (lv_at hl 1 rfl) ?_
          refine va_get (D := D) (ci := 2) (v := .ref (bd 1)) (C := RX2) (T := TX2) (N := 10) hx hb hts hinX2 hown hK hP 0 cs_R0 rfl 0 (by decide) (hts (.fieldLink RX2 7 "ChecksumLabModel" "width" "[I") (by decide +kernel)) (fun _ h9 => h9) rfl dX2_takes_45 ?_
          refine lv_iload_n hx hb dX2_takes_48 rfl (lv_at hl 2 rfl) ?_
          refine cs_iald hx hb hK hP 1 0 cs_R1 rfl (k := k) (by omega) (by decide) dX2_takes_49 ?_
          refine lv_iconst (v := 1) hx hb dX2_takes_50 (by decide) ?_
          refine lv_isub hx hb dX2_takes_51 ?_
          refine lv_ishl hx hb dX2_takes_52 ?_
          refine lv_ixor hx hb dX2_takes_53 ?_
          refine vp_callSi (W.runV (As := [.int (nI k), .int ((cs_tz (cs_w S k) (cs_p S k) (cs_ri S k) (nI bb) v i) ^^^ ((((nI bb) >>> ((cs_tq (cs_ri S k) i) &&& 31)) &&& 1) <<< (((nI (cs_w S k)) - 1) &&& 31)))]) (rest := []) ⟨hx, hb, hml, hown, hts⟩ (k_X2_timesX l D S th bd cy hS k hk ((cs_tz (cs_w S k) (cs_p S k) (cs_ri S k) (nI bb) v i) ^^^ ((((nI bb) >>> ((cs_tq (cs_ri S k) i) &&& 31)) &&& 1) <<< (((nI (cs_w S k)) - 1) &&& 31)))) (cwV 2 hts gX2_takes_X2_timesX rfl rfl rfl (by decide +kernel) ⟨Nat.le_of_ble_eq_true rfl, Nat.le_of_ble_eq_true rfl⟩) ⟨cs_B.blind, va_recv hK hP (ci := 2) (q0 := 0) rfl rfl, cs_B.at hE hP hK⟩ rfl rfl hl.1 rfl (lv_room (Nat.le_of_ble_eq_true rfl)) dX2_takes_54 ⟨Nat.le_of_ble_eq_true rfl, Nat.le_of_ble_eq_true rfl⟩) (fun r_54 e_54 => ?_)
          subst e_54
          refine lv_istore (lv' := [(4, .int (cs_T (cs_w S k) (cs_p S k) ((cs_tz (cs_w S k) (cs_p S k) (cs_ri S k) (nI bb) v i) ^^^ ((((nI bb) >>> ((cs_tq (cs_ri S k) i) &&& 31)) &&& 1) <<< (((nI (cs_w S k)) - 1) &&& 31))))), (6, .int (((nI bb) >>> ((cs_tq (cs_ri S k) i) &&& 31)) &&& 1)), (0, .ref (bd 0)), (1, .int (nI k)), (3, .int (nI bb)), (5, .int (nI i))]) hx hb dX2_takes_57 hl (by decide) rfl (fun ls hl => ?_)
          refine lv_iinc (v := nI (i + 1)) (lv' := [(5, .int (nI (i + 1))), (4, .int (cs_T (cs_w S k) (cs_p S k) ((cs_tz (cs_w S k) (cs_p S k) (cs_ri S k) (nI bb) v i) ^^^ ((((nI bb) >>> ((cs_tq (cs_ri S k) i) &&& 31)) &&& 1) <<< (((nI (cs_w S k)) - 1) &&& 31))))), (6, .int (((nI bb) >>> ((cs_tq (cs_ri S k) i) &&& 31)) &&& 1)), (0, .ref (bd 0)), (1, .int (nI k)), (3, .int (nI bb))]) hx hb dX2_takes_59 hl (k := 5) rfl (cs_inc1 i) (by decide) rfl (fun ls hl => ?_)
          refine lv_goto (tgt := 6) hx hb dX2_takes_62 (by decide) ?_
          exact ih (i + 1) (by omega) ls (lv_sub hl [3, 4, 5, 1, 0] rfl)
        · refine lv_iload hx hb dX2_takes_23 (lv_at hl 4 rfl) ?_
          refine lv_goto (tgt := 33) hx hb dX2_takes_25 (by decide) ?_
          refine cs_top (y := cs_tq (cs_ri S k) i) (by unfold cs_tq; rw [if_pos c_20]) ?_
          refine lv_ishr hx hb dX2_takes_33 ?_
          refine lv_iconst (v := 1) hx hb dX2_takes_34 (by decide) ?_
          refine lv_iand hx hb dX2_takes_35 ?_
          refine lv_istore (lv' := [(6, .int (((nI bb) >>> ((cs_tq (cs_ri S k) i) &&& 31)) &&& 1)), (0, .ref (bd 0)), (1, .int (nI k)), (3, .int (nI bb)), (4, .int (cs_tz (cs_w S k) (cs_p S k) (cs_ri S k) (nI bb) v i)), (5, .int (nI i))]) hx hb dX2_takes_36 hl (by decide) rfl (fun ls hl => ?_)
          refine lv_aload_n hx hb dX2_takes_38 rfl (lv_at hl 1 rfl) ?_
          refine lv_iload_n hx hb dX2_takes_39 rfl (lv_at hl 2 rfl) ?_
          refine lv_iload hx hb dX2_takes_40 (lv_at hl 4 rfl) ?_
          refine lv_iload hx hb dX2_takes_42 (lv_at hl 0 rfl) ?_
          refine lv_aload_n hx hb dX2_takes_44 rfl (lv_at hl 1 rfl) ?_
          refine va_get (D := D) (ci := 2) (v := .ref (bd 1)) (C := RX2) (T := TX2) (N := 10) hx hb hts hinX2 hown hK hP 0 cs_R0 rfl 0 (by decide) (hts (.fieldLink RX2 7 "ChecksumLabModel" "width" "[I") (by decide +kernel)) (fun _ h9 => h9) rfl dX2_takes_45 ?_
          refine lv_iload_n hx hb dX2_takes_48 rfl (lv_at hl 2 rfl) ?_
          refine cs_iald hx hb hK hP 1 0 cs_R1 rfl (k := k) (by omega) (by decide) dX2_takes_49 ?_
          refine lv_iconst (v := 1) hx hb dX2_takes_50 (by decide) ?_
          refine lv_isub hx hb dX2_takes_51 ?_
          refine lv_ishl hx hb dX2_takes_52 ?_
          refine lv_ixor hx hb dX2_takes_53 ?_
          refine vp_callSi (W.runV (As := [.int (nI k), .int ((cs_tz (cs_w S k) (cs_p S k) (cs_ri S k) (nI bb) v i) ^^^ ((((nI bb) >>> ((cs_tq (cs_ri S k) i) &&& 31)) &&& 1) <<< (((nI (cs_w S k)) - 1) &&& 31)))]) (rest := []) ⟨hx, hb, hml, hown, hts⟩ (k_X2_timesX l D S th bd cy hS k hk ((cs_tz (cs_w S k) (cs_p S k) (cs_ri S k) (nI bb) v i) ^^^ ((((nI bb) >>> ((cs_tq (cs_ri S k) i) &&& 31)) &&& 1) <<< (((nI (cs_w S k)) - 1) &&& 31)))) (cwV 2 hts gX2_takes_X2_timesX rfl rfl rfl (by decide +kernel) ⟨Nat.le_of_ble_eq_true rfl, Nat.le_of_ble_eq_true rfl⟩) ⟨cs_B.blind, va_recv hK hP (ci := 2) (q0 := 0) rfl rfl, cs_B.at hE hP hK⟩ rfl rfl hl.1 rfl (lv_room (Nat.le_of_ble_eq_true rfl)) dX2_takes_54 ⟨Nat.le_of_ble_eq_true rfl, Nat.le_of_ble_eq_true rfl⟩) (fun r_54 e_54 => ?_)
          subst e_54
          refine lv_istore (lv' := [(4, .int (cs_T (cs_w S k) (cs_p S k) ((cs_tz (cs_w S k) (cs_p S k) (cs_ri S k) (nI bb) v i) ^^^ ((((nI bb) >>> ((cs_tq (cs_ri S k) i) &&& 31)) &&& 1) <<< (((nI (cs_w S k)) - 1) &&& 31))))), (6, .int (((nI bb) >>> ((cs_tq (cs_ri S k) i) &&& 31)) &&& 1)), (0, .ref (bd 0)), (1, .int (nI k)), (3, .int (nI bb)), (5, .int (nI i))]) hx hb dX2_takes_57 hl (by decide) rfl (fun ls hl => ?_)
          refine lv_iinc (v := nI (i + 1)) (lv' := [(5, .int (nI (i + 1))), (4, .int (cs_T (cs_w S k) (cs_p S k) ((cs_tz (cs_w S k) (cs_p S k) (cs_ri S k) (nI bb) v i) ^^^ ((((nI bb) >>> ((cs_tq (cs_ri S k) i) &&& 31)) &&& 1) <<< (((nI (cs_w S k)) - 1) &&& 31))))), (6, .int (((nI bb) >>> ((cs_tq (cs_ri S k) i) &&& 31)) &&& 1)), (0, .ref (bd 0)), (1, .int (nI k)), (3, .int (nI bb))]) hx hb dX2_takes_59 hl (k := 5) rfl (cs_inc1 i) (by decide) rfl (fun ls hl => ?_)
          refine lv_goto (tgt := 6) hx hb dX2_takes_62 (by decide) ?_
          exact ih (i + 1) (by omega) ls (lv_sub hl [3, 4, 5, 1, 0] rfl)
  refine lv_iload_n hx hb dX2_takes_0 rfl (lv_at hl 2 rfl) ?_
  refine lv_istore (lv' := [(4, .int v), (0, .ref (bd 0)), (1, .int (nI k)), (2, .int v), (3, .int (nI bb))]) hx hb dX2_takes_1 hl (by decide) rfl (fun ls hl => ?_)
  refine lv_iconst (v := 0) hx hb dX2_takes_3 (by decide) ?_
  refine lv_istore (lv' := [(5, .int 0), (4, .int v), (0, .ref (bd 0)), (1, .int (nI k)), (2, .int v), (3, .int (nI bb))]) hx hb dX2_takes_4 hl (by decide) rfl (fun ls hl => ?_)
  exact loop 8 0 (by omega) ls (lv_sub hl [2, 3, 5, 1, 0] rfl)
set_option maxHeartbeats 4000000 in
set_option maxRecDepth 100000 in
theorem k_X2_isPlace (l : Launch) (D : va_G) (S : cs_St) (th : Int32) (bd : Nat → Nat) (cy : Nat → ClassId) (v u : Int32) : cs_Mi l yX2_isPlace wsX2_isPlace ({ frames := 2, cells := 0, slots := 0, locals := 42 }) D (cs_tys cy) (cs_R S th bd cy) [.ref (bd 0), .int v, .int u] (cs_z (cs_pl S v u)) := by
  refine Met.ofW (cc := cX2_isPlace) (maxL := 3) (ret := (some .boolean)) (by decide) rfl ?_
  intro pg e s m args below meth c s₁ B hml hv
  obtain ⟨rfl, hE, hP, hK⟩ := hv
  have hx := B.exec
  have hb := B.bytes
  have hr := B.returns
  have hts := atoms_spec (ws := wsX2_isPlace) B.pre
  have hown : s.vm.findClass RX2 = some m.cls := findClass_of_methodNamed B.named
  have hlocks := B.notSynchronized
  have hl := lv_entry ([.ref (bd 0), .int v, .int u]) (n := 3) (Nat.le_of_ble_eq_true rfl)
  rw [lg_entry_eq]
  generalize (lg_sl ([.ref (bd 0), .int v, .int u]) ++ List.replicate (3 - (lg_sl ([.ref (bd 0), .int v, .int u])).length) Slot.unset).toArray = ls at hl ⊢
  have hl : lv_has ls 3 [(0, .ref (bd 0)), (1, .int v), (2, .int u)] := hl
  have hinX2 : ∀ w ∈ wsX20, w ∈ wsX2_isPlace := fun _ h => by unfold wsX2_isPlace; exact List.mem_cons_of_mem _ (List.mem_append_right _ h)
  refine lv_iload_n hx hb dX2_isPlace_0 rfl (lv_at hl 1 rfl) ?_
  refine vp_callSi (W.runS (As := [.int v]) (rest := []) ⟨hx, hb, hml, hown, hts⟩ (k_X2_isRow l D S th bd cy  v) (va_cwS 1 hts gX2_isPlace_X2_isRow rfl rfl rfl (by decide +kernel) ⟨Nat.le_of_ble_eq_true rfl, Nat.le_of_ble_eq_true rfl⟩) ⟨cs_B.blind, cs_B.at hE cs_none hK⟩ rfl rfl hl.1 rfl (lv_room (Nat.le_of_ble_eq_true rfl)) dX2_isPlace_1 ⟨Nat.le_of_ble_eq_true rfl, Nat.le_of_ble_eq_true rfl⟩) (fun r_1 e_1 => ?_)
  subst e_1
  refine cs_ifeq (tgt := 27) hx hb dX2_isPlace_4 (by decide) (fun c_4 => ?_) (fun c_4 => ?_)
  · refine lv_iconst (v := 0) hx hb dX2_isPlace_27 (by decide) ?_
    exact W.zret (ty := .boolean) (v := 0) hx hb hr (rfl) (fun t ht _ => ⟨0, rfl, by unfold cs_pl; rw [c_4]; rfl, ht⟩) (fun q h => by cases h) dX2_isPlace_28
  · obtain ⟨r, hr4, rfl⟩ := cs_row_of c_4
    refine lv_iload_n hx hb dX2_isPlace_7 rfl (lv_at hl 2 rfl) ?_
    refine lv_iconst (v := 0) hx hb dX2_isPlace_8 (by decide) ?_
    refine lv_aload_n hx hb dX2_isPlace_9 rfl (lv_at hl 0 rfl) ?_
    refine va_get (D := D) (ci := 2) (v := .ref (bd 8)) (C := RX2) (T := TX2) (N := 10) hx hb hts hinX2 hown hK hP 0 cs_R0 rfl 8 (by decide) (hts (.fieldLink RX2 32 "ChecksumLabModel" "length" "[I") (by decide +kernel)) (fun _ h9 => h9) rfl dX2_isPlace_10 ?_
    refine lv_iload_n hx hb dX2_isPlace_13 rfl (lv_at hl 1 rfl) ?_
    refine cs_iald hx hb hK hP 8 0 cs_R8 rfl (k := r) (hr4) (by decide) dX2_isPlace_14 ?_
    refine lv_iconst (v := 1) hx hb dX2_isPlace_15 (by decide) ?_
    refine lv_isub hx hb dX2_isPlace_16 ?_
    refine vp_callSi (W.runS (As := [.int u, .int 0, .int ((nI (cs_ln S r)) - 1)]) (rest := []) ⟨hx, hb, hml, hown, hts⟩ (k_X2_in l D S th bd cy  u 0 ((nI (cs_ln S r)) - 1)) (va_cwS 3 hts gX2_isPlace_X2_in rfl rfl rfl (by decide +kernel) ⟨Nat.le_of_ble_eq_true rfl, Nat.le_of_ble_eq_true rfl⟩) ⟨cs_B.blind, cs_B.at hE cs_none hK⟩ rfl rfl hl.1 rfl (lv_room (Nat.le_of_ble_eq_true rfl)) dX2_isPlace_17 ⟨Nat.le_of_ble_eq_true rfl, Nat.le_of_ble_eq_true rfl⟩) (fun r_17 e_17 => ?_)
    subst e_17
    refine cs_ifeq (tgt := 27) hx hb dX2_isPlace_20 (by decide) (fun c_20 => ?_) (fun c_20 => ?_)
    · refine lv_iconst (v := 0) hx hb dX2_isPlace_27 (by decide) ?_
      exact W.zret (ty := .boolean) (v := 0) hx hb hr (rfl) (fun t ht _ => ⟨0, rfl, by rw [cs_pl_r hr4, c_20]; rfl, ht⟩) (fun q h => by cases h) dX2_isPlace_28
    · refine lv_iconst (v := 1) hx hb dX2_isPlace_23 (by decide) ?_
      refine lv_goto (tgt := 28) hx hb dX2_isPlace_24 (by decide) ?_
      exact W.zret (ty := .boolean) (v := 1) hx hb hr (rfl) (fun t ht _ => ⟨1, rfl, by rw [cs_pl_r hr4, c_20]; rfl, ht⟩) (fun q h => by cases h) dX2_isPlace_28
set_option maxHeartbeats 4000000 in
set_option maxRecDepth 100000 in
theorem k_X2_part (l : Launch) (D : va_G) (S : cs_St) (th : Int32) (bd : Nat → Nat) (cy : Nat → ClassId) (hS : cs_ok S) (k : Nat) (hk : k < cs_n S) (r fr to : Nat) (hr4 : r < 4) (hft : fr ≤ to) (hto : to ≤ 256) : cs_Mi l yX2_part wsX2_part ({ frames := 2, cells := 0, slots := 0, locals := 50 }) D (cs_tys cy) (cs_R S th bd cy) [.ref (bd 0), .int (nI k), .int (nI r), .int (nI fr), .int (nI to)] (cs_so (cs_ro S k) (cs_w S k) (cs_ps (cs_w S k) (cs_p S k) (cs_ri S k) (cs_i S k) (cs_by S r) fr (to - fr)) ^^^ cs_x S k) := by
  refine Met.ofW (cc := cX2_part) (maxL := 7) (ret := (some .int)) (by decide) rfl ?_
  intro pg e s m args below meth c s₁ B hml hv
  obtain ⟨rfl, hE, hP, hK⟩ := hv
  have hx := B.exec
  have hb := B.bytes
  have hr := B.returns
  have hts := atoms_spec (ws := wsX2_part) B.pre
  have hown : s.vm.findClass RX2 = some m.cls := findClass_of_methodNamed B.named
  have hlocks := B.notSynchronized
  have hl := lv_entry ([.ref (bd 0), .int (nI k), .int (nI r), .int (nI fr), .int (nI to)]) (n := 7) (Nat.le_of_ble_eq_true rfl)
  rw [lg_entry_eq]
  generalize (lg_sl ([.ref (bd 0), .int (nI k), .int (nI r), .int (nI fr), .int (nI to)]) ++ List.replicate (7 - (lg_sl ([.ref (bd 0), .int (nI k), .int (nI r), .int (nI fr), .int (nI to)])).length) Slot.unset).toArray = ls at hl ⊢
  have hl : lv_has ls 7 [(0, .ref (bd 0)), (1, .int (nI k)), (2, .int (nI r)), (3, .int (nI fr)), (4, .int (nI to))] := hl
  have hinX2 : ∀ w ∈ wsX20, w ∈ wsX2_part := fun _ h => by unfold wsX2_part; exact List.mem_cons_of_mem _ (List.mem_append_right _ h)
  have h6 := hS.1
  have loop : ∀ (n j : Nat), fr + j + n = to → ∀ ls : Array Slot, lv_has ls 7 [(0, .ref (bd 0)), (1, .int (nI k)), (2, .int (nI r)), (4, .int (nI to)), (5, .int (cs_ps (cs_w S k) (cs_p S k) (cs_ri S k) (cs_i S k) (cs_by S r) fr j)), (6, .int (nI (fr + j)))] → W pg l e (headSpec wsX2_part ({ frames := 2, cells := 0, slots := 0, locals := 50 })).room s m [Value.ref (bd 0), Value.int (nI k), Value.int (nI r), Value.int (nI fr), Value.int (nI to)].toArray below meth c s.heap [] 0 0 (MQ below (vp_Si (fun rr => rr = cs_so (cs_ro S k) (cs_w S k) (cs_ps (cs_w S k) (cs_p S k) (cs_ri S k) (cs_i S k) (cs_by S r) fr (to - fr)) ^^^ cs_x S k)) [Value.ref (bd 0), Value.int (nI k), Value.int (nI r), Value.int (nI fr), Value.int (nI to)].toArray s 0 0 (fun _ => False)) (F0 m 11 ls []) := by
    intro n
    induction n with
    | zero =>
      intro j hj ls hl
      refine lv_iload hx hb dX2_part_11 (lv_at hl 5 rfl) ?_
      refine lv_iload hx hb dX2_part_13 (lv_at hl 3 rfl) ?_
      refine lv_icmp_ge (tgt := 46) hx hb dX2_part_15 (by decide) (fun c_15 => ?_) (fun c_15 => ?_)
      · refine lv_aload_n hx hb dX2_part_46 rfl (lv_at hl 0 rfl) ?_
        refine lv_iload_n hx hb dX2_part_47 rfl (lv_at hl 1 rfl) ?_
        refine lv_iload hx hb dX2_part_48 (lv_at hl 4 rfl) ?_
        refine vp_callSi (W.runV (As := [.int (nI k), .int (cs_ps (cs_w S k) (cs_p S k) (cs_ri S k) (cs_i S k) (cs_by S r) fr j)]) (rest := []) ⟨hx, hb, hml, hown, hts⟩ (k_X2_sumOf l D S th bd cy hS k hk (cs_ps (cs_w S k) (cs_p S k) (cs_ri S k) (cs_i S k) (cs_by S r) fr j)) (cwV 2 hts gX2_part_X2_sumOf rfl rfl rfl (by decide +kernel) ⟨Nat.le_of_ble_eq_true rfl, Nat.le_of_ble_eq_true rfl⟩) ⟨cs_B.blind, va_recv hK hP (ci := 2) (q0 := 0) rfl rfl, cs_B.at hE hP hK⟩ rfl rfl hl.1 rfl (lv_room (Nat.le_of_ble_eq_true rfl)) dX2_part_50 ⟨Nat.le_of_ble_eq_true rfl, Nat.le_of_ble_eq_true rfl⟩) (fun r_50 e_50 => ?_)
        subst e_50
        exact W.iret (v := cs_so (cs_ro S k) (cs_w S k) (cs_ps (cs_w S k) (cs_p S k) (cs_ri S k) (cs_i S k) (cs_by S r) fr j) ^^^ cs_x S k) hx hb hr (fun t ht _ => ⟨cs_so (cs_ro S k) (cs_w S k) (cs_ps (cs_w S k) (cs_p S k) (cs_ri S k) (cs_i S k) (cs_by S r) fr j) ^^^ cs_x S k, rfl, by rw [show to - fr = j by omega], ht⟩) (fun q h => by cases h) dX2_part_53
      · exact absurd (nI_le (by omega) (by omega)) c_15
    | succ n ih =>
      intro j hj ls hl
      refine lv_iload hx hb dX2_part_11 (lv_at hl 5 rfl) ?_
      refine lv_iload hx hb dX2_part_13 (lv_at hl 3 rfl) ?_
      refine lv_icmp_ge (tgt := 46) hx hb dX2_part_15 (by decide) (fun c_15 => ?_) (fun c_15 => ?_)
      · exact absurd c_15 (nI_ge (by omega) (by omega))
      · refine lv_aload_n hx hb dX2_part_18 rfl (lv_at hl 0 rfl) ?_
        refine lv_iload_n hx hb dX2_part_19 rfl (lv_at hl 1 rfl) ?_
        refine lv_iload hx hb dX2_part_20 (lv_at hl 4 rfl) ?_
        refine lv_aload_n hx hb dX2_part_22 rfl (lv_at hl 0 rfl) ?_
        refine va_get (D := D) (ci := 2) (v := .ref (bd 7)) (C := RX2) (T := TX2) (N := 10) hx hb hts hinX2 hown hK hP 0 cs_R0 rfl 7 (by decide) (hts (.fieldLink RX2 29 "ChecksumLabModel" "bytes" "[I") (by decide +kernel)) (fun _ h9 => h9) rfl dX2_part_23 ?_
        refine lv_sipush (v := 256) hx hb dX2_part_26 (by decide) ?_
        refine lv_iload_n hx hb dX2_part_29 rfl (lv_at hl 2 rfl) ?_
        refine lv_imul hx hb dX2_part_30 ?_
        refine lv_iload hx hb dX2_part_31 (lv_at hl 5 rfl) ?_
        refine lv_iadd hx hb dX2_part_33 ?_
        refine cs_top (y := nI (256 * r + (fr + j))) (cs_256 r (fr + j)) ?_
        refine cs_iald hx hb hK hP 7 0 cs_R7 rfl (k := 256 * r + (fr + j)) (by omega) (by decide) dX2_part_34 ?_
        refine cs_top (y := nI (cs_by S r (fr + j))) (congrArg nI (cs_byE (by omega))) ?_
        refine vp_callSi (W.runV (As := [.int (nI k), .int (cs_ps (cs_w S k) (cs_p S k) (cs_ri S k) (cs_i S k) (cs_by S r) fr j), .int (nI (cs_by S r (fr + j)))]) (rest := []) ⟨hx, hb, hml, hown, hts⟩ (k_X2_takes l D S th bd cy hS k hk (cs_ps (cs_w S k) (cs_p S k) (cs_ri S k) (cs_i S k) (cs_by S r) fr j) (cs_by S r (fr + j)) (hS.2.2.2 r _)) (cwV 3 hts gX2_part_X2_takes rfl rfl rfl (by decide +kernel) ⟨Nat.le_of_ble_eq_true rfl, Nat.le_of_ble_eq_true rfl⟩) ⟨cs_B.blind, va_recv hK hP (ci := 2) (q0 := 0) rfl rfl, cs_B.at hE hP hK⟩ rfl rfl hl.1 rfl (lv_room (Nat.le_of_ble_eq_true rfl)) dX2_part_35 ⟨Nat.le_of_ble_eq_true rfl, Nat.le_of_ble_eq_true rfl⟩) (fun r_35 e_35 => ?_)
        subst e_35
        refine lv_istore (lv' := [(5, .int (cs_tk (cs_w S k) (cs_p S k) (cs_ri S k) (cs_ps (cs_w S k) (cs_p S k) (cs_ri S k) (cs_i S k) (cs_by S r) fr j) (nI (cs_by S r (fr + j))))), (0, .ref (bd 0)), (1, .int (nI k)), (2, .int (nI r)), (4, .int (nI to)), (6, .int (nI (fr + j)))]) hx hb dX2_part_38 hl (by decide) rfl (fun ls hl => ?_)
        refine lv_iinc (v := nI (fr + (j + 1))) (lv' := [(6, .int (nI (fr + (j + 1)))), (5, .int (cs_tk (cs_w S k) (cs_p S k) (cs_ri S k) (cs_ps (cs_w S k) (cs_p S k) (cs_ri S k) (cs_i S k) (cs_by S r) fr j) (nI (cs_by S r (fr + j))))), (0, .ref (bd 0)), (1, .int (nI k)), (2, .int (nI r)), (4, .int (nI to))]) hx hb dX2_part_40 hl (k := 5) rfl (cs_inc1 (fr + j)) (by decide) rfl (fun ls hl => ?_)
        refine lv_goto (tgt := 11) hx hb dX2_part_43 (by decide) ?_
        exact ih (j + 1) (by omega) ls (lv_sub hl [2, 3, 4, 5, 1, 0] rfl)
  refine lv_aload_n hx hb dX2_part_0 rfl (lv_at hl 0 rfl) ?_
  refine va_get (D := D) (ci := 2) (v := .ref (bd 3)) (C := RX2) (T := TX2) (N := 10) hx hb hts hinX2 hown hK hP 0 cs_R0 rfl 2 (by decide) (hts (.fieldLink RX2 16 "ChecksumLabModel" "init" "[I") (by decide +kernel)) (fun _ h9 => h9) rfl dX2_part_1 ?_
  refine lv_iload_n hx hb dX2_part_4 rfl (lv_at hl 1 rfl) ?_
  refine cs_iald hx hb hK hP 3 0 cs_R3 rfl (k := k) (by omega) (by decide) dX2_part_5 ?_
  refine lv_istore (lv' := [(5, .int (cs_i S k)), (0, .ref (bd 0)), (1, .int (nI k)), (2, .int (nI r)), (3, .int (nI fr)), (4, .int (nI to))]) hx hb dX2_part_6 hl (by decide) rfl (fun ls hl => ?_)
  refine lv_iload_n hx hb dX2_part_8 rfl (lv_at hl 4 rfl) ?_
  refine lv_istore (lv' := [(6, .int (nI fr)), (5, .int (cs_i S k)), (0, .ref (bd 0)), (1, .int (nI k)), (2, .int (nI r)), (3, .int (nI fr)), (4, .int (nI to))]) hx hb dX2_part_9 hl (by decide) rfl (fun ls hl => ?_)
  exact loop (to - fr) 0 (by omega) ls (lv_sub hl [2, 3, 4, 6, 1, 0] rfl)
set_option maxHeartbeats 4000000 in
set_option maxRecDepth 100000 in
theorem k_X2_isFletcher (l : Launch) (D : va_G) (S : cs_St) (th : Int32) (bd : Nat → Nat) (cy : Nat → ClassId) (v : Int32) : cs_Mi l yX2_isFletcher wsX2_isFletcher ({ frames := 0, cells := 0, slots := 0, locals := 0 }) D (cs_tys cy) [] [.int v] (cs_z (cs_fk v)) := by
  refine Met.ofW (cc := cX2_isFletcher) (maxL := 1) (ret := (some .boolean)) (by decide) rfl ?_
  intro pg e s m args below meth c s₁ B hml hv
  obtain ⟨rfl, hE, hP, hK⟩ := hv
  have hx := B.exec
  have hb := B.bytes
  have hr := B.returns
  have hts := atoms_spec (ws := wsX2_isFletcher) B.pre
  have hown : s.vm.findClass RX2 = some m.cls := findClass_of_methodNamed B.named
  have hlocks := B.notSynchronized
  have hl := lv_entry ([.int v]) (n := 1) (Nat.le_of_ble_eq_true rfl)
  rw [lg_entry_eq]
  generalize (lg_sl ([.int v]) ++ List.replicate (1 - (lg_sl ([.int v])).length) Slot.unset).toArray = ls at hl ⊢
  have hl : lv_has ls 1 [(0, .int v)] := hl
  refine lv_iload_n hx hb dX2_isFletcher_0 rfl (lv_at hl 0 rfl) ?_
  refine lv_if_lt (tgt := 30) hx hb dX2_isFletcher_1 (by decide) (fun c_1 => ?_) (fun c_1 => ?_)
  · refine lv_iconst (v := 0) hx hb dX2_isFletcher_30 (by decide) ?_
    exact W.zret (ty := .boolean) (v := 0) hx hb hr (rfl) (fun t ht _ => ⟨0, rfl, by unfold cs_fk; rw [decide_eq_false (Int32.not_le.mpr c_1)]; rfl, ht⟩) (fun q h => by cases h) dX2_isFletcher_31
  · refine lv_iload_n hx hb dX2_isFletcher_4 rfl (lv_at hl 0 rfl) ?_
    refine lv_sipush (v := 256) hx hb dX2_isFletcher_5 (by decide) ?_
    refine lv_idiv hx hb dX2_isFletcher_8 (by decide) ?_
    refine lv_sipush (v := 255) hx hb dX2_isFletcher_9 (by decide) ?_
    refine lv_icmp_ge (tgt := 30) hx hb dX2_isFletcher_12 (by decide) (fun c_12 => ?_) (fun c_12 => ?_)
    · refine lv_iconst (v := 0) hx hb dX2_isFletcher_30 (by decide) ?_
      exact W.zret (ty := .boolean) (v := 0) hx hb hr (rfl) (fun t ht _ => ⟨0, rfl, by unfold cs_fk; rw [decide_eq_false (Int32.not_lt.mpr c_12), Bool.and_false]; rfl, ht⟩) (fun q h => by cases h) dX2_isFletcher_31
    · refine lv_iload_n hx hb dX2_isFletcher_15 rfl (lv_at hl 0 rfl) ?_
      refine lv_sipush (v := 256) hx hb dX2_isFletcher_16 (by decide) ?_
      refine lv_irem hx hb dX2_isFletcher_19 (by decide) ?_
      refine cs_top (y := cs_rem v 256) (rfl) ?_
      refine lv_sipush (v := 255) hx hb dX2_isFletcher_20 (by decide) ?_
      refine lv_icmp_ge (tgt := 30) hx hb dX2_isFletcher_23 (by decide) (fun c_23 => ?_) (fun c_23 => ?_)
      · refine lv_iconst (v := 0) hx hb dX2_isFletcher_30 (by decide) ?_
        exact W.zret (ty := .boolean) (v := 0) hx hb hr (rfl) (fun t ht _ => ⟨0, rfl, by unfold cs_fk; rw [decide_eq_false (Int32.not_lt.mpr c_23), Bool.and_false]; rfl, ht⟩) (fun q h => by cases h) dX2_isFletcher_31
      · refine lv_iconst (v := 1) hx hb dX2_isFletcher_26 (by decide) ?_
        refine lv_goto (tgt := 31) hx hb dX2_isFletcher_27 (by decide) ?_
        exact W.zret (ty := .boolean) (v := 1) hx hb hr (rfl) (fun t ht _ => ⟨1, rfl, by unfold cs_fk; rw [decide_eq_true (Int32.not_lt.mp c_1), decide_eq_true (Int32.not_le.mp c_12), decide_eq_true (Int32.not_le.mp c_23)]; rfl, ht⟩) (fun q h => by cases h) dX2_isFletcher_31
set_option maxHeartbeats 4000000 in
set_option maxRecDepth 100000 in
theorem k_X2_low (l : Launch) (D : va_G) (S : cs_St) (th : Int32) (bd : Nat → Nat) (cy : Nat → ClassId) (v : Int32) : cs_Mi l yX2_low wsX2_low ({ frames := 0, cells := 0, slots := 0, locals := 0 }) D (cs_tys cy) [] [.int v] (v &&& 65535) := by
  refine Met.ofW (cc := cX2_low) (maxL := 1) (ret := (some .int)) (by decide) rfl ?_
  intro pg e s m args below meth c s₁ B hml hv
  obtain ⟨rfl, hE, hP, hK⟩ := hv
  have hx := B.exec
  have hb := B.bytes
  have hr := B.returns
  have hts := atoms_spec (ws := wsX2_low) B.pre
  have hown : s.vm.findClass RX2 = some m.cls := findClass_of_methodNamed B.named
  have hlocks := B.notSynchronized
  have hl := lv_entry ([.int v]) (n := 1) (Nat.le_of_ble_eq_true rfl)
  rw [lg_entry_eq]
  generalize (lg_sl ([.int v]) ++ List.replicate (1 - (lg_sl ([.int v])).length) Slot.unset).toArray = ls at hl ⊢
  have hl : lv_has ls 1 [(0, .int v)] := hl
  refine lv_iload_n hx hb dX2_low_0 rfl (lv_at hl 0 rfl) ?_
  refine lv_ldc (v := 65535) hx hb hown (hts (.constant RX2 115 65535) (by decide +kernel)) dX2_low_1 ?_
  refine lv_iand hx hb dX2_low_3 ?_
  exact W.iret (v := v &&& 65535) hx hb hr (fun t ht _ => ⟨v &&& 65535, rfl, rfl, ht⟩) (fun q h => by cases h) dX2_low_4
set_option maxHeartbeats 4000000 in
set_option maxRecDepth 100000 in
theorem k_X2_high (l : Launch) (D : va_G) (S : cs_St) (th : Int32) (bd : Nat → Nat) (cy : Nat → ClassId) (v : Int32) : cs_Mi l yX2_high wsX2_high ({ frames := 0, cells := 0, slots := 0, locals := 0 }) D (cs_tys cy) [] [.int v] (cs_ur v 16) := by
  refine Met.ofW (cc := cX2_high) (maxL := 1) (ret := (some .int)) (by decide) rfl ?_
  intro pg e s m args below meth c s₁ B hml hv
  obtain ⟨rfl, hE, hP, hK⟩ := hv
  have hx := B.exec
  have hb := B.bytes
  have hr := B.returns
  have hts := atoms_spec (ws := wsX2_high) B.pre
  have hown : s.vm.findClass RX2 = some m.cls := findClass_of_methodNamed B.named
  have hlocks := B.notSynchronized
  have hl := lv_entry ([.int v]) (n := 1) (Nat.le_of_ble_eq_true rfl)
  rw [lg_entry_eq]
  generalize (lg_sl ([.int v]) ++ List.replicate (1 - (lg_sl ([.int v])).length) Slot.unset).toArray = ls at hl ⊢
  have hl : lv_has ls 1 [(0, .int v)] := hl
  refine lv_iload_n hx hb dX2_high_0 rfl (lv_at hl 0 rfl) ?_
  refine lv_bipush (v := 16) hx hb dX2_high_1 (by decide) ?_
  refine lv_iushr (v := cs_ur v 16) hx hb dX2_high_3 rfl ?_
  exact W.iret (v := cs_ur v 16) hx hb hr (fun t ht _ => ⟨cs_ur v 16, rfl, rfl, ht⟩) (fun q h => by cases h) dX2_high_4
set_option maxHeartbeats 4000000 in
set_option maxRecDepth 100000 in
theorem k_X2_isAdler (l : Launch) (D : va_G) (S : cs_St) (th : Int32) (bd : Nat → Nat) (cy : Nat → ClassId) (v : Int32) : cs_Mi l yX2_isAdler wsX2_isAdler ({ frames := 1, cells := 0, slots := 0, locals := 20 }) D (cs_tys cy) [] [.int v] (cs_z (cs_ak v)) := by
  refine Met.ofW (cc := cX2_isAdler) (maxL := 1) (ret := (some .boolean)) (by decide) rfl ?_
  intro pg e s m args below meth c s₁ B hml hv
  obtain ⟨rfl, hE, hP, hK⟩ := hv
  have hx := B.exec
  have hb := B.bytes
  have hr := B.returns
  have hts := atoms_spec (ws := wsX2_isAdler) B.pre
  have hown : s.vm.findClass RX2 = some m.cls := findClass_of_methodNamed B.named
  have hlocks := B.notSynchronized
  have hl := lv_entry ([.int v]) (n := 1) (Nat.le_of_ble_eq_true rfl)
  rw [lg_entry_eq]
  generalize (lg_sl ([.int v]) ++ List.replicate (1 - (lg_sl ([.int v])).length) Slot.unset).toArray = ls at hl ⊢
  have hl : lv_has ls 1 [(0, .int v)] := hl
  refine lv_iload_n hx hb dX2_isAdler_0 rfl (lv_at hl 0 rfl) ?_
  refine vp_callSi (W.runS (As := [.int v]) (rest := []) ⟨hx, hb, hml, hown, hts⟩ (k_X2_low l D S th bd cy  v) (va_cwS 1 hts gX2_isAdler_X2_low rfl rfl rfl (by decide +kernel) ⟨Nat.le_of_ble_eq_true rfl, Nat.le_of_ble_eq_true rfl⟩) ⟨cs_B.blind, cs_B.at hE cs_none hK⟩ rfl rfl hl.1 rfl (lv_room (Nat.le_of_ble_eq_true rfl)) dX2_isAdler_1 ⟨Nat.le_of_ble_eq_true rfl, Nat.le_of_ble_eq_true rfl⟩) (fun r_1 e_1 => ?_)
  subst e_1
  refine lv_ldc (v := 65521) hx hb hown (hts (.constant RX2 113 65521) (by decide +kernel)) dX2_isAdler_4 ?_
  refine lv_icmp_ge (tgt := 22) hx hb dX2_isAdler_6 (by decide) (fun c_6 => ?_) (fun c_6 => ?_)
  · refine lv_iconst (v := 0) hx hb dX2_isAdler_22 (by decide) ?_
    exact W.zret (ty := .boolean) (v := 0) hx hb hr (rfl) (fun t ht _ => ⟨0, rfl, by unfold cs_ak; rw [decide_eq_false (Int32.not_lt.mpr c_6)]; rfl, ht⟩) (fun q h => by cases h) dX2_isAdler_23
  · refine lv_iload_n hx hb dX2_isAdler_9 rfl (lv_at hl 0 rfl) ?_
    refine vp_callSi (W.runS (As := [.int v]) (rest := []) ⟨hx, hb, hml, hown, hts⟩ (k_X2_high l D S th bd cy  v) (va_cwS 1 hts gX2_isAdler_X2_high rfl rfl rfl (by decide +kernel) ⟨Nat.le_of_ble_eq_true rfl, Nat.le_of_ble_eq_true rfl⟩) ⟨cs_B.blind, cs_B.at hE cs_none hK⟩ rfl rfl hl.1 rfl (lv_room (Nat.le_of_ble_eq_true rfl)) dX2_isAdler_10 ⟨Nat.le_of_ble_eq_true rfl, Nat.le_of_ble_eq_true rfl⟩) (fun r_10 e_10 => ?_)
    subst e_10
    refine lv_ldc (v := 65521) hx hb hown (hts (.constant RX2 113 65521) (by decide +kernel)) dX2_isAdler_13 ?_
    refine lv_icmp_ge (tgt := 22) hx hb dX2_isAdler_15 (by decide) (fun c_15 => ?_) (fun c_15 => ?_)
    · refine lv_iconst (v := 0) hx hb dX2_isAdler_22 (by decide) ?_
      exact W.zret (ty := .boolean) (v := 0) hx hb hr (rfl) (fun t ht _ => ⟨0, rfl, by unfold cs_ak; rw [decide_eq_false (Int32.not_lt.mpr c_15), Bool.and_false]; rfl, ht⟩) (fun q h => by cases h) dX2_isAdler_23
    · refine lv_iconst (v := 1) hx hb dX2_isAdler_18 (by decide) ?_
      refine lv_goto (tgt := 23) hx hb dX2_isAdler_19 (by decide) ?_
      exact W.zret (ty := .boolean) (v := 1) hx hb hr (rfl) (fun t ht _ => ⟨1, rfl, by unfold cs_ak; rw [decide_eq_true (Int32.not_le.mp c_6), decide_eq_true (Int32.not_le.mp c_15)]; rfl, ht⟩) (fun q h => by cases h) dX2_isAdler_23
set_option maxHeartbeats 4000000 in
set_option maxRecDepth 100000 in
theorem k_X2_reduced (l : Launch) (D : va_G) (S : cs_St) (th : Int32) (bd : Nat → Nat) (cy : Nat → ClassId) (v : Int64) : cs_Mi l yX2_reduced wsX2_reduced ({ frames := 0, cells := 0, slots := 0, locals := 0 }) D (cs_tys cy) [] [.long v] ((cs_fm v 65521).toInt32) := by
  refine Met.ofW (cc := cX2_reduced) (maxL := 4) (ret := (some .int)) (by decide) rfl ?_
  intro pg e s m args below meth c s₁ B hml hv
  obtain ⟨rfl, hE, hP, hK⟩ := hv
  have hx := B.exec
  have hb := B.bytes
  have hr := B.returns
  have hts := atoms_spec (ws := wsX2_reduced) B.pre
  have hown : s.vm.findClass RX2 = some m.cls := findClass_of_methodNamed B.named
  have hlocks := B.notSynchronized
  have hl := lv_entry ([.long v]) (n := 4) (Nat.le_of_ble_eq_true rfl)
  rw [lg_entry_eq]
  generalize (lg_sl ([.long v]) ++ List.replicate (4 - (lg_sl ([.long v])).length) Slot.unset).toArray = ls at hl ⊢
  have hl : lv_has ls 4 [(0, .long v)] := hl
  refine lv_lload_n hx hb dX2_reduced_0 rfl (lv_at hl 0 rfl) ?_
  refine lv_ldc2 (v := 65521) hx hb hown (hts (.constantLong RX2 123 65521) (by decide +kernel)) dX2_reduced_1 ?_
  refine lv_lrem hx hb dX2_reduced_4 (by decide) ?_
  refine cs_topl (y := cs_remL v 65521) (rfl) ?_
  refine lv_lstore_n (lv' := [(2, .long (cs_remL v 65521)), (0, .long v)]) hx hb dX2_reduced_5 rfl hl (by decide) rfl (fun ls hl => ?_)
  refine lv_lload_n hx hb dX2_reduced_6 rfl (lv_at hl 0 rfl) ?_
  refine lv_lconst (v := 0) hx hb dX2_reduced_7 (by decide) ?_
  refine W.lcmp hx hb dX2_reduced_8 ?_
  refine lv_if_ge (tgt := 20) hx hb dX2_reduced_9 (by decide) (fun c_9 => ?_) (fun c_9 => ?_)
  · refine lv_lload_n hx hb dX2_reduced_20 rfl (lv_at hl 0 rfl) ?_
    refine lv_l2i (v := (cs_remL v 65521).toInt32) hx hb dX2_reduced_21 rfl ?_
    exact W.iret (v := (cs_remL v 65521).toInt32) hx hb hr (fun t ht _ => ⟨(cs_remL v 65521).toInt32, rfl, by unfold cs_fm; rw [if_neg (fun z => absurd ((lg_cmp_ge _ _).mp c_9) (Int64.not_le.mpr z))], ht⟩) (fun q h => by cases h) dX2_reduced_22
  · refine lv_lload_n hx hb dX2_reduced_12 rfl (lv_at hl 0 rfl) ?_
    refine lv_ldc2 (v := 65521) hx hb hown (hts (.constantLong RX2 123 65521) (by decide +kernel)) dX2_reduced_13 ?_
    refine lv_ladd hx hb dX2_reduced_16 ?_
    refine lv_goto (tgt := 21) hx hb dX2_reduced_17 (by decide) ?_
    refine lv_l2i (v := ((cs_remL v 65521) + 65521).toInt32) hx hb dX2_reduced_21 rfl ?_
    exact W.iret (v := ((cs_remL v 65521) + 65521).toInt32) hx hb hr (fun t ht _ => ⟨((cs_remL v 65521) + 65521).toInt32, rfl, by unfold cs_fm; rw [if_pos (Int64.not_le.mp (fun z => c_9 ((lg_cmp_ge _ _).mpr z)))], ht⟩) (fun q h => by cases h) dX2_reduced_22
set_option maxHeartbeats 4000000 in
set_option maxRecDepth 100000 in
theorem k_X2_adlerOf (l : Launch) (D : va_G) (S : cs_St) (th : Int32) (bd : Nat → Nat) (cy : Nat → ClassId) (v u : Int64) : cs_Mi l yX2_adlerOf wsX2_adlerOf ({ frames := 1, cells := 0, slots := 0, locals := 23 }) D (cs_tys cy) [] [.long v, .long u] (cs_ad v u) := by
  refine Met.ofW (cc := cX2_adlerOf) (maxL := 4) (ret := (some .int)) (by decide) rfl ?_
  intro pg e s m args below meth c s₁ B hml hv
  obtain ⟨rfl, hE, hP, hK⟩ := hv
  have hx := B.exec
  have hb := B.bytes
  have hr := B.returns
  have hts := atoms_spec (ws := wsX2_adlerOf) B.pre
  have hown : s.vm.findClass RX2 = some m.cls := findClass_of_methodNamed B.named
  have hlocks := B.notSynchronized
  have hl := lv_entry ([.long v, .long u]) (n := 4) (Nat.le_of_ble_eq_true rfl)
  rw [lg_entry_eq]
  generalize (lg_sl ([.long v, .long u]) ++ List.replicate (4 - (lg_sl ([.long v, .long u])).length) Slot.unset).toArray = ls at hl ⊢
  have hl : lv_has ls 4 [(0, .long v), (2, .long u)] := hl
  refine lv_ldc (v := 65536) hx hb hown (hts (.constant RX2 114 65536) (by decide +kernel)) dX2_adlerOf_0 ?_
  refine lv_lload_n hx hb dX2_adlerOf_2 rfl (lv_at hl 1 rfl) ?_
  refine vp_callSi (W.runS (As := [.long u]) (rest := [.int 65536]) ⟨hx, hb, hml, hown, hts⟩ (k_X2_reduced l D S th bd cy  u) (va_cwS 1 hts gX2_adlerOf_X2_reduced rfl rfl rfl (by decide +kernel) ⟨Nat.le_of_ble_eq_true rfl, Nat.le_of_ble_eq_true rfl⟩) ⟨cs_B.blind, cs_B.at hE cs_none hK⟩ rfl rfl hl.1 rfl (lv_room (Nat.le_of_ble_eq_true rfl)) dX2_adlerOf_3 ⟨Nat.le_of_ble_eq_true rfl, Nat.le_of_ble_eq_true rfl⟩) (fun r_3 e_3 => ?_)
  subst e_3
  refine lv_imul hx hb dX2_adlerOf_6 ?_
  refine lv_lload_n hx hb dX2_adlerOf_7 rfl (lv_at hl 0 rfl) ?_
  refine vp_callSi (W.runS (As := [.long v]) (rest := [.int (65536 * ((cs_fm u 65521).toInt32))]) ⟨hx, hb, hml, hown, hts⟩ (k_X2_reduced l D S th bd cy  v) (va_cwS 1 hts gX2_adlerOf_X2_reduced rfl rfl rfl (by decide +kernel) ⟨Nat.le_of_ble_eq_true rfl, Nat.le_of_ble_eq_true rfl⟩) ⟨cs_B.blind, cs_B.at hE cs_none hK⟩ rfl rfl hl.1 rfl (lv_room (Nat.le_of_ble_eq_true rfl)) dX2_adlerOf_8 ⟨Nat.le_of_ble_eq_true rfl, Nat.le_of_ble_eq_true rfl⟩) (fun r_8 e_8 => ?_)
  subst e_8
  refine lv_iadd hx hb dX2_adlerOf_11 ?_
  exact W.iret (v := (65536 * ((cs_fm u 65521).toInt32)) + ((cs_fm v 65521).toInt32)) hx hb hr (fun t ht _ => ⟨(65536 * ((cs_fm u 65521).toInt32)) + ((cs_fm v 65521).toInt32), rfl, rfl, ht⟩) (fun q h => by cases h) dX2_adlerOf_12
