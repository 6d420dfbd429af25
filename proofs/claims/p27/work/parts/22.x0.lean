set_option maxHeartbeats 4000000 in
set_option maxRecDepth 100000 in
theorem k_X0_timesX (l : Launch) (D : va_G) (tys : List (ClassId × FieldType)) (a : Nat) (wd : Nat) (po ini xo : Int32) (ri ro : Bool) (v : Int32) : cs_Mi l yX0_timesX wsX0_timesX ({ frames := 0, cells := 0, slots := 0, locals := 0 }) D tys [(a, .inr (0, cs_F wd po ini ri ro xo))] [.ref a, .int v] (cs_T wd po v) := by
  refine Met.ofW (cc := cX0_timesX) (maxL := 3) (ret := (some .int)) (by decide) rfl ?_
  intro pg e s m args below meth c s₁ B hml hv
  obtain ⟨rfl, hE, hP, hK⟩ := hv
  have hx := B.exec
  have hb := B.bytes
  have hr := B.returns
  have hts := atoms_spec (ws := wsX0_timesX) B.pre
  have hown : s.vm.findClass RX0 = some m.cls := findClass_of_methodNamed B.named
  have hlocks := B.notSynchronized
  have hl := lv_entry ([.ref a, .int v]) (n := 3) (Nat.le_of_ble_eq_true rfl)
  rw [lg_entry_eq]
  generalize (lg_sl ([.ref a, .int v]) ++ List.replicate (3 - (lg_sl ([.ref a, .int v])).length) Slot.unset).toArray = ls at hl ⊢
  have hl : lv_has ls 3 [(0, .ref a), (1, .int v)] := hl
  have hinX0 : ∀ w ∈ wsX00, w ∈ wsX0_timesX := fun _ h => by unfold wsX0_timesX; exact List.mem_cons_of_mem _ (List.mem_append_right _ h)
  refine lv_iload_n hx hb dX0_timesX_0 rfl (lv_at hl 1 rfl) ?_
  refine lv_iconst (v := 1) hx hb dX0_timesX_1 (by decide) ?_
  refine lv_ishl hx hb dX0_timesX_2 ?_
  refine lv_aload_n hx hb dX0_timesX_3 rfl (lv_at hl 0 rfl) ?_
  refine va_get (D := D) (ci := 0) (v := .int (cs_mk wd)) (C := RX0) (T := TX0) (N := 8) hx hb hts hinX0 hown hK hP 0 rfl rfl 6 (by decide) (hts (.fieldLink RX0 31 "ChecksumLab$Model" "mask" "I") (by decide +kernel)) (fun _ h9 => h9) rfl dX0_timesX_4 ?_
  refine lv_iand hx hb dX0_timesX_7 ?_
  refine lv_istore_n (lv' := [(2, .int ((v <<< (1 &&& 31)) &&& (cs_mk wd))), (0, .ref a), (1, .int v)]) hx hb dX0_timesX_8 rfl hl (by decide) rfl (fun ls hl => ?_)
  refine lv_iload_n hx hb dX0_timesX_9 rfl (lv_at hl 2 rfl) ?_
  refine lv_aload_n hx hb dX0_timesX_10 rfl (lv_at hl 1 rfl) ?_
  refine va_get (D := D) (ci := 0) (v := .int (cs_hb wd)) (C := RX0) (T := TX0) (N := 8) hx hb hts hinX0 hown hK hP 0 rfl rfl 7 (by decide) (hts (.fieldLink RX0 34 "ChecksumLab$Model" "highest" "I") (by decide +kernel)) (fun _ h9 => h9) rfl dX0_timesX_11 ?_
  refine lv_iand hx hb dX0_timesX_14 ?_
  refine lv_if_eq (tgt := 27) hx hb dX0_timesX_15 (by decide) (fun c_15 => ?_) (fun c_15 => ?_)
  · refine lv_iload_n hx hb dX0_timesX_27 rfl (lv_at hl 0 rfl) ?_
    exact W.iret (v := (v <<< (1 &&& 31)) &&& (cs_mk wd)) hx hb hr (fun t ht _ => ⟨(v <<< (1 &&& 31)) &&& (cs_mk wd), rfl, (cs_T_lo c_15).symm, ht⟩) (fun q h => by cases h) dX0_timesX_28
  · refine lv_iload_n hx hb dX0_timesX_18 rfl (lv_at hl 0 rfl) ?_
    refine lv_aload_n hx hb dX0_timesX_19 rfl (lv_at hl 1 rfl) ?_
    refine va_get (D := D) (ci := 0) (v := .int po) (C := RX0) (T := TX0) (N := 8) hx hb hts hinX0 hown hK hP 0 rfl rfl 1 (by decide) (hts (.fieldLink RX0 15 "ChecksumLab$Model" "poly" "I") (by decide +kernel)) (fun _ h9 => h9) rfl dX0_timesX_20 ?_
    refine lv_ixor hx hb dX0_timesX_23 ?_
    refine lv_goto (tgt := 28) hx hb dX0_timesX_24 (by decide) ?_
    exact W.iret (v := ((v <<< (1 &&& 31)) &&& (cs_mk wd)) ^^^ po) hx hb hr (fun t ht _ => ⟨((v <<< (1 &&& 31)) &&& (cs_mk wd)) ^^^ po, rfl, (cs_T_hi c_15).symm, ht⟩) (fun q h => by cases h) dX0_timesX_28
set_option maxHeartbeats 4000000 in
set_option maxRecDepth 100000 in
theorem k_X0_takeBit (l : Launch) (D : va_G) (tys : List (ClassId × FieldType)) (a : Nat) (wd : Nat) (po ini xo : Int32) (ri ro : Bool) (v u : Int32) : cs_Mi l yX0_takeBit wsX0_takeBit ({ frames := 1, cells := 0, slots := 0, locals := 22 }) D tys [(a, .inr (0, cs_F wd po ini ri ro xo))] [.ref a, .int v, .int u] (cs_tb wd po v u) := by
  refine Met.ofW (cc := cX0_takeBit) (maxL := 3) (ret := (some .int)) (by decide) rfl ?_
  intro pg e s m args below meth c s₁ B hml hv
  obtain ⟨rfl, hE, hP, hK⟩ := hv
  have hx := B.exec
  have hb := B.bytes
  have hr := B.returns
  have hts := atoms_spec (ws := wsX0_takeBit) B.pre
  have hown : s.vm.findClass RX0 = some m.cls := findClass_of_methodNamed B.named
  have hlocks := B.notSynchronized
  have hl := lv_entry ([.ref a, .int v, .int u]) (n := 3) (Nat.le_of_ble_eq_true rfl)
  rw [lg_entry_eq]
  generalize (lg_sl ([.ref a, .int v, .int u]) ++ List.replicate (3 - (lg_sl ([.ref a, .int v, .int u])).length) Slot.unset).toArray = ls at hl ⊢
  have hl : lv_has ls 3 [(0, .ref a), (1, .int v), (2, .int u)] := hl
  have hinX0 : ∀ w ∈ wsX00, w ∈ wsX0_takeBit := fun _ h => by unfold wsX0_takeBit; exact List.mem_cons_of_mem _ (List.mem_append_right _ h)
  refine lv_aload_n hx hb dX0_takeBit_0 rfl (lv_at hl 0 rfl) ?_
  refine lv_iload_n hx hb dX0_takeBit_1 rfl (lv_at hl 1 rfl) ?_
  refine lv_iload_n hx hb dX0_takeBit_2 rfl (lv_at hl 2 rfl) ?_
  refine lv_aload_n hx hb dX0_takeBit_3 rfl (lv_at hl 0 rfl) ?_
  refine va_get (D := D) (ci := 0) (v := .int (nI wd)) (C := RX0) (T := TX0) (N := 8) hx hb hts hinX0 hown hK hP 0 rfl rfl 0 (by decide) (hts (.fieldLink RX0 9 "ChecksumLab$Model" "width" "I") (by decide +kernel)) (fun _ h9 => h9) rfl dX0_takeBit_4 ?_
  refine lv_iconst (v := 1) hx hb dX0_takeBit_7 (by decide) ?_
  refine lv_isub hx hb dX0_takeBit_8 ?_
  refine lv_ishl hx hb dX0_takeBit_9 ?_
  refine lv_ixor hx hb dX0_takeBit_10 ?_
  refine vp_callSi (W.runV (As := [.int (v ^^^ (u <<< (((nI wd) - 1) &&& 31)))]) (rest := []) ⟨hx, hb, hml, hown, hts⟩ (k_X0_timesX l D tys a wd po ini xo ri ro (v ^^^ (u <<< (((nI wd) - 1) &&& 31)))) (cwV 1 hts gX0_takeBit_X0_timesX rfl rfl rfl (by decide +kernel) ⟨Nat.le_of_ble_eq_true rfl, Nat.le_of_ble_eq_true rfl⟩) ⟨cs_B.blind, va_recv hK hP (ci := 0) (q0 := 0) rfl rfl, cs_B.at hE hP hK⟩ rfl rfl hl.1 rfl (lv_room (Nat.le_of_ble_eq_true rfl)) dX0_takeBit_11 ⟨Nat.le_of_ble_eq_true rfl, Nat.le_of_ble_eq_true rfl⟩) (fun r_11 e_11 => ?_)
  subst e_11
  exact W.iret (v := cs_T wd po (v ^^^ (u <<< (((nI wd) - 1) &&& 31)))) hx hb hr (fun t ht _ => ⟨cs_T wd po (v ^^^ (u <<< (((nI wd) - 1) &&& 31))), rfl, rfl, ht⟩) (fun q h => by cases h) dX0_takeBit_14
set_option maxHeartbeats 4000000 in
set_option maxRecDepth 100000 in
theorem k_X0_divideByte (l : Launch) (D : va_G) (tys : List (ClassId × FieldType)) (a : Nat) (wd : Nat) (po ini xo : Int32) (ri ro : Bool) (v u : Int32) : cs_Mi l yX0_divideByte wsX0_divideByte ({ frames := 1, cells := 0, slots := 0, locals := 22 }) D tys [(a, .inr (0, cs_F wd po ini ri ro xo))] [.ref a, .int v, .int u] (cs_dv wd po u 8 v) := by
  refine Met.ofW (cc := cX0_divideByte) (maxL := 5) (ret := (some .int)) (by decide) rfl ?_
  intro pg e s m args below meth c s₁ B hml hv
  obtain ⟨rfl, hE, hP, hK⟩ := hv
  have hx := B.exec
  have hb := B.bytes
  have hr := B.returns
  have hts := atoms_spec (ws := wsX0_divideByte) B.pre
  have hown : s.vm.findClass RX0 = some m.cls := findClass_of_methodNamed B.named
  have hlocks := B.notSynchronized
  have hl := lv_entry ([.ref a, .int v, .int u]) (n := 5) (Nat.le_of_ble_eq_true rfl)
  rw [lg_entry_eq]
  generalize (lg_sl ([.ref a, .int v, .int u]) ++ List.replicate (5 - (lg_sl ([.ref a, .int v, .int u])).length) Slot.unset).toArray = ls at hl ⊢
  have hl : lv_has ls 5 [(0, .ref a), (1, .int v), (2, .int u)] := hl
  have hinX0 : ∀ w ∈ wsX00, w ∈ wsX0_divideByte := fun _ h => by unfold wsX0_divideByte; exact List.mem_cons_of_mem _ (List.mem_append_right _ h)
  have loop : ∀ (n : Nat) (r : Int32) (b : Int32), b = nI n - 1 → n ≤ 8 → cs_dv wd po u 8 v = cs_dv wd po u n r → ∀ ls : Array Slot, lv_has ls 5 [(0, .ref a), (2, .int u), (3, .int r), (4, .int b)] → W pg l e (headSpec wsX0_divideByte ({ frames := 1, cells := 0, slots := 0, locals := 22 })).room s m [Value.ref a, Value.int v, Value.int u].toArray below meth c s.heap [] 0 0 (MQ below (vp_Si (fun r => r = cs_dv wd po u 8 v)) [Value.ref a, Value.int v, Value.int u].toArray s 0 0 (fun _ => False)) (F0 m 6 ls []) := by
    intro n
    induction n with
    | zero =>
      intro r b eb hn h0 ls hl
      subst eb
      refine lv_iload hx hb dX0_divideByte_6 (lv_at hl 3 rfl) ?_
      refine lv_if_lt (tgt := 30) hx hb dX0_divideByte_8 (by decide) (fun c_8 => ?_) (fun c_8 => ?_)
      · refine lv_iload_n hx hb dX0_divideByte_30 rfl (lv_at hl 2 rfl) ?_
        exact W.iret (v := r) hx hb hr (fun t ht _ => ⟨r, rfl, h0.symm, ht⟩) (fun q h => by cases h) dX0_divideByte_31
      · exact absurd cs_m1 c_8
    | succ n ih =>
      intro r b eb hn h0 ls hl
      rw [nI_pred] at eb
      subst eb
      refine lv_iload hx hb dX0_divideByte_6 (lv_at hl 3 rfl) ?_
      refine lv_if_lt (tgt := 30) hx hb dX0_divideByte_8 (by decide) (fun c_8 => ?_) (fun c_8 => ?_)
      · exact absurd c_8 (nI_pos (by omega))
      · refine lv_aload_n hx hb dX0_divideByte_11 rfl (lv_at hl 0 rfl) ?_
        refine lv_iload_n hx hb dX0_divideByte_12 rfl (lv_at hl 2 rfl) ?_
        refine vp_callSi (W.runV (As := [.int r]) (rest := []) ⟨hx, hb, hml, hown, hts⟩ (k_X0_timesX l D tys a wd po ini xo ri ro r) (cwV 1 hts gX0_divideByte_X0_timesX rfl rfl rfl (by decide +kernel) ⟨Nat.le_of_ble_eq_true rfl, Nat.le_of_ble_eq_true rfl⟩) ⟨cs_B.blind, va_recv hK hP (ci := 0) (q0 := 0) rfl rfl, cs_B.at hE hP hK⟩ rfl rfl hl.1 rfl (lv_room (Nat.le_of_ble_eq_true rfl)) dX0_divideByte_13 ⟨Nat.le_of_ble_eq_true rfl, Nat.le_of_ble_eq_true rfl⟩) (fun r_13 e_13 => ?_)
        subst e_13
        refine lv_iload_n hx hb dX0_divideByte_16 rfl (lv_at hl 1 rfl) ?_
        refine lv_iload hx hb dX0_divideByte_17 (lv_at hl 3 rfl) ?_
        refine lv_iushr (v := cs_ur u (nI n)) hx hb dX0_divideByte_19 rfl ?_
        refine lv_iconst (v := 1) hx hb dX0_divideByte_20 (by decide) ?_
        refine lv_iand hx hb dX0_divideByte_21 ?_
        refine lv_ixor hx hb dX0_divideByte_22 ?_
        refine lv_istore_n (lv' := [(3, .int ((cs_T wd po r) ^^^ ((cs_ur u (nI n)) &&& 1))), (0, .ref a), (2, .int u), (4, .int (nI n))]) hx hb dX0_divideByte_23 rfl hl (by decide) rfl (fun ls hl => ?_)
        refine lv_iinc (v := (nI n) - 1) (lv' := [(4, .int ((nI n) - 1)), (3, .int ((cs_T wd po r) ^^^ ((cs_ur u (nI n)) &&& 1))), (0, .ref a), (2, .int u)]) hx hb dX0_divideByte_24 hl (k := 3) rfl (cs_dec (nI n)) (by decide) rfl (fun ls hl => ?_)
        refine lv_goto (tgt := 6) hx hb dX0_divideByte_27 (by decide) ?_
        exact ih _ _ rfl (by omega) h0 ls (lv_sub hl [2, 3, 1, 0] rfl)
  refine lv_iload_n hx hb dX0_divideByte_0 rfl (lv_at hl 1 rfl) ?_
  refine lv_istore_n (lv' := [(3, .int v), (0, .ref a), (1, .int v), (2, .int u)]) hx hb dX0_divideByte_1 rfl hl (by decide) rfl (fun ls hl => ?_)
  refine lv_bipush (v := 7) hx hb dX0_divideByte_2 (by decide) ?_
  refine lv_istore (lv' := [(4, .int 7), (3, .int v), (0, .ref a), (1, .int v), (2, .int u)]) hx hb dX0_divideByte_4 hl (by decide) rfl (fun ls hl => ?_)
  exact loop 8 v _ (by decide) (by decide) rfl ls (lv_sub hl [2, 4, 1, 0] rfl)
set_option maxHeartbeats 4000000 in
set_option maxRecDepth 100000 in
theorem k_X1_reversed (l : Launch) (D : va_G) (tys : List (ClassId × FieldType)) (v : Int32) (b0 : Nat) (hb0 : b0 ≤ 32) : cs_Mi l yX1_reversed wsX1_reversed ({ frames := 0, cells := 0, slots := 0, locals := 0 }) D tys [] [.int v, .int (nI b0)] (cs_rv v b0) := by
  refine Met.ofW (cc := cX1_reversed) (maxL := 4) (ret := (some .int)) (by decide) rfl ?_
  intro pg e s m args below meth c s₁ B hml hv
  obtain ⟨rfl, hE, hP, hK⟩ := hv
  have hx := B.exec
  have hb := B.bytes
  have hr := B.returns
  have hts := atoms_spec (ws := wsX1_reversed) B.pre
  have hown : s.vm.findClass RX1 = some m.cls := findClass_of_methodNamed B.named
  have hlocks := B.notSynchronized
  have hl := lv_entry ([.int v, .int (nI b0)]) (n := 4) (Nat.le_of_ble_eq_true rfl)
  rw [lg_entry_eq]
  generalize (lg_sl ([.int v, .int (nI b0)]) ++ List.replicate (4 - (lg_sl ([.int v, .int (nI b0)])).length) Slot.unset).toArray = ls at hl ⊢
  have hl : lv_has ls 4 [(0, .int v), (1, .int (nI b0))] := hl
  have loop : ∀ (n i : Nat), i + n = b0 → ∀ ls : Array Slot, lv_has ls 4 [(0, .int v), (1, .int (nI b0)), (2, .int (cs_rv v i)), (3, .int (nI i))] → W pg l e (headSpec wsX1_reversed ({ frames := 0, cells := 0, slots := 0, locals := 0 })).room s m [Value.int v, Value.int (nI b0)].toArray below meth c s.heap [] 0 0 (MQ below (vp_Si (fun r => r = cs_rv v b0)) [Value.int v, Value.int (nI b0)].toArray s 0 0 (fun _ => False)) (F0 m 4 ls []) := by
    intro n
    induction n with
    | zero =>
      intro i hi ls hl
      rw [Nat.add_zero] at hi
      subst hi
      refine lv_iload_n hx hb dX1_reversed_4 rfl (lv_at hl 3 rfl) ?_
      refine lv_iload_n hx hb dX1_reversed_5 rfl (lv_at hl 1 rfl) ?_
      refine lv_icmp_ge (tgt := 25) hx hb dX1_reversed_6 (by decide) (fun c_6 => ?_) (fun c_6 => ?_)
      · refine lv_iload_n hx hb dX1_reversed_25 rfl (lv_at hl 2 rfl) ?_
        exact W.iret (v := cs_rv v i) hx hb hr (fun t ht _ => ⟨cs_rv v i, rfl, rfl, ht⟩) (fun q h => by cases h) dX1_reversed_26
      · exact absurd (nI_le (Nat.le_refl _) (by omega)) c_6
    | succ n ih =>
      intro i hi ls hl
      refine lv_iload_n hx hb dX1_reversed_4 rfl (lv_at hl 3 rfl) ?_
      refine lv_iload_n hx hb dX1_reversed_5 rfl (lv_at hl 1 rfl) ?_
      refine lv_icmp_ge (tgt := 25) hx hb dX1_reversed_6 (by decide) (fun c_6 => ?_) (fun c_6 => ?_)
      · exact absurd c_6 (nI_ge (by omega) (by omega))
      · refine lv_iload_n hx hb dX1_reversed_9 rfl (lv_at hl 2 rfl) ?_
        refine lv_iconst (v := 1) hx hb dX1_reversed_10 (by decide) ?_
        refine lv_ishl hx hb dX1_reversed_11 ?_
        refine lv_iload_n hx hb dX1_reversed_12 rfl (lv_at hl 0 rfl) ?_
        refine lv_iload_n hx hb dX1_reversed_13 rfl (lv_at hl 3 rfl) ?_
        refine lv_iushr (v := cs_ur v (nI i)) hx hb dX1_reversed_14 rfl ?_
        refine lv_iconst (v := 1) hx hb dX1_reversed_15 (by decide) ?_
        refine lv_iand hx hb dX1_reversed_16 ?_
        refine lv_ior hx hb dX1_reversed_17 ?_
        refine lv_istore_n (lv' := [(2, .int (((cs_rv v i) <<< (1 &&& 31)) ||| ((cs_ur v (nI i)) &&& 1))), (0, .int v), (1, .int (nI b0)), (3, .int (nI i))]) hx hb dX1_reversed_18 rfl hl (by decide) rfl (fun ls hl => ?_)
        refine lv_iinc (v := nI (i + 1)) (lv' := [(3, .int (nI (i + 1))), (2, .int (((cs_rv v i) <<< (1 &&& 31)) ||| ((cs_ur v (nI i)) &&& 1))), (0, .int v), (1, .int (nI b0))]) hx hb dX1_reversed_19 hl (k := 3) rfl (cs_inc1 i) (by decide) rfl (fun ls hl => ?_)
        refine lv_goto (tgt := 4) hx hb dX1_reversed_22 (by decide) ?_
        exact ih (i + 1) (by omega) ls (lv_sub hl [2, 3, 1, 0] rfl)
  refine lv_iconst (v := 0) hx hb dX1_reversed_0 (by decide) ?_
  refine lv_istore_n (lv' := [(2, .int 0), (0, .int v), (1, .int (nI b0))]) hx hb dX1_reversed_1 rfl hl (by decide) rfl (fun ls hl => ?_)
  refine lv_iconst (v := 0) hx hb dX1_reversed_2 (by decide) ?_
  refine lv_istore_n (lv' := [(3, .int 0), (2, .int 0), (0, .int v), (1, .int (nI b0))]) hx hb dX1_reversed_3 rfl hl (by decide) rfl (fun ls hl => ?_)
  exact loop b0 0 (by omega) ls (lv_sub hl [2, 3, 1, 0] rfl)
set_option maxHeartbeats 4000000 in
set_option maxRecDepth 100000 in
theorem k_X0_inTakenOrder (l : Launch) (D : va_G) (tys : List (ClassId × FieldType)) (a : Nat) (wd : Nat) (po ini xo : Int32) (ri ro : Bool) (v : Int32) : cs_Mi l yX0_inTakenOrder wsX0_inTakenOrder ({ frames := 1, cells := 0, slots := 0, locals := 23 }) D tys [(a, .inr (0, cs_F wd po ini ri ro xo))] [.ref a, .int v] (cs_od ri v) := by
  refine Met.ofW (cc := cX0_inTakenOrder) (maxL := 2) (ret := (some .int)) (by decide) rfl ?_
  intro pg e s m args below meth c s₁ B hml hv
  obtain ⟨rfl, hE, hP, hK⟩ := hv
  have hx := B.exec
  have hb := B.bytes
  have hr := B.returns
  have hts := atoms_spec (ws := wsX0_inTakenOrder) B.pre
  have hown : s.vm.findClass RX0 = some m.cls := findClass_of_methodNamed B.named
  have hlocks := B.notSynchronized
  have hl := lv_entry ([.ref a, .int v]) (n := 2) (Nat.le_of_ble_eq_true rfl)
  rw [lg_entry_eq]
  generalize (lg_sl ([.ref a, .int v]) ++ List.replicate (2 - (lg_sl ([.ref a, .int v])).length) Slot.unset).toArray = ls at hl ⊢
  have hl : lv_has ls 2 [(0, .ref a), (1, .int v)] := hl
  have hinX0 : ∀ w ∈ wsX00, w ∈ wsX0_inTakenOrder := fun _ h => by unfold wsX0_inTakenOrder; exact List.mem_cons_of_mem _ (List.mem_append_right _ h)
  refine lv_aload_n hx hb dX0_inTakenOrder_0 rfl (lv_at hl 0 rfl) ?_
  refine va_get (D := D) (ci := 0) (v := .int (cs_z ri)) (C := RX0) (T := TX0) (N := 8) hx hb hts hinX0 hown hK hP 0 rfl rfl 3 (by decide) (hts (.fieldLink RX0 21 "ChecksumLab$Model" "reflectIn" "Z") (by decide +kernel)) (fun _ h9 => h9) rfl dX0_inTakenOrder_1 ?_
  refine cs_ifeq (tgt := 16) hx hb dX0_inTakenOrder_4 (by decide) (fun c_4 => ?_) (fun c_4 => ?_)
  · refine lv_iload_n hx hb dX0_inTakenOrder_16 rfl (lv_at hl 1 rfl) ?_
    exact W.iret (v := v) hx hb hr (fun t ht _ => ⟨v, rfl, (if_neg (by rw [c_4]; decide)).symm, ht⟩) (fun q h => by cases h) dX0_inTakenOrder_17
  · refine lv_iload_n hx hb dX0_inTakenOrder_7 rfl (lv_at hl 1 rfl) ?_
    refine lv_bipush (v := 8) hx hb dX0_inTakenOrder_8 (by decide) ?_
    refine cs_top (y := nI 8) rfl ?_
    refine vp_callSi (va_Run.run (va_runSN (As := [.int v, .int (nI 8)]) (rest := []) ⟨hx, hb, hml, hown, hts⟩ (k_X1_reversed l D tys v 8 (by decide)) ⟨va_cnB 2 hts gX0_inTakenOrder_X1_reversed_n51 rfl rfl rfl hE.1 (hts (.initialized RX1) (by decide +kernel)) (by decide +kernel) ⟨Nat.le_of_ble_eq_true rfl, Nat.le_of_ble_eq_true rfl⟩, hts (.static yX1_reversed) (by decide +kernel), trivial⟩ ⟨cs_B.blind, cs_B.at hE cs_none hK⟩ rfl rfl hl.1 rfl (lv_room (Nat.le_of_ble_eq_true rfl)) dX0_inTakenOrder_10 ⟨Nat.le_of_ble_eq_true rfl, Nat.le_of_ble_eq_true rfl⟩)) (fun r_10 e_10 => ?_)
    subst e_10
    refine lv_goto (tgt := 17) hx hb dX0_inTakenOrder_13 (by decide) ?_
    exact W.iret (v := cs_rv v 8) hx hb hr (fun t ht _ => ⟨cs_rv v 8, rfl, (if_pos c_4).symm, ht⟩) (fun q h => by cases h) dX0_inTakenOrder_17
set_option maxHeartbeats 4000000 in
set_option maxRecDepth 100000 in
theorem k_X0_inSumOrder (l : Launch) (D : va_G) (tys : List (ClassId × FieldType)) (a : Nat) (wd : Nat) (po ini xo : Int32) (ri ro : Bool) (hw : wd ≤ 32) (v : Int32) : cs_Mi l yX0_inSumOrder wsX0_inSumOrder ({ frames := 1, cells := 0, slots := 0, locals := 23 }) D tys [(a, .inr (0, cs_F wd po ini ri ro xo))] [.ref a, .int v] (cs_so ro wd v) := by
  refine Met.ofW (cc := cX0_inSumOrder) (maxL := 2) (ret := (some .int)) (by decide) rfl ?_
  intro pg e s m args below meth c s₁ B hml hv
  obtain ⟨rfl, hE, hP, hK⟩ := hv
  have hx := B.exec
  have hb := B.bytes
  have hr := B.returns
  have hts := atoms_spec (ws := wsX0_inSumOrder) B.pre
  have hown : s.vm.findClass RX0 = some m.cls := findClass_of_methodNamed B.named
  have hlocks := B.notSynchronized
  have hl := lv_entry ([.ref a, .int v]) (n := 2) (Nat.le_of_ble_eq_true rfl)
  rw [lg_entry_eq]
  generalize (lg_sl ([.ref a, .int v]) ++ List.replicate (2 - (lg_sl ([.ref a, .int v])).length) Slot.unset).toArray = ls at hl ⊢
  have hl : lv_has ls 2 [(0, .ref a), (1, .int v)] := hl
  have hinX0 : ∀ w ∈ wsX00, w ∈ wsX0_inSumOrder := fun _ h => by unfold wsX0_inSumOrder; exact List.mem_cons_of_mem _ (List.mem_append_right _ h)
  refine lv_aload_n hx hb dX0_inSumOrder_0 rfl (lv_at hl 0 rfl) ?_
  refine va_get (D := D) (ci := 0) (v := .int (cs_z ro)) (C := RX0) (T := TX0) (N := 8) hx hb hts hinX0 hown hK hP 0 rfl rfl 4 (by decide) (hts (.fieldLink RX0 25 "ChecksumLab$Model" "reflectOut" "Z") (by decide +kernel)) (fun _ h9 => h9) rfl dX0_inSumOrder_1 ?_
  refine cs_ifeq (tgt := 18) hx hb dX0_inSumOrder_4 (by decide) (fun c_4 => ?_) (fun c_4 => ?_)
  · refine lv_iload_n hx hb dX0_inSumOrder_18 rfl (lv_at hl 1 rfl) ?_
    exact W.iret (v := v) hx hb hr (fun t ht _ => ⟨v, rfl, (if_neg (by rw [c_4]; decide)).symm, ht⟩) (fun q h => by cases h) dX0_inSumOrder_19
  · refine lv_iload_n hx hb dX0_inSumOrder_7 rfl (lv_at hl 1 rfl) ?_
    refine lv_aload_n hx hb dX0_inSumOrder_8 rfl (lv_at hl 0 rfl) ?_
    refine va_get (D := D) (ci := 0) (v := .int (nI wd)) (C := RX0) (T := TX0) (N := 8) hx hb hts hinX0 hown hK hP 0 rfl rfl 0 (by decide) (hts (.fieldLink RX0 9 "ChecksumLab$Model" "width" "I") (by decide +kernel)) (fun _ h9 => h9) rfl dX0_inSumOrder_9 ?_
    refine vp_callSi (va_Run.run (va_runSN (As := [.int v, .int (nI wd)]) (rest := []) ⟨hx, hb, hml, hown, hts⟩ (k_X1_reversed l D tys v wd hw) ⟨va_cnB 2 hts gX0_inSumOrder_X1_reversed_n51 rfl rfl rfl hE.1 (hts (.initialized RX1) (by decide +kernel)) (by decide +kernel) ⟨Nat.le_of_ble_eq_true rfl, Nat.le_of_ble_eq_true rfl⟩, hts (.static yX1_reversed) (by decide +kernel), trivial⟩ ⟨cs_B.blind, cs_B.at hE cs_none hK⟩ rfl rfl hl.1 rfl (lv_room (Nat.le_of_ble_eq_true rfl)) dX0_inSumOrder_12 ⟨Nat.le_of_ble_eq_true rfl, Nat.le_of_ble_eq_true rfl⟩)) (fun r_12 e_12 => ?_)
    subst e_12
    refine lv_goto (tgt := 19) hx hb dX0_inSumOrder_15 (by decide) ?_
    exact W.iret (v := cs_rv v wd) hx hb hr (fun t ht _ => ⟨cs_rv v wd, rfl, (if_pos c_4).symm, ht⟩) (fun q h => by cases h) dX0_inSumOrder_19
set_option maxHeartbeats 4000000 in
set_option maxRecDepth 100000 in
theorem k_X0_sumOfRegister (l : Launch) (D : va_G) (tys : List (ClassId × FieldType)) (a : Nat) (wd : Nat) (po ini xo : Int32) (ri ro : Bool) (hw : wd ≤ 32) (v : Int32) : cs_Mi l yX0_sumOfRegister wsX0_sumOfRegister ({ frames := 2, cells := 0, slots := 0, locals := 44 }) D tys [(a, .inr (0, cs_F wd po ini ri ro xo))] [.ref a, .int v] (cs_so ro wd v ^^^ xo) := by
  refine Met.ofW (cc := cX0_sumOfRegister) (maxL := 2) (ret := (some .int)) (by decide) rfl ?_
  intro pg e s m args below meth c s₁ B hml hv
  obtain ⟨rfl, hE, hP, hK⟩ := hv
  have hx := B.exec
  have hb := B.bytes
  have hr := B.returns
  have hts := atoms_spec (ws := wsX0_sumOfRegister) B.pre
  have hown : s.vm.findClass RX0 = some m.cls := findClass_of_methodNamed B.named
  have hlocks := B.notSynchronized
  have hl := lv_entry ([.ref a, .int v]) (n := 2) (Nat.le_of_ble_eq_true rfl)
  rw [lg_entry_eq]
  generalize (lg_sl ([.ref a, .int v]) ++ List.replicate (2 - (lg_sl ([.ref a, .int v])).length) Slot.unset).toArray = ls at hl ⊢
  have hl : lv_has ls 2 [(0, .ref a), (1, .int v)] := hl
  have hinX0 : ∀ w ∈ wsX00, w ∈ wsX0_sumOfRegister := fun _ h => by unfold wsX0_sumOfRegister; exact List.mem_cons_of_mem _ (List.mem_append_right _ h)
  refine lv_aload_n hx hb dX0_sumOfRegister_0 rfl (lv_at hl 0 rfl) ?_
  refine lv_iload_n hx hb dX0_sumOfRegister_1 rfl (lv_at hl 1 rfl) ?_
  refine vp_callSi (W.runV (As := [.int v]) (rest := []) ⟨hx, hb, hml, hown, hts⟩ (k_X0_inSumOrder l D tys a wd po ini xo ri ro hw v) (cwV 1 hts gX0_sumOfRegister_X0_inSumOrder rfl rfl rfl (by decide +kernel) ⟨Nat.le_of_ble_eq_true rfl, Nat.le_of_ble_eq_true rfl⟩) ⟨cs_B.blind, va_recv hK hP (ci := 0) (q0 := 0) rfl rfl, cs_B.at hE hP hK⟩ rfl rfl hl.1 rfl (lv_room (Nat.le_of_ble_eq_true rfl)) dX0_sumOfRegister_2 ⟨Nat.le_of_ble_eq_true rfl, Nat.le_of_ble_eq_true rfl⟩) (fun r_2 e_2 => ?_)
  subst e_2
  refine lv_aload_n hx hb dX0_sumOfRegister_5 rfl (lv_at hl 0 rfl) ?_
  refine va_get (D := D) (ci := 0) (v := .int xo) (C := RX0) (T := TX0) (N := 8) hx hb hts hinX0 hown hK hP 0 rfl rfl 5 (by decide) (hts (.fieldLink RX0 28 "ChecksumLab$Model" "xorOut" "I") (by decide +kernel)) (fun _ h9 => h9) rfl dX0_sumOfRegister_6 ?_
  refine lv_ixor hx hb dX0_sumOfRegister_9 ?_
  exact W.iret (v := (cs_so ro wd v) ^^^ xo) hx hb hr (fun t ht _ => ⟨(cs_so ro wd v) ^^^ xo, rfl, rfl, ht⟩) (fun q h => by cases h) dX0_sumOfRegister_10
set_option maxHeartbeats 4000000 in
set_option maxRecDepth 100000 in
theorem k_X0_takeByte (l : Launch) (D : va_G) (tys : List (ClassId × FieldType)) (a : Nat) (wd : Nat) (po ini xo : Int32) (ri ro : Bool) (v u : Int32) : cs_Mi l yX0_takeByte wsX0_takeByte ({ frames := 2, cells := 0, slots := 0, locals := 44 }) D tys [(a, .inr (0, cs_F wd po ini ri ro xo))] [.ref a, .int v, .int u] (cs_tk wd po ri v u) := by
  refine Met.ofW (cc := cX0_takeByte) (maxL := 6) (ret := (some .int)) (by decide) rfl ?_
  intro pg e s m args below meth c s₁ B hml hv
  obtain ⟨rfl, hE, hP, hK⟩ := hv
  have hx := B.exec
  have hb := B.bytes
  have hr := B.returns
  have hts := atoms_spec (ws := wsX0_takeByte) B.pre
  have hown : s.vm.findClass RX0 = some m.cls := findClass_of_methodNamed B.named
  have hlocks := B.notSynchronized
  have hl := lv_entry ([.ref a, .int v, .int u]) (n := 6) (Nat.le_of_ble_eq_true rfl)
  rw [lg_entry_eq]
  generalize (lg_sl ([.ref a, .int v, .int u]) ++ List.replicate (6 - (lg_sl ([.ref a, .int v, .int u])).length) Slot.unset).toArray = ls at hl ⊢
  have hl : lv_has ls 6 [(0, .ref a), (1, .int v), (2, .int u)] := hl
  have hinX0 : ∀ w ∈ wsX00, w ∈ wsX0_takeByte := fun _ h => by unfold wsX0_takeByte; exact List.mem_cons_of_mem _ (List.mem_append_right _ h)
  have loop : ∀ (n : Nat) (r : Int32) (b : Int32), b = nI n - 1 → n ≤ 8 → cs_tk wd po ri v u = cs_ty wd po (cs_od ri u) n r → ∀ ls : Array Slot, lv_has ls 6 [(0, .ref a), (3, .int (cs_od ri u)), (4, .int r), (5, .int b)] → W pg l e (headSpec wsX0_takeByte ({ frames := 2, cells := 0, slots := 0, locals := 44 })).room s m [Value.ref a, Value.int v, Value.int u].toArray below meth c s.heap [] 0 0 (MQ below (vp_Si (fun r => r = cs_tk wd po ri v u)) [Value.ref a, Value.int v, Value.int u].toArray s 0 0 (fun _ => False)) (F0 m 13 ls []) := by
    intro n
    induction n with
    | zero =>
      intro r b eb hn h0 ls hl
      subst eb
      refine lv_iload hx hb dX0_takeByte_13 (lv_at hl 3 rfl) ?_
      refine lv_if_lt (tgt := 38) hx hb dX0_takeByte_15 (by decide) (fun c_15 => ?_) (fun c_15 => ?_)
      · refine lv_iload hx hb dX0_takeByte_38 (lv_at hl 2 rfl) ?_
        exact W.iret (v := r) hx hb hr (fun t ht _ => ⟨r, rfl, h0.symm, ht⟩) (fun q h => by cases h) dX0_takeByte_40
      · exact absurd cs_m1 c_15
    | succ n ih =>
      intro r b eb hn h0 ls hl
      rw [nI_pred] at eb
      subst eb
      refine lv_iload hx hb dX0_takeByte_13 (lv_at hl 3 rfl) ?_
      refine lv_if_lt (tgt := 38) hx hb dX0_takeByte_15 (by decide) (fun c_15 => ?_) (fun c_15 => ?_)
      · exact absurd c_15 (nI_pos (by omega))
      · refine lv_aload_n hx hb dX0_takeByte_18 rfl (lv_at hl 0 rfl) ?_
        refine lv_iload hx hb dX0_takeByte_19 (lv_at hl 2 rfl) ?_
        refine lv_iload_n hx hb dX0_takeByte_21 rfl (lv_at hl 1 rfl) ?_
        refine lv_iload hx hb dX0_takeByte_22 (lv_at hl 3 rfl) ?_
        refine lv_iushr (v := cs_ur (cs_od ri u) (nI n)) hx hb dX0_takeByte_24 rfl ?_
        refine lv_iconst (v := 1) hx hb dX0_takeByte_25 (by decide) ?_
        refine lv_iand hx hb dX0_takeByte_26 ?_
        refine vp_callSi (W.runV (As := [.int r, .int ((cs_ur (cs_od ri u) (nI n)) &&& 1)]) (rest := []) ⟨hx, hb, hml, hown, hts⟩ (k_X0_takeBit l D tys a wd po ini xo ri ro r ((cs_ur (cs_od ri u) (nI n)) &&& 1)) (cwV 2 hts gX0_takeByte_X0_takeBit rfl rfl rfl (by decide +kernel) ⟨Nat.le_of_ble_eq_true rfl, Nat.le_of_ble_eq_true rfl⟩) ⟨cs_B.blind, va_recv hK hP (ci := 0) (q0 := 0) rfl rfl, cs_B.at hE hP hK⟩ rfl rfl hl.1 rfl (lv_room (Nat.le_of_ble_eq_true rfl)) dX0_takeByte_27 ⟨Nat.le_of_ble_eq_true rfl, Nat.le_of_ble_eq_true rfl⟩) (fun r_27 e_27 => ?_)
        subst e_27
        refine lv_istore (lv' := [(4, .int (cs_tb wd po r ((cs_ur (cs_od ri u) (nI n)) &&& 1))), (0, .ref a), (3, .int (cs_od ri u)), (5, .int (nI n))]) hx hb dX0_takeByte_30 hl (by decide) rfl (fun ls hl => ?_)
        refine lv_iinc (v := (nI n) - 1) (lv' := [(5, .int ((nI n) - 1)), (4, .int (cs_tb wd po r ((cs_ur (cs_od ri u) (nI n)) &&& 1))), (0, .ref a), (3, .int (cs_od ri u))]) hx hb dX0_takeByte_32 hl (k := 3) rfl (cs_dec (nI n)) (by decide) rfl (fun ls hl => ?_)
        refine lv_goto (tgt := 13) hx hb dX0_takeByte_35 (by decide) ?_
        exact ih _ _ rfl (by omega) h0 ls (lv_sub hl [2, 3, 1, 0] rfl)
  refine lv_aload_n hx hb dX0_takeByte_0 rfl (lv_at hl 0 rfl) ?_
  refine lv_iload_n hx hb dX0_takeByte_1 rfl (lv_at hl 2 rfl) ?_
  refine vp_callSi (W.runV (As := [.int u]) (rest := []) ⟨hx, hb, hml, hown, hts⟩ (k_X0_inTakenOrder l D tys a wd po ini xo ri ro u) (cwV 1 hts gX0_takeByte_X0_inTakenOrder rfl rfl rfl (by decide +kernel) ⟨Nat.le_of_ble_eq_true rfl, Nat.le_of_ble_eq_true rfl⟩) ⟨cs_B.blind, va_recv hK hP (ci := 0) (q0 := 0) rfl rfl, cs_B.at hE hP hK⟩ rfl rfl hl.1 rfl (lv_room (Nat.le_of_ble_eq_true rfl)) dX0_takeByte_2 ⟨Nat.le_of_ble_eq_true rfl, Nat.le_of_ble_eq_true rfl⟩) (fun r_2 e_2 => ?_)
  subst e_2
  refine lv_istore_n (lv' := [(3, .int (cs_od ri u)), (0, .ref a), (1, .int v), (2, .int u)]) hx hb dX0_takeByte_5 rfl hl (by decide) rfl (fun ls hl => ?_)
  refine lv_iload_n hx hb dX0_takeByte_6 rfl (lv_at hl 2 rfl) ?_
  refine lv_istore (lv' := [(4, .int v), (3, .int (cs_od ri u)), (0, .ref a), (1, .int v), (2, .int u)]) hx hb dX0_takeByte_7 hl (by decide) rfl (fun ls hl => ?_)
  refine lv_bipush (v := 7) hx hb dX0_takeByte_9 (by decide) ?_
  refine lv_istore (lv' := [(5, .int 7), (4, .int v), (3, .int (cs_od ri u)), (0, .ref a), (1, .int v), (2, .int u)]) hx hb dX0_takeByte_11 hl (by decide) rfl (fun ls hl => ?_)
  exact loop 8 v _ (by decide) (by decide) rfl ls (lv_sub hl [3, 2, 1, 0] rfl)

