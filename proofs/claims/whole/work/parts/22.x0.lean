set_option maxHeartbeats 4000000 in
set_option maxRecDepth 100000 in
theorem k_X0_timesX (l : Launch) (D : va_G) (tys : List (ClassId × FieldType)) (a : Nat) (wd : Nat) (po ini xo : Int32) (ri ro : Bool) (v : Int32) : cs_Mi l yX0_timesX wsX0_timesX ({ frames := 0, cells := 0, slots := 0, locals := 0 }) D tys [(a, .inr (0, cs_F wd po ini ri ro xo))] [.ref a, .int v] (cs_T wd po v) := by
  refine Met.ofW (cc := cX0_timesX) (maxL := 3) (ret := (some .int)) (by decide) rfl ?_
  intro pg e s m args below meth c s₁ B hml hv
  obtain ⟨rfl, hE, hP, hK⟩ := hv
  have hx := B.exec
  have hb := B.bytes
  have hr := B.returns
  have hts := atoms_spec (ws := wsX0_timesX) B.pre
  have hown : s.vm.findClass RX0 = some m.cls := findClass_of_methodNamed B.named
  have hlocks := B.notSynchronized
  have hl := lv_entry ([.ref a, .int v]) (n := 3) (Nat.le_of_ble_eq_true rfl)
  rw [lg_entry_eq]
  generalize (lg_sl ([.ref a, .int v]) ++ List.replicate (3 - (lg_sl ([.ref a, .int v])).length) Slot.unset).toArray = ls at hl ⊢
  have hl : lv_has ls 3 [(0, .ref a), (1, .int v)] := hl
  have hinX0 : ∀ w ∈ wsX00, w ∈ wsX0_timesX := fun _ h => by unfold wsX0_timesX; exact List.mem_cons_of_mem _ (List.mem_append_right _ h)
  refine lv_iload_n hx hb dX0_timesX_0 rfl (lv_at hl 1 rfl) ?_
  refine lv_iconst (v := 1) hx hb dX0_timesX_1 (by decide) ?_
  refine lv_ishl hx hb dX0_timesX_2 ?_
  refine lv_aload_n hx hb dX0_timesX_3 rfl (lv_at hl 0 rfl) ?_
  refine va_get (D := D) (ci := 0) (v := .int (cs_mk wd)) (C := RX0) (T := TX0) (N := 8) hx hb hts hinX0 hown hK hP 0 rfl rfl 6 (by decide) (hts (.fieldLink RX0 31 "ChecksumLab$Model" "mask" "I") (by decide +kernel)) (fun _ h9 => h9) rfl dX0_timesX_4 ?_
  refine lv_iand hx hb dX0_timesX_7 ?_
  refine lv_istore_n (lv' := [(2, .int ((v <<< (1 &&& 31)) &&& (cs_mk wd))), (0, .ref a), (1, .int v)]) hx hb dX0_timesX_8 rfl hl (by decide) rfl (fun ls hl => ?_)
  refine lv_iload_n hx hb dX0_timesX_9 rfl (lv_at hl 2 rfl) ?_
  refine lv_aload_n hx hb dX0_timesX_10 rfl (lv_at hl 1 rfl) ?_
  refine va_get (D := D) (ci := 0) (v := .int (cs_hb wd)) (C := RX0) (T := TX0) (N := 8) hx hb hts hinX0 hown hK hP 0 rfl rfl 7 (by decide) (hts (.fieldLink RX0 34 "ChecksumLab$Model" "highest" "I") (by decide +kernel)) (fun _ h9 => h9) rfl dX0_timesX_11 ?_
  refine lv_iand hx hb dX0_timesX_14 ?_
  refine lv_if_eq (tgt := 27) hx hb dX0_timesX_15 (by decide) (fun c_15 => ?_) (fun c_15 => ?_)
  · refine lv_iload_n hx hb dX0_timesX_27 rfl (lv_at hl 0 rfl) ?_
    exact W.iret (v := (v <<< (1 &&& 31)) &&& (cs_mk wd)) hx hb hr (fun t ht _ => ⟨(v <<< (1 &&& 31)) &&& (cs_mk wd), rfl, (cs_T_lo c_15).symm, ht⟩) (fun q h => by cases h) dX0_timesX_28
  · refine lv_iload_n hx hb dX0_timesX_18 rfl (lv_at hl 0 rfl) ?_
    refine lv_aload_n hx hb dX0_timesX_19 rfl (lv_at hl 1 rfl) ?_
    refine va_get (D := D) (ci := 0) (v := .int po) (C := RX0) (T := TX0) (N := 8) hx hb hts hinX0 hown hK hP 0 rfl rfl 1 (by decide) (hts (.fieldLink RX0 15 "ChecksumLab$Model" "poly" "I") (by decide +kernel)) (fun _ h9 => h9) rfl dX0_timesX_20 ?_
    refine lv_ixor hx hb dX0_timesX_23 ?_
    refine lv_goto (tgt := 28) hx hb dX0_timesX_24 (by decide) ?_
    exact W.iret (v := ((v <<< (1 &&& 31)) &&& (cs_mk wd)) ^^^ po) hx hb hr (fun t ht _ => ⟨((v <<< (1 &&& 31)) &&& (cs_mk wd)) ^^^ po, rfl, (cs_T_hi c_15).symm, ht⟩) (fun q h => by cases h) dX0_timesX_28
set_option maxHeartbeats 4000000 in
set_option maxRecDepth 100000 in
theorem k_X0_product (l : Launch) (D : va_G) (tys : List (ClassId × FieldType)) (a : Nat) (wd : Nat) (po ini xo : Int32) (ri ro : Bool) (hw : wd ≤ 32) (v u : Int32) : cs_Mi l yX0_product wsX0_product ({ frames := 1, cells := 0, slots := 0, locals := 22 }) D tys [(a, .inr (0, cs_F wd po ini ri ro xo))] [.ref a, .int v, .int u] (cs_mul wd po v u wd) := by
  refine Met.ofW (cc := cX0_product) (maxL := 5) (ret := (some .int)) (by decide) rfl ?_
  intro pg e s m args below meth c s₁ B hml hv
  obtain ⟨rfl, hE, hP, hK⟩ := hv
  have hx := B.exec
  have hb := B.bytes
  have hr := B.returns
  have hts := atoms_spec (ws := wsX0_product) B.pre
  have hown : s.vm.findClass RX0 = some m.cls := findClass_of_methodNamed B.named
  have hlocks := B.notSynchronized
  have hl := lv_entry ([.ref a, .int v, .int u]) (n := 5) (Nat.le_of_ble_eq_true rfl)
  rw [lg_entry_eq]
  generalize (lg_sl ([.ref a, .int v, .int u]) ++ List.replicate (5 - (lg_sl ([.ref a, .int v, .int u])).length) Slot.unset).toArray = ls at hl ⊢
  have hl : lv_has ls 5 [(0, .ref a), (1, .int v), (2, .int u)] := hl
  have hinX0 : ∀ w ∈ wsX00, w ∈ wsX0_product := fun _ h => by unfold wsX0_product; exact List.mem_cons_of_mem _ (List.mem_append_right _ h)
  have loop : ∀ (n : Nat) (r b : Int32), b = nI n - 1 → n ≤ 32 → cs_mul wd po v u wd = cs_pd wd po v u n r → ∀ ls : Array Slot, lv_has ls 5 [(0, .ref a), (1, .int v), (2, .int u), (3, .int r), (4, .int b)] → W pg l e (headSpec wsX0_product ({ frames := 1, cells := 0, slots := 0, locals := 22 })).room s m [Value.ref a, Value.int v, Value.int u].toArray below meth c s.heap [] 0 0 (MQ below (vp_Si (fun r => r = cs_mul wd po v u wd)) [Value.ref a, Value.int v, Value.int u].toArray s 0 0 (fun _ => False)) (F0 m 10 ls []) := by
    intro n
    induction n with
    | zero =>
      intro r b eb hn hV ls hl
      subst eb
      refine lv_iload hx hb dX0_product_10 (lv_at hl 4 rfl) ?_
      refine lv_if_lt (tgt := 41) hx hb dX0_product_12 (by decide) (fun c_12 => ?_) (fun c_12 => ?_)
      · refine lv_iload_n hx hb dX0_product_41 rfl (lv_at hl 3 rfl) ?_
        exact W.iret (v := r) hx hb hr (fun t ht _ => ⟨r, rfl, hV.symm, ht⟩) (fun q h => by cases h) dX0_product_42
      · exact absurd cs_m1 c_12
    | succ n ih =>
      intro r b eb hn hV ls hl
      rw [nI_pred] at eb
      subst eb
      refine lv_iload hx hb dX0_product_10 (lv_at hl 4 rfl) ?_
      refine lv_if_lt (tgt := 41) hx hb dX0_product_12 (by decide) (fun c_12 => ?_) (fun c_12 => ?_)
      · exact absurd c_12 (nI_pos (by omega))
      · refine lv_aload_n hx hb dX0_product_15 rfl (lv_at hl 0 rfl) ?_
        refine lv_iload_n hx hb dX0_product_16 rfl (lv_at hl 3 rfl) ?_
        refine vp_callSi (W.runV (As := [.int r]) (rest := []) ⟨hx, hb, hml, hown, hts⟩ (k_X0_timesX l D tys a wd po ini xo ri ro r) (cwV 1 hts gX0_product_X0_timesX rfl rfl rfl (by decide +kernel) ⟨Nat.le_of_ble_eq_true rfl, Nat.le_of_ble_eq_true rfl⟩) ⟨cs_B.blind, va_recv hK hP (ci := 0) (q0 := 0) rfl rfl, cs_B.at hE hP hK⟩ rfl rfl hl.1 rfl (lv_room (Nat.le_of_ble_eq_true rfl)) dX0_product_17 ⟨Nat.le_of_ble_eq_true rfl, Nat.le_of_ble_eq_true rfl⟩) (fun r_17 e_17 => ?_)
        subst e_17
        refine lv_istore_n (lv' := [(3, .int (cs_T wd po r)), (0, .ref a), (1, .int v), (2, .int u), (4, .int (nI n))]) hx hb dX0_product_20 rfl hl (by decide) rfl (fun ls hl => ?_)
        refine lv_iload_n hx hb dX0_product_21 rfl (lv_at hl 3 rfl) ?_
        refine lv_iload hx hb dX0_product_22 (lv_at hl 4 rfl) ?_
        refine lv_iushr (v := cs_ur u (nI n)) hx hb dX0_product_24 rfl ?_
        refine lv_iconst (v := 1) hx hb dX0_product_25 (by decide) ?_
        refine lv_iand hx hb dX0_product_26 ?_
        refine lv_iconst (v := 1) hx hb dX0_product_27 (by decide) ?_
        refine lv_icmp_ne (tgt := 35) hx hb dX0_product_28 (by decide) (fun c_28 => ?_) (fun c_28 => ?_)
        · refine lv_iinc (v := (nI n) - 1) (lv' := [(4, .int ((nI n) - 1)), (3, .int (cs_T wd po r)), (0, .ref a), (1, .int v), (2, .int u)]) hx hb dX0_product_35 hl (k := 4) rfl (cs_dec (nI n)) (by decide) rfl (fun ls hl => ?_)
          refine lv_goto (tgt := 10) hx hb dX0_product_38 (by decide) ?_
          exact ih _ _ rfl (by omega) (hV.trans (cs_pd_0 c_28)) ls (lv_sub hl [2, 3, 4, 1, 0] rfl)
        · refine lv_iload_n hx hb dX0_product_31 rfl (lv_at hl 0 rfl) ?_
          refine lv_iload_n hx hb dX0_product_32 rfl (lv_at hl 2 rfl) ?_
          refine lv_ixor hx hb dX0_product_33 ?_
          refine lv_istore_n (lv' := [(3, .int ((cs_T wd po r) ^^^ v)), (0, .ref a), (1, .int v), (2, .int u), (4, .int (nI n))]) hx hb dX0_product_34 rfl hl (by decide) rfl (fun ls hl => ?_)
          refine lv_iinc (v := (nI n) - 1) (lv' := [(4, .int ((nI n) - 1)), (3, .int ((cs_T wd po r) ^^^ v)), (0, .ref a), (1, .int v), (2, .int u)]) hx hb dX0_product_35 hl (k := 4) rfl (cs_dec (nI n)) (by decide) rfl (fun ls hl => ?_)
          refine lv_goto (tgt := 10) hx hb dX0_product_38 (by decide) ?_
          exact ih _ _ rfl (by omega) (hV.trans (cs_pd_1 c_28)) ls (lv_sub hl [2, 3, 4, 1, 0] rfl)
  refine lv_iconst (v := 0) hx hb dX0_product_0 (by decide) ?_
  refine lv_istore_n (lv' := [(3, .int 0), (0, .ref a), (1, .int v), (2, .int u)]) hx hb dX0_product_1 rfl hl (by decide) rfl (fun ls hl => ?_)
  refine lv_aload_n hx hb dX0_product_2 rfl (lv_at hl 1 rfl) ?_
  refine va_get (D := D) (ci := 0) (v := .int (nI wd)) (C := RX0) (T := TX0) (N := 8) hx hb hts hinX0 hown hK hP 0 rfl rfl 0 (by decide) (hts (.fieldLink RX0 9 "ChecksumLab$Model" "width" "I") (by decide +kernel)) (fun _ h9 => h9) rfl dX0_product_3 ?_
  refine lv_iconst (v := 1) hx hb dX0_product_6 (by decide) ?_
  refine lv_isub hx hb dX0_product_7 ?_
  refine lv_istore (lv' := [(4, .int ((nI wd) - 1)), (3, .int 0), (0, .ref a), (1, .int v), (2, .int u)]) hx hb dX0_product_8 hl (by decide) rfl (fun ls hl => ?_)
  exact loop wd 0 _ rfl hw rfl ls (lv_sub hl [2, 3, 4, 1, 0] rfl)
