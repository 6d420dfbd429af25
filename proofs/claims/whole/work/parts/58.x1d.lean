set_option maxHeartbeats 4000000 in
set_option maxRecDepth 100000 in
theorem k_X1_joined (l : Launch) (hlf : l.stackTraces = false) (D : va_G) (S : cs_St) (ad : Nat → Nat) (cy : Nat → ClassId) (hS : cs_ok S) (v a b n : Int32) : cs_Xi l yX1_joined wsX1_joined ({ frames := 7, cells := 4, slots := 24, locals := 103 }) D (cs_tys cy) (cs_L S ad cy) [.ref (ad 0), .int v, .int a, .int b, .int n] (fun rr => cs_kJoi S v a b n = 0 ∧ rr = cs_vJoi S v a b n) (cs_E (cs_kJoi S v a b n) cs_IOB cs_IAE "") 4 24 := by
  refine vx_ofW (cc := cX1_joined) (maxL := 9) (ret := (some .int)) (by decide) rfl ?_
  intro pg e s m args below meth c s₁ B hml hout hv
  obtain ⟨rfl, hE, hz, hP, hK⟩ := hv
  have hx := B.exec
  have hb := B.bytes
  have hr := B.returns
  have hts := atoms_spec (ws := wsX1_joined) B.pre
  have hown : s.vm.findClass RX1 = some m.cls := findClass_of_methodNamed B.named
  have hlocks := B.notSynchronized
  have hl := lv_entry ([.ref (ad 0), .int v, .int a, .int b, .int n]) (n := 9) (Nat.le_of_ble_eq_true rfl)
  rw [lg_entry_eq]
  generalize (lg_sl ([.ref (ad 0), .int v, .int a, .int b, .int n]) ++ List.replicate (9 - (lg_sl ([.ref (ad 0), .int v, .int a, .int b, .int n])).length) Slot.unset).toArray = ls at hl ⊢
  have hl : lv_has ls 9 [(0, .ref (ad 0)), (1, .int v), (2, .int a), (3, .int b), (4, .int n)] := hl
  have hinX1 : ∀ w ∈ wsX10, w ∈ wsX1_joined := fun _ h => by unfold wsX1_joined; exact List.mem_cons_of_mem _ (List.mem_append_left _ (List.mem_append_left _ (List.mem_append_right _ (h))))
  have hinX0 : ∀ w ∈ wsX00, w ∈ wsX1_joined := fun _ h => by unfold wsX1_joined; exact List.mem_cons_of_mem _ (List.mem_append_left _ (List.mem_append_left _ (List.mem_append_left _ (List.mem_append_right _ (h)))))
  have h6 := hS.1
  refine lv_aload_n hx hb dX1_joined_0 rfl (lv_at hl 0 rfl) ?_
  refine lv_iload_n hx hb dX1_joined_1 rfl (lv_at hl 1 rfl) ?_
  refine cs_xcallr (vx_runV (As := [.int v]) (rest := []) ⟨hx, hb, hml, hown, hts⟩ (k_X1_findModel l hlf D S ad cy hS v) (cwV 1 hts gX1_joined_X1_findModel rfl rfl rfl (by decide +kernel) ⟨(Nat.le_of_ble_eq_true rfl), (Nat.le_of_ble_eq_true rfl)⟩) ⟨cs_Bx.blind, va_recv hK hP (ci := 1) (q0 := 0) rfl rfl, cs_Bx.at hE hz hP hK⟩ rfl rfl hl.1 rfl (lv_room (Nat.le_of_ble_eq_true rfl)) dX1_joined_2 ⟨(Nat.le_of_ble_eq_true rfl), (Nat.le_of_ble_eq_true rfl)⟩) (fun E ce q9 H1 h1 h2 h3 h4 h5 h6 => cs_xout hout hlocks (fun E h => Or.inl ⟨(by unfold cs_kJoi; simp [cs_k1, cs_k2, cs_nS, cs_pl, cs_bRow, cs_bSer, cs_bDef, h.2]), h.1⟩) (Nat.le_of_ble_eq_true rfl) (Nat.le_of_ble_eq_true rfl) E ce q9 H1 h1 h2 h3 h4 h5 h6) (fun okM => ?_)
  obtain ⟨k, hk, rfl⟩ := cs_mod_of hS okM
  have hk31 : k < 2 ^ 31 := by omega
  have hkc : cs_c (nI k) = k := cs_cI hk31
  obtain ⟨hw1, hw2⟩ := hS.2.1 k hk
  refine cs_topv (y := .ref (ad (8 + k))) (by rw [hkc]) ?_
  refine lv_astore (lv' := [(5, .ref (ad (8 + k))), (0, .ref (ad 0)), (1, .int (nI k)), (2, .int a), (3, .int b), (4, .int n)]) hx hb dX1_joined_5 hl (by decide) rfl (fun ls hl => ?_)
  refine lv_aload hx hb dX1_joined_7 (lv_at hl 0 rfl) ?_
  refine va_get (D := D) (ci := 0) (v := .int (nI (cs_w S k))) (C := RX0) (T := TX0) (N := 8) hx hb hts hinX0 hown hK hP (8 + k) (cs_Lm hk) rfl 0 (by decide) (hts (.fieldLink RX1 62 "ChecksumLab$Model" "width" "I") (by decide +kernel)) (fun _ h9 => h9) rfl dX1_joined_9 ?_
  refine lv_iload_n hx hb dX1_joined_12 rfl (lv_at hl 3 rfl) ?_
  refine cs_xcallv (vx_runS (As := [.int (nI (cs_w S k)), .int a]) (rest := []) ⟨hx, hb, hml, hown, hts⟩ (k_X1_requireNumber l hlf D S ad cy (cs_w S k) hw2 a) (va_cwS 2 hts gX1_joined_X1_requireNumber rfl rfl rfl (by decide +kernel) ⟨(Nat.le_of_ble_eq_true rfl), (Nat.le_of_ble_eq_true rfl)⟩) ⟨cs_Bx.blind, cs_Bx.at hE hz cs_none hK⟩ rfl rfl hl.1 rfl (lv_room (Nat.le_of_ble_eq_true rfl)) dX1_joined_13 ⟨(Nat.le_of_ble_eq_true rfl), (Nat.le_of_ble_eq_true rfl)⟩) (fun E ce q9 H1 h1 h2 h3 h4 h5 h6 => cs_xout hout hlocks (fun E h => Or.inr (Or.inl ⟨(by unfold cs_kJoi; simp [cs_k1, cs_k2, cs_nS, cs_pl, cs_bRow, cs_bSer, cs_bDef, okM, hkc, h.2]), h.1⟩)) (Nat.le_of_ble_eq_true rfl) (Nat.le_of_ble_eq_true rfl) E ce q9 H1 h1 h2 h3 h4 h5 h6) (fun ok1 => ?_)
  refine lv_aload hx hb dX1_joined_16 (lv_at hl 0 rfl) ?_
  refine va_get (D := D) (ci := 0) (v := .int (nI (cs_w S k))) (C := RX0) (T := TX0) (N := 8) hx hb hts hinX0 hown hK hP (8 + k) (cs_Lm hk) rfl 0 (by decide) (hts (.fieldLink RX1 62 "ChecksumLab$Model" "width" "I") (by decide +kernel)) (fun _ h9 => h9) rfl dX1_joined_18 ?_
  refine lv_iload_n hx hb dX1_joined_21 rfl (lv_at hl 4 rfl) ?_
  refine cs_xcallv (vx_runS (As := [.int (nI (cs_w S k)), .int b]) (rest := []) ⟨hx, hb, hml, hown, hts⟩ (k_X1_requireNumber l hlf D S ad cy (cs_w S k) hw2 b) (va_cwS 2 hts gX1_joined_X1_requireNumber rfl rfl rfl (by decide +kernel) ⟨(Nat.le_of_ble_eq_true rfl), (Nat.le_of_ble_eq_true rfl)⟩) ⟨cs_Bx.blind, cs_Bx.at hE hz cs_none hK⟩ rfl rfl hl.1 rfl (lv_room (Nat.le_of_ble_eq_true rfl)) dX1_joined_22 ⟨(Nat.le_of_ble_eq_true rfl), (Nat.le_of_ble_eq_true rfl)⟩) (fun E ce q9 H1 h1 h2 h3 h4 h5 h6 => cs_xout hout hlocks (fun E h => Or.inr (Or.inl ⟨(by unfold cs_kJoi; simp [cs_k1, cs_k2, cs_nS, cs_pl, cs_bRow, cs_bSer, cs_bDef, okM, hkc, ok1, h.2]), h.1⟩)) (Nat.le_of_ble_eq_true rfl) (Nat.le_of_ble_eq_true rfl) E ce q9 H1 h1 h2 h3 h4 h5 h6) (fun ok2 => ?_)
  refine lv_iload hx hb dX1_joined_25 (lv_at hl 5 rfl) ?_
  refine cs_xcallv (vx_runS (As := [.int n]) (rest := []) ⟨hx, hb, hml, hown, hts⟩ (k_X1_requireLength l hlf D S ad cy n) (va_cwS 1 hts gX1_joined_X1_requireLength rfl rfl rfl (by decide +kernel) ⟨(Nat.le_of_ble_eq_true rfl), (Nat.le_of_ble_eq_true rfl)⟩) ⟨cs_Bx.blind, cs_Bx.at hE hz cs_none hK⟩ rfl rfl hl.1 rfl (lv_room (Nat.le_of_ble_eq_true rfl)) dX1_joined_27 ⟨(Nat.le_of_ble_eq_true rfl), (Nat.le_of_ble_eq_true rfl)⟩) (fun E ce q9 H1 h1 h2 h3 h4 h5 h6 => cs_xout hout hlocks (fun E h => Or.inr (Or.inl ⟨(by unfold cs_kJoi; simp [cs_k1, cs_k2, cs_nS, cs_pl, cs_bRow, cs_bSer, cs_bDef, okM, hkc, ok1, ok2, h.2]), h.1⟩)) (Nat.le_of_ble_eq_true rfl) (Nat.le_of_ble_eq_true rfl) E ce q9 H1 h1 h2 h3 h4 h5 h6) (fun ok3 => ?_)
  refine lv_aload hx hb dX1_joined_30 (lv_at hl 0 rfl) ?_
  refine lv_iload_n hx hb dX1_joined_32 rfl (lv_at hl 3 rfl) ?_
  refine vp_callSi (W.runV (As := [.int a]) (rest := []) ⟨hx, hb, hml, hown, hts⟩ (k_X0_registerOfSum l D (cs_tys cy) (ad (8 + k)) (cs_w S k) (cs_p S k) (cs_i S k) (cs_x S k) (cs_ri S k) (cs_ro S k) hw2 a) (cwV 1 hts gX1_joined_X0_registerOfSum rfl rfl rfl (by decide +kernel) ⟨Nat.le_of_ble_eq_true rfl, Nat.le_of_ble_eq_true rfl⟩) ⟨cs_B.blind, va_recv hK (cs_one hP (cs_Lm hk)) (ci := 0) (q0 := 0) rfl rfl, cs_B.at hE (cs_one hP (cs_Lm hk)) hK⟩ rfl rfl hl.1 rfl (lv_room (Nat.le_of_ble_eq_true rfl)) dX1_joined_33 ⟨Nat.le_of_ble_eq_true rfl, Nat.le_of_ble_eq_true rfl⟩) (fun r_33 e_33 => ?_)
  subst e_33
  refine lv_aload hx hb dX1_joined_36 (lv_at hl 0 rfl) ?_
  refine va_get (D := D) (ci := 0) (v := .int (cs_i S k)) (C := RX0) (T := TX0) (N := 8) hx hb hts hinX0 hown hK hP (8 + k) (cs_Lm hk) rfl 2 (by decide) (hts (.fieldLink RX1 51 "ChecksumLab$Model" "init" "I") (by decide +kernel)) (fun _ h9 => h9) rfl dX1_joined_38 ?_
  refine lv_ixor hx hb dX1_joined_41 ?_
  refine lv_istore (lv' := [(6, .int ((cs_so (cs_ro S k) (cs_w S k) (a ^^^ cs_x S k)) ^^^ (cs_i S k))), (5, .ref (ad (8 + k))), (0, .ref (ad 0)), (1, .int (nI k)), (2, .int a), (3, .int b), (4, .int n)]) hx hb dX1_joined_42 hl (by decide) rfl (fun ls hl => ?_)
  refine lv_aload hx hb dX1_joined_44 (lv_at hl 1 rfl) ?_
  refine lv_ldc2 (v := 8) hx hb hown (hts (.constantLong RX1 115 8) (by decide +kernel)) dX1_joined_46 ?_
  refine lv_iload hx hb dX1_joined_49 (lv_at hl 6 rfl) ?_
  refine lv_i2l (v := n.toInt64) hx hb dX1_joined_51 rfl ?_
  refine lv_lmul hx hb dX1_joined_52 ?_
  refine vp_callSi (W.runV (As := [.long (8 * n.toInt64)]) (rest := []) ⟨hx, hb, hml, hown, hts⟩ (k_X0_powerOfX l D (cs_tys cy) (ad (8 + k)) (cs_w S k) (cs_p S k) (cs_i S k) (cs_x S k) (cs_ri S k) (cs_ro S k) hw2 (8 * n.toInt64)) (cwV 1 hts gX1_joined_X0_powerOfX rfl rfl rfl (by decide +kernel) ⟨Nat.le_of_ble_eq_true rfl, Nat.le_of_ble_eq_true rfl⟩) ⟨cs_B.blind, va_recv hK (cs_one hP (cs_Lm hk)) (ci := 0) (q0 := 0) rfl rfl, cs_B.at hE (cs_one hP (cs_Lm hk)) hK⟩ rfl rfl hl.1 rfl (lv_room (Nat.le_of_ble_eq_true rfl)) dX1_joined_53 ⟨Nat.le_of_ble_eq_true rfl, Nat.le_of_ble_eq_true rfl⟩) (fun r_53 e_53 => ?_)
  subst e_53
  refine lv_istore (lv' := [(7, .int (cs_pow (cs_w S k) (cs_p S k) (8 * n.toInt64))), (6, .int ((cs_so (cs_ro S k) (cs_w S k) (a ^^^ cs_x S k)) ^^^ (cs_i S k))), (5, .ref (ad (8 + k))), (0, .ref (ad 0)), (1, .int (nI k)), (2, .int a), (3, .int b), (4, .int n)]) hx hb dX1_joined_56 hl (by decide) rfl (fun ls hl => ?_)
  refine lv_aload hx hb dX1_joined_58 (lv_at hl 2 rfl) ?_
  refine lv_iload_n hx hb dX1_joined_60 rfl (lv_at hl 6 rfl) ?_
  refine vp_callSi (W.runV (As := [.int b]) (rest := []) ⟨hx, hb, hml, hown, hts⟩ (k_X0_registerOfSum l D (cs_tys cy) (ad (8 + k)) (cs_w S k) (cs_p S k) (cs_i S k) (cs_x S k) (cs_ri S k) (cs_ro S k) hw2 b) (cwV 1 hts gX1_joined_X0_registerOfSum rfl rfl rfl (by decide +kernel) ⟨Nat.le_of_ble_eq_true rfl, Nat.le_of_ble_eq_true rfl⟩) ⟨cs_B.blind, va_recv hK (cs_one hP (cs_Lm hk)) (ci := 0) (q0 := 0) rfl rfl, cs_B.at hE (cs_one hP (cs_Lm hk)) hK⟩ rfl rfl hl.1 rfl (lv_room (Nat.le_of_ble_eq_true rfl)) dX1_joined_61 ⟨Nat.le_of_ble_eq_true rfl, Nat.le_of_ble_eq_true rfl⟩) (fun r_61 e_61 => ?_)
  subst e_61
  refine lv_aload hx hb dX1_joined_64 (lv_at hl 2 rfl) ?_
  refine lv_iload hx hb dX1_joined_66 (lv_at hl 1 rfl) ?_
  refine lv_iload hx hb dX1_joined_68 (lv_at hl 0 rfl) ?_
  refine vp_callSi (W.runV (As := [.int ((cs_so (cs_ro S k) (cs_w S k) (a ^^^ cs_x S k)) ^^^ (cs_i S k)), .int (cs_pow (cs_w S k) (cs_p S k) (8 * n.toInt64))]) (rest := [.int (cs_so (cs_ro S k) (cs_w S k) (b ^^^ cs_x S k))]) ⟨hx, hb, hml, hown, hts⟩ (k_X0_product l D (cs_tys cy) (ad (8 + k)) (cs_w S k) (cs_p S k) (cs_i S k) (cs_x S k) (cs_ri S k) (cs_ro S k) hw2 ((cs_so (cs_ro S k) (cs_w S k) (a ^^^ cs_x S k)) ^^^ (cs_i S k)) (cs_pow (cs_w S k) (cs_p S k) (8 * n.toInt64))) (cwV 2 hts gX1_joined_X0_product rfl rfl rfl (by decide +kernel) ⟨Nat.le_of_ble_eq_true rfl, Nat.le_of_ble_eq_true rfl⟩) ⟨cs_B.blind, va_recv hK (cs_one hP (cs_Lm hk)) (ci := 0) (q0 := 0) rfl rfl, cs_B.at hE (cs_one hP (cs_Lm hk)) hK⟩ rfl rfl hl.1 rfl (lv_room (Nat.le_of_ble_eq_true rfl)) dX1_joined_70 ⟨Nat.le_of_ble_eq_true rfl, Nat.le_of_ble_eq_true rfl⟩) (fun r_70 e_70 => ?_)
  subst e_70
  refine lv_ixor hx hb dX1_joined_73 ?_
  refine lv_istore (lv' := [(8, .int ((cs_so (cs_ro S k) (cs_w S k) (b ^^^ cs_x S k)) ^^^ (cs_mul (cs_w S k) (cs_p S k) ((cs_so (cs_ro S k) (cs_w S k) (a ^^^ cs_x S k)) ^^^ (cs_i S k)) (cs_pow (cs_w S k) (cs_p S k) (8 * n.toInt64)) (cs_w S k)))), (7, .int (cs_pow (cs_w S k) (cs_p S k) (8 * n.toInt64))), (6, .int ((cs_so (cs_ro S k) (cs_w S k) (a ^^^ cs_x S k)) ^^^ (cs_i S k))), (5, .ref (ad (8 + k))), (0, .ref (ad 0)), (1, .int (nI k)), (2, .int a), (3, .int b), (4, .int n)]) hx hb dX1_joined_74 hl (by decide) rfl (fun ls hl => ?_)
  refine lv_aload hx hb dX1_joined_76 (lv_at hl 3 rfl) ?_
  refine lv_iload hx hb dX1_joined_78 (lv_at hl 0 rfl) ?_
  refine vp_callSi (W.runV (As := [.int ((cs_so (cs_ro S k) (cs_w S k) (b ^^^ cs_x S k)) ^^^ (cs_mul (cs_w S k) (cs_p S k) ((cs_so (cs_ro S k) (cs_w S k) (a ^^^ cs_x S k)) ^^^ (cs_i S k)) (cs_pow (cs_w S k) (cs_p S k) (8 * n.toInt64)) (cs_w S k)))]) (rest := []) ⟨hx, hb, hml, hown, hts⟩ (k_X0_sumOfRegister l D (cs_tys cy) (ad (8 + k)) (cs_w S k) (cs_p S k) (cs_i S k) (cs_x S k) (cs_ri S k) (cs_ro S k) hw2 ((cs_so (cs_ro S k) (cs_w S k) (b ^^^ cs_x S k)) ^^^ (cs_mul (cs_w S k) (cs_p S k) ((cs_so (cs_ro S k) (cs_w S k) (a ^^^ cs_x S k)) ^^^ (cs_i S k)) (cs_pow (cs_w S k) (cs_p S k) (8 * n.toInt64)) (cs_w S k)))) (cwV 1 hts gX1_joined_X0_sumOfRegister rfl rfl rfl (by decide +kernel) ⟨Nat.le_of_ble_eq_true rfl, Nat.le_of_ble_eq_true rfl⟩) ⟨cs_B.blind, va_recv hK (cs_one hP (cs_Lm hk)) (ci := 0) (q0 := 0) rfl rfl, cs_B.at hE (cs_one hP (cs_Lm hk)) hK⟩ rfl rfl hl.1 rfl (lv_room (Nat.le_of_ble_eq_true rfl)) dX1_joined_80 ⟨Nat.le_of_ble_eq_true rfl, Nat.le_of_ble_eq_true rfl⟩) (fun r_80 e_80 => ?_)
  subst e_80
  refine W.widen (k := 4) (n := 24) (Nat.le_of_ble_eq_true rfl) (Nat.le_of_ble_eq_true rfl) ?_
  exact vx_ret (W.iret (v := cs_so (cs_ro S k) (cs_w S k) ((cs_so (cs_ro S k) (cs_w S k) (b ^^^ cs_x S k)) ^^^ (cs_mul (cs_w S k) (cs_p S k) ((cs_so (cs_ro S k) (cs_w S k) (a ^^^ cs_x S k)) ^^^ (cs_i S k)) (cs_pow (cs_w S k) (cs_p S k) (8 * n.toInt64)) (cs_w S k))) ^^^ cs_x S k) hx hb hr (fun t ht _ => ⟨cs_so (cs_ro S k) (cs_w S k) ((cs_so (cs_ro S k) (cs_w S k) (b ^^^ cs_x S k)) ^^^ (cs_mul (cs_w S k) (cs_p S k) ((cs_so (cs_ro S k) (cs_w S k) (a ^^^ cs_x S k)) ^^^ (cs_i S k)) (cs_pow (cs_w S k) (cs_p S k) (8 * n.toInt64)) (cs_w S k))) ^^^ cs_x S k, rfl, ⟨by unfold cs_kJoi; simp [cs_k1, cs_k2, cs_nS, cs_pl, cs_bRow, cs_bSer, cs_bDef, okM, hkc, ok1, ok2, ok3], by unfold cs_vJoi cs_sum cs_reg; rw [hkc]⟩, ht⟩) (fun q h => by cases h) dX1_joined_83)
set_option maxHeartbeats 4000000 in
set_option maxRecDepth 100000 in
theorem k_X1_patched (l : Launch) (hlf : l.stackTraces = false) (D : va_G) (S : cs_St) (ad : Nat → Nat) (cy : Nat → ClassId) (hS : cs_ok S) (hp : cs_okp S) (v a n d : Int32) : cs_Xi l yX1_patched wsX1_patched ({ frames := 7, cells := 4, slots := 24, locals := 103 }) D (cs_tys cy) (cs_L S ad cy) [.ref (ad 0), .int v, .int a, .int n, .int d] (fun rr => cs_kPat S v a n d = 0 ∧ rr = cs_vPat S v a n d) (cs_E (cs_kPat S v a n d) cs_IOB cs_IAE "") 4 24 := by
  refine vx_ofW (cc := cX1_patched) (maxL := 9) (ret := (some .int)) (by decide) rfl ?_
  intro pg e s m args below meth c s₁ B hml hout hv
  obtain ⟨rfl, hE, hz, hP, hK⟩ := hv
  have hx := B.exec
  have hb := B.bytes
  have hr := B.returns
  have hts := atoms_spec (ws := wsX1_patched) B.pre
  have hown : s.vm.findClass RX1 = some m.cls := findClass_of_methodNamed B.named
  have hlocks := B.notSynchronized
  have hl := lv_entry ([.ref (ad 0), .int v, .int a, .int n, .int d]) (n := 9) (Nat.le_of_ble_eq_true rfl)
  rw [lg_entry_eq]
  generalize (lg_sl ([.ref (ad 0), .int v, .int a, .int n, .int d]) ++ List.replicate (9 - (lg_sl ([.ref (ad 0), .int v, .int a, .int n, .int d])).length) Slot.unset).toArray = ls at hl ⊢
  have hl : lv_has ls 9 [(0, .ref (ad 0)), (1, .int v), (2, .int a), (3, .int n), (4, .int d)] := hl
  have hinX1 : ∀ w ∈ wsX10, w ∈ wsX1_patched := fun _ h => by unfold wsX1_patched; exact List.mem_cons_of_mem _ (List.mem_append_left _ (List.mem_append_left _ (List.mem_append_right _ (h))))
  have hinX0 : ∀ w ∈ wsX00, w ∈ wsX1_patched := fun _ h => by unfold wsX1_patched; exact List.mem_cons_of_mem _ (List.mem_append_left _ (List.mem_append_left _ (List.mem_append_left _ (List.mem_append_right _ (h)))))
  have h6 := hS.1
  refine lv_aload_n hx hb dX1_patched_0 rfl (lv_at hl 0 rfl) ?_
  refine lv_iload_n hx hb dX1_patched_1 rfl (lv_at hl 1 rfl) ?_
  refine cs_xcallr (vx_runV (As := [.int v]) (rest := []) ⟨hx, hb, hml, hown, hts⟩ (k_X1_findModel l hlf D S ad cy hS v) (cwV 1 hts gX1_patched_X1_findModel rfl rfl rfl (by decide +kernel) ⟨(Nat.le_of_ble_eq_true rfl), (Nat.le_of_ble_eq_true rfl)⟩) ⟨cs_Bx.blind, va_recv hK hP (ci := 1) (q0 := 0) rfl rfl, cs_Bx.at hE hz hP hK⟩ rfl rfl hl.1 rfl (lv_room (Nat.le_of_ble_eq_true rfl)) dX1_patched_2 ⟨(Nat.le_of_ble_eq_true rfl), (Nat.le_of_ble_eq_true rfl)⟩) (fun E ce q9 H1 h1 h2 h3 h4 h5 h6 => cs_xout hout hlocks (fun E h => Or.inl ⟨(by unfold cs_kPat; simp [cs_k1, cs_k2, cs_nS, cs_pl, cs_bRow, cs_bSer, cs_bDef, h.2]), h.1⟩) (Nat.le_of_ble_eq_true rfl) (Nat.le_of_ble_eq_true rfl) E ce q9 H1 h1 h2 h3 h4 h5 h6) (fun okM => ?_)
  obtain ⟨k, hk, rfl⟩ := cs_mod_of hS okM
  have hk31 : k < 2 ^ 31 := by omega
  have hkc : cs_c (nI k) = k := cs_cI hk31
  obtain ⟨hw1, hw2⟩ := hS.2.1 k hk
  refine cs_topv (y := .ref (ad (8 + k))) (by rw [hkc]) ?_
  refine lv_astore (lv' := [(5, .ref (ad (8 + k))), (0, .ref (ad 0)), (1, .int (nI k)), (2, .int a), (3, .int n), (4, .int d)]) hx hb dX1_patched_5 hl (by decide) rfl (fun ls hl => ?_)
  refine lv_aload hx hb dX1_patched_7 (lv_at hl 0 rfl) ?_
  refine va_get (D := D) (ci := 0) (v := .int (nI (cs_w S k))) (C := RX0) (T := TX0) (N := 8) hx hb hts hinX0 hown hK hP (8 + k) (cs_Lm hk) rfl 0 (by decide) (hts (.fieldLink RX1 62 "ChecksumLab$Model" "width" "I") (by decide +kernel)) (fun _ h9 => h9) rfl dX1_patched_9 ?_
  refine lv_iload_n hx hb dX1_patched_12 rfl (lv_at hl 3 rfl) ?_
  refine cs_xcallv (vx_runS (As := [.int (nI (cs_w S k)), .int a]) (rest := []) ⟨hx, hb, hml, hown, hts⟩ (k_X1_requireNumber l hlf D S ad cy (cs_w S k) hw2 a) (va_cwS 2 hts gX1_patched_X1_requireNumber rfl rfl rfl (by decide +kernel) ⟨(Nat.le_of_ble_eq_true rfl), (Nat.le_of_ble_eq_true rfl)⟩) ⟨cs_Bx.blind, cs_Bx.at hE hz cs_none hK⟩ rfl rfl hl.1 rfl (lv_room (Nat.le_of_ble_eq_true rfl)) dX1_patched_13 ⟨(Nat.le_of_ble_eq_true rfl), (Nat.le_of_ble_eq_true rfl)⟩) (fun E ce q9 H1 h1 h2 h3 h4 h5 h6 => cs_xout hout hlocks (fun E h => Or.inr (Or.inl ⟨(by unfold cs_kPat; simp [cs_k1, cs_k2, cs_nS, cs_pl, cs_bRow, cs_bSer, cs_bDef, okM, hkc, h.2]), h.1⟩)) (Nat.le_of_ble_eq_true rfl) (Nat.le_of_ble_eq_true rfl) E ce q9 H1 h1 h2 h3 h4 h5 h6) (fun ok1 => ?_)
  refine lv_iload_n hx hb dX1_patched_16 rfl (lv_at hl 4 rfl) ?_
  refine cs_xcallv (vx_runS (As := [.int n]) (rest := []) ⟨hx, hb, hml, hown, hts⟩ (k_X1_requireLength l hlf D S ad cy n) (va_cwS 1 hts gX1_patched_X1_requireLength rfl rfl rfl (by decide +kernel) ⟨(Nat.le_of_ble_eq_true rfl), (Nat.le_of_ble_eq_true rfl)⟩) ⟨cs_Bx.blind, cs_Bx.at hE hz cs_none hK⟩ rfl rfl hl.1 rfl (lv_room (Nat.le_of_ble_eq_true rfl)) dX1_patched_17 ⟨(Nat.le_of_ble_eq_true rfl), (Nat.le_of_ble_eq_true rfl)⟩) (fun E ce q9 H1 h1 h2 h3 h4 h5 h6 => cs_xout hout hlocks (fun E h => Or.inr (Or.inl ⟨(by unfold cs_kPat; simp [cs_k1, cs_k2, cs_nS, cs_pl, cs_bRow, cs_bSer, cs_bDef, okM, hkc, ok1, h.2]), h.1⟩)) (Nat.le_of_ble_eq_true rfl) (Nat.le_of_ble_eq_true rfl) E ce q9 H1 h1 h2 h3 h4 h5 h6) (fun ok2 => ?_)
  refine lv_iload hx hb dX1_patched_20 (lv_at hl 5 rfl) ?_
  refine cs_xcallv (vx_runS (As := [.int d]) (rest := []) ⟨hx, hb, hml, hown, hts⟩ (k_X1_requireByte l hlf D S ad cy d) (va_cwS 1 hts gX1_patched_X1_requireByte rfl rfl rfl (by decide +kernel) ⟨(Nat.le_of_ble_eq_true rfl), (Nat.le_of_ble_eq_true rfl)⟩) ⟨cs_Bx.blind, cs_Bx.at hE hz cs_none hK⟩ rfl rfl hl.1 rfl (lv_room (Nat.le_of_ble_eq_true rfl)) dX1_patched_22 ⟨(Nat.le_of_ble_eq_true rfl), (Nat.le_of_ble_eq_true rfl)⟩) (fun E ce q9 H1 h1 h2 h3 h4 h5 h6 => cs_xout hout hlocks (fun E h => Or.inr (Or.inl ⟨(by unfold cs_kPat; simp [cs_k1, cs_k2, cs_nS, cs_pl, cs_bRow, cs_bSer, cs_bDef, okM, hkc, ok1, ok2, h.2]), h.1⟩)) (Nat.le_of_ble_eq_true rfl) (Nat.le_of_ble_eq_true rfl) E ce q9 H1 h1 h2 h3 h4 h5 h6) (fun ok3 => ?_)
  refine lv_aload hx hb dX1_patched_25 (lv_at hl 0 rfl) ?_
  refine lv_iconst (v := 0) hx hb dX1_patched_27 (by decide) ?_
  refine lv_aload hx hb dX1_patched_28 (lv_at hl 0 rfl) ?_
  refine lv_iload hx hb dX1_patched_30 (lv_at hl 5 rfl) ?_
  refine vp_callSi (W.runV (As := [.int d]) (rest := [.int 0, .ref (ad (8 + k))]) ⟨hx, hb, hml, hown, hts⟩ (k_X0_inTakenOrder l D (cs_tys cy) (ad (8 + k)) (cs_w S k) (cs_p S k) (cs_i S k) (cs_x S k) (cs_ri S k) (cs_ro S k) d) (cwV 1 hts gX1_patched_X0_inTakenOrder rfl rfl rfl (by decide +kernel) ⟨Nat.le_of_ble_eq_true rfl, Nat.le_of_ble_eq_true rfl⟩) ⟨cs_B.blind, va_recv hK (cs_one hP (cs_Lm hk)) (ci := 0) (q0 := 0) rfl rfl, cs_B.at hE (cs_one hP (cs_Lm hk)) hK⟩ rfl rfl hl.1 rfl (lv_room (Nat.le_of_ble_eq_true rfl)) dX1_patched_32 ⟨Nat.le_of_ble_eq_true rfl, Nat.le_of_ble_eq_true rfl⟩) (fun r_32 e_32 => ?_)
  subst e_32
  refine vp_callSi (W.runV (As := [.int 0, .int (cs_od (cs_ri S k) d)]) (rest := []) ⟨hx, hb, hml, hown, hts⟩ (k_X0_divideByte l D (cs_tys cy) (ad (8 + k)) (cs_w S k) (cs_p S k) (cs_i S k) (cs_x S k) (cs_ri S k) (cs_ro S k) 0 (cs_od (cs_ri S k) d)) (cwV 2 hts gX1_patched_X0_divideByte rfl rfl rfl (by decide +kernel) ⟨Nat.le_of_ble_eq_true rfl, Nat.le_of_ble_eq_true rfl⟩) ⟨cs_B.blind, va_recv hK (cs_one hP (cs_Lm hk)) (ci := 0) (q0 := 0) rfl rfl, cs_B.at hE (cs_one hP (cs_Lm hk)) hK⟩ rfl rfl hl.1 rfl (lv_room (Nat.le_of_ble_eq_true rfl)) dX1_patched_35 ⟨Nat.le_of_ble_eq_true rfl, Nat.le_of_ble_eq_true rfl⟩) (fun r_35 e_35 => ?_)
  subst e_35
  refine lv_istore (lv' := [(6, .int (cs_dv (cs_w S k) (cs_p S k) (cs_od (cs_ri S k) d) 8 0)), (5, .ref (ad (8 + k))), (0, .ref (ad 0)), (1, .int (nI k)), (2, .int a), (3, .int n), (4, .int d)]) hx hb dX1_patched_38 hl (by decide) rfl (fun ls hl => ?_)
  refine lv_aload hx hb dX1_patched_40 (lv_at hl 1 rfl) ?_
  refine lv_ldc2 (v := 8) hx hb hown (hts (.constantLong RX1 115 8) (by decide +kernel)) dX1_patched_42 ?_
  refine lv_iload_n hx hb dX1_patched_45 rfl (lv_at hl 5 rfl) ?_
  refine lv_i2l (v := n.toInt64) hx hb dX1_patched_46 rfl ?_
  refine lv_lmul hx hb dX1_patched_47 ?_
  refine lv_aload hx hb dX1_patched_48 (lv_at hl 1 rfl) ?_
  refine va_get (D := D) (ci := 0) (v := .int (nI (cs_w S k))) (C := RX0) (T := TX0) (N := 8) hx hb hts hinX0 hown hK hP (8 + k) (cs_Lm hk) rfl 0 (by decide) (hts (.fieldLink RX1 62 "ChecksumLab$Model" "width" "I") (by decide +kernel)) (fun _ h9 => h9) rfl dX1_patched_50 ?_
  refine lv_i2l (v := (nI (cs_w S k)).toInt64) hx hb dX1_patched_53 rfl ?_
  refine lv_ladd hx hb dX1_patched_54 ?_
  refine vp_callSi (W.runV (As := [.long ((8 * n.toInt64) + ((nI (cs_w S k)).toInt64))]) (rest := []) ⟨hx, hb, hml, hown, hts⟩ (k_X0_powerOfX l D (cs_tys cy) (ad (8 + k)) (cs_w S k) (cs_p S k) (cs_i S k) (cs_x S k) (cs_ri S k) (cs_ro S k) hw2 ((8 * n.toInt64) + ((nI (cs_w S k)).toInt64))) (cwV 1 hts gX1_patched_X0_powerOfX rfl rfl rfl (by decide +kernel) ⟨Nat.le_of_ble_eq_true rfl, Nat.le_of_ble_eq_true rfl⟩) ⟨cs_B.blind, va_recv hK (cs_one hP (cs_Lm hk)) (ci := 0) (q0 := 0) rfl rfl, cs_B.at hE (cs_one hP (cs_Lm hk)) hK⟩ rfl rfl hl.1 rfl (lv_room (Nat.le_of_ble_eq_true rfl)) dX1_patched_55 ⟨Nat.le_of_ble_eq_true rfl, Nat.le_of_ble_eq_true rfl⟩) (fun r_55 e_55 => ?_)
  subst e_55
  refine lv_istore (lv' := [(7, .int (cs_pow (cs_w S k) (cs_p S k) ((8 * n.toInt64) + ((nI (cs_w S k)).toInt64)))), (6, .int (cs_dv (cs_w S k) (cs_p S k) (cs_od (cs_ri S k) d) 8 0)), (5, .ref (ad (8 + k))), (0, .ref (ad 0)), (1, .int (nI k)), (2, .int a), (3, .int n), (4, .int d)]) hx hb dX1_patched_58 hl (by decide) rfl (fun ls hl => ?_)
  refine lv_aload hx hb dX1_patched_60 (lv_at hl 2 rfl) ?_
  refine lv_iload_n hx hb dX1_patched_62 rfl (lv_at hl 5 rfl) ?_
  refine vp_callSi (W.runV (As := [.int a]) (rest := []) ⟨hx, hb, hml, hown, hts⟩ (k_X0_registerOfSum l D (cs_tys cy) (ad (8 + k)) (cs_w S k) (cs_p S k) (cs_i S k) (cs_x S k) (cs_ri S k) (cs_ro S k) hw2 a) (cwV 1 hts gX1_patched_X0_registerOfSum rfl rfl rfl (by decide +kernel) ⟨Nat.le_of_ble_eq_true rfl, Nat.le_of_ble_eq_true rfl⟩) ⟨cs_B.blind, va_recv hK (cs_one hP (cs_Lm hk)) (ci := 0) (q0 := 0) rfl rfl, cs_B.at hE (cs_one hP (cs_Lm hk)) hK⟩ rfl rfl hl.1 rfl (lv_room (Nat.le_of_ble_eq_true rfl)) dX1_patched_63 ⟨Nat.le_of_ble_eq_true rfl, Nat.le_of_ble_eq_true rfl⟩) (fun r_63 e_63 => ?_)
  subst e_63
  refine lv_aload hx hb dX1_patched_66 (lv_at hl 2 rfl) ?_
  refine lv_iload hx hb dX1_patched_68 (lv_at hl 1 rfl) ?_
  refine lv_iload hx hb dX1_patched_70 (lv_at hl 0 rfl) ?_
  refine vp_callSi (W.runV (As := [.int (cs_dv (cs_w S k) (cs_p S k) (cs_od (cs_ri S k) d) 8 0), .int (cs_pow (cs_w S k) (cs_p S k) ((8 * n.toInt64) + ((nI (cs_w S k)).toInt64)))]) (rest := [.int (cs_so (cs_ro S k) (cs_w S k) (a ^^^ cs_x S k))]) ⟨hx, hb, hml, hown, hts⟩ (k_X0_product l D (cs_tys cy) (ad (8 + k)) (cs_w S k) (cs_p S k) (cs_i S k) (cs_x S k) (cs_ri S k) (cs_ro S k) hw2 (cs_dv (cs_w S k) (cs_p S k) (cs_od (cs_ri S k) d) 8 0) (cs_pow (cs_w S k) (cs_p S k) ((8 * n.toInt64) + ((nI (cs_w S k)).toInt64)))) (cwV 2 hts gX1_patched_X0_product rfl rfl rfl (by decide +kernel) ⟨Nat.le_of_ble_eq_true rfl, Nat.le_of_ble_eq_true rfl⟩) ⟨cs_B.blind, va_recv hK (cs_one hP (cs_Lm hk)) (ci := 0) (q0 := 0) rfl rfl, cs_B.at hE (cs_one hP (cs_Lm hk)) hK⟩ rfl rfl hl.1 rfl (lv_room (Nat.le_of_ble_eq_true rfl)) dX1_patched_72 ⟨Nat.le_of_ble_eq_true rfl, Nat.le_of_ble_eq_true rfl⟩) (fun r_72 e_72 => ?_)
  subst e_72
  refine lv_ixor hx hb dX1_patched_75 ?_
  refine lv_istore (lv' := [(8, .int ((cs_so (cs_ro S k) (cs_w S k) (a ^^^ cs_x S k)) ^^^ (cs_mul (cs_w S k) (cs_p S k) (cs_dv (cs_w S k) (cs_p S k) (cs_od (cs_ri S k) d) 8 0) (cs_pow (cs_w S k) (cs_p S k) ((8 * n.toInt64) + ((nI (cs_w S k)).toInt64))) (cs_w S k)))), (7, .int (cs_pow (cs_w S k) (cs_p S k) ((8 * n.toInt64) + ((nI (cs_w S k)).toInt64)))), (6, .int (cs_dv (cs_w S k) (cs_p S k) (cs_od (cs_ri S k) d) 8 0)), (5, .ref (ad (8 + k))), (0, .ref (ad 0)), (1, .int (nI k)), (2, .int a), (3, .int n), (4, .int d)]) hx hb dX1_patched_76 hl (by decide) rfl (fun ls hl => ?_)
  refine lv_aload hx hb dX1_patched_78 (lv_at hl 3 rfl) ?_
  refine lv_iload hx hb dX1_patched_80 (lv_at hl 0 rfl) ?_
  refine vp_callSi (W.runV (As := [.int ((cs_so (cs_ro S k) (cs_w S k) (a ^^^ cs_x S k)) ^^^ (cs_mul (cs_w S k) (cs_p S k) (cs_dv (cs_w S k) (cs_p S k) (cs_od (cs_ri S k) d) 8 0) (cs_pow (cs_w S k) (cs_p S k) ((8 * n.toInt64) + ((nI (cs_w S k)).toInt64))) (cs_w S k)))]) (rest := []) ⟨hx, hb, hml, hown, hts⟩ (k_X0_sumOfRegister l D (cs_tys cy) (ad (8 + k)) (cs_w S k) (cs_p S k) (cs_i S k) (cs_x S k) (cs_ri S k) (cs_ro S k) hw2 ((cs_so (cs_ro S k) (cs_w S k) (a ^^^ cs_x S k)) ^^^ (cs_mul (cs_w S k) (cs_p S k) (cs_dv (cs_w S k) (cs_p S k) (cs_od (cs_ri S k) d) 8 0) (cs_pow (cs_w S k) (cs_p S k) ((8 * n.toInt64) + ((nI (cs_w S k)).toInt64))) (cs_w S k)))) (cwV 1 hts gX1_patched_X0_sumOfRegister rfl rfl rfl (by decide +kernel) ⟨Nat.le_of_ble_eq_true rfl, Nat.le_of_ble_eq_true rfl⟩) ⟨cs_B.blind, va_recv hK (cs_one hP (cs_Lm hk)) (ci := 0) (q0 := 0) rfl rfl, cs_B.at hE (cs_one hP (cs_Lm hk)) hK⟩ rfl rfl hl.1 rfl (lv_room (Nat.le_of_ble_eq_true rfl)) dX1_patched_82 ⟨Nat.le_of_ble_eq_true rfl, Nat.le_of_ble_eq_true rfl⟩) (fun r_82 e_82 => ?_)
  subst e_82
  refine W.widen (k := 4) (n := 24) (Nat.le_of_ble_eq_true rfl) (Nat.le_of_ble_eq_true rfl) ?_
  exact vx_ret (W.iret (v := cs_so (cs_ro S k) (cs_w S k) ((cs_so (cs_ro S k) (cs_w S k) (a ^^^ cs_x S k)) ^^^ (cs_mul (cs_w S k) (cs_p S k) (cs_dv (cs_w S k) (cs_p S k) (cs_od (cs_ri S k) d) 8 0) (cs_pow (cs_w S k) (cs_p S k) ((8 * n.toInt64) + ((nI (cs_w S k)).toInt64))) (cs_w S k))) ^^^ cs_x S k) hx hb hr (fun t ht _ => ⟨cs_so (cs_ro S k) (cs_w S k) ((cs_so (cs_ro S k) (cs_w S k) (a ^^^ cs_x S k)) ^^^ (cs_mul (cs_w S k) (cs_p S k) (cs_dv (cs_w S k) (cs_p S k) (cs_od (cs_ri S k) d) 8 0) (cs_pow (cs_w S k) (cs_p S k) ((8 * n.toInt64) + ((nI (cs_w S k)).toInt64))) (cs_w S k))) ^^^ cs_x S k, rfl, ⟨by unfold cs_kPat; simp [cs_k1, cs_k2, cs_nS, cs_pl, cs_bRow, cs_bSer, cs_bDef, okM, hkc, ok1, ok2, ok3], by unfold cs_vPat cs_sum cs_reg; rw [hkc, cs_patE hw1 hw2 (cs_bwpow hw1 hw2 (cs_bwnb (p := 0) hw1 hw2 (hp k hk)) (8 * n.toInt64 + (nI (cs_w S k)).toInt64))]⟩, ht⟩) (fun q h => by cases h) dX1_patched_85)
set_option maxHeartbeats 4000000 in
set_option maxRecDepth 100000 in
theorem k_X1_wrongBit (l : Launch) (hlf : l.stackTraces = false) (D : va_G) (S : cs_St) (ad : Nat → Nat) (cy : Nat → ClassId) (hS : cs_ok S) (v d n : Int32) : cs_Xi l yX1_wrongBit wsX1_wrongBit ({ frames := 7, cells := 3, slots := 18, locals := 103 }) D (cs_tys cy) (cs_L S ad cy) [.ref (ad 0), .int v, .int d, .int n] (fun rr => cs_kWro S v d n = 0 ∧ rr = cs_vWro S v d n) (cs_E (cs_kWro S v d n) cs_IOB cs_IAE "") 3 18 := by
  refine vx_ofW (cc := cX1_wrongBit) (maxL := 9) (ret := (some .int)) (by decide) rfl ?_
  intro pg e s m args below meth c s₁ B hml hout hv
  obtain ⟨rfl, hE, hz, hP, hK⟩ := hv
  have hx := B.exec
  have hb := B.bytes
  have hr := B.returns
  have hts := atoms_spec (ws := wsX1_wrongBit) B.pre
  have hown : s.vm.findClass RX1 = some m.cls := findClass_of_methodNamed B.named
  have hlocks := B.notSynchronized
  have hl := lv_entry ([.ref (ad 0), .int v, .int d, .int n]) (n := 9) (Nat.le_of_ble_eq_true rfl)
  rw [lg_entry_eq]
  generalize (lg_sl ([.ref (ad 0), .int v, .int d, .int n]) ++ List.replicate (9 - (lg_sl ([.ref (ad 0), .int v, .int d, .int n])).length) Slot.unset).toArray = ls at hl ⊢
  have hl : lv_has ls 9 [(0, .ref (ad 0)), (1, .int v), (2, .int d), (3, .int n)] := hl
  have hinX1 : ∀ w ∈ wsX10, w ∈ wsX1_wrongBit := fun _ h => by unfold wsX1_wrongBit; exact List.mem_cons_of_mem _ (List.mem_append_left _ (List.mem_append_left _ (List.mem_append_right _ (h))))
  have hinX0 : ∀ w ∈ wsX00, w ∈ wsX1_wrongBit := fun _ h => by unfold wsX1_wrongBit; exact List.mem_cons_of_mem _ (List.mem_append_left _ (List.mem_append_left _ (List.mem_append_left _ (List.mem_append_right _ (h)))))
  have h6 := hS.1
  refine lv_aload_n hx hb dX1_wrongBit_0 rfl (lv_at hl 0 rfl) ?_
  refine lv_iload_n hx hb dX1_wrongBit_1 rfl (lv_at hl 1 rfl) ?_
  refine cs_xcallr (vx_runV (As := [.int v]) (rest := []) ⟨hx, hb, hml, hown, hts⟩ (k_X1_findModel l hlf D S ad cy hS v) (cwV 1 hts gX1_wrongBit_X1_findModel rfl rfl rfl (by decide +kernel) ⟨(Nat.le_of_ble_eq_true rfl), (Nat.le_of_ble_eq_true rfl)⟩) ⟨cs_Bx.blind, va_recv hK hP (ci := 1) (q0 := 0) rfl rfl, cs_Bx.at hE hz hP hK⟩ rfl rfl hl.1 rfl (lv_room (Nat.le_of_ble_eq_true rfl)) dX1_wrongBit_2 ⟨(Nat.le_of_ble_eq_true rfl), (Nat.le_of_ble_eq_true rfl)⟩) (fun E ce q9 H1 h1 h2 h3 h4 h5 h6 => cs_xout hout hlocks (fun E h => Or.inl ⟨(by unfold cs_kWro; simp [cs_k1, cs_k2, cs_nS, cs_pl, cs_bRow, cs_bSer, cs_bDef, h.2]), h.1⟩) (Nat.le_of_ble_eq_true rfl) (Nat.le_of_ble_eq_true rfl) E ce q9 H1 h1 h2 h3 h4 h5 h6) (fun okM => ?_)
  obtain ⟨k, hk, rfl⟩ := cs_mod_of hS okM
  have hk31 : k < 2 ^ 31 := by omega
  have hkc : cs_c (nI k) = k := cs_cI hk31
  obtain ⟨hw1, hw2⟩ := hS.2.1 k hk
  refine cs_topv (y := .ref (ad (8 + k))) (by rw [hkc]) ?_
  refine lv_astore (lv' := [(4, .ref (ad (8 + k))), (0, .ref (ad 0)), (1, .int (nI k)), (2, .int d), (3, .int n)]) hx hb dX1_wrongBit_5 hl (by decide) rfl (fun ls hl => ?_)
  refine lv_aload hx hb dX1_wrongBit_7 (lv_at hl 0 rfl) ?_
  refine va_get (D := D) (ci := 0) (v := .int (nI (cs_w S k))) (C := RX0) (T := TX0) (N := 8) hx hb hts hinX0 hown hK hP (8 + k) (cs_Lm hk) rfl 0 (by decide) (hts (.fieldLink RX1 62 "ChecksumLab$Model" "width" "I") (by decide +kernel)) (fun _ h9 => h9) rfl dX1_wrongBit_9 ?_
  refine lv_iload_n hx hb dX1_wrongBit_12 rfl (lv_at hl 3 rfl) ?_
  refine cs_xcallv (vx_runS (As := [.int (nI (cs_w S k)), .int d]) (rest := []) ⟨hx, hb, hml, hown, hts⟩ (k_X1_requireNumber l hlf D S ad cy (cs_w S k) hw2 d) (va_cwS 2 hts gX1_wrongBit_X1_requireNumber rfl rfl rfl (by decide +kernel) ⟨(Nat.le_of_ble_eq_true rfl), (Nat.le_of_ble_eq_true rfl)⟩) ⟨cs_Bx.blind, cs_Bx.at hE hz cs_none hK⟩ rfl rfl hl.1 rfl (lv_room (Nat.le_of_ble_eq_true rfl)) dX1_wrongBit_13 ⟨(Nat.le_of_ble_eq_true rfl), (Nat.le_of_ble_eq_true rfl)⟩) (fun E ce q9 H1 h1 h2 h3 h4 h5 h6 => cs_xout hout hlocks (fun E h => Or.inr (Or.inl ⟨(by unfold cs_kWro; simp [cs_k1, cs_k2, cs_nS, cs_pl, cs_bRow, cs_bSer, cs_bDef, okM, hkc, h.2]), h.1⟩)) (Nat.le_of_ble_eq_true rfl) (Nat.le_of_ble_eq_true rfl) E ce q9 H1 h1 h2 h3 h4 h5 h6) (fun ok1 => ?_)
  refine lv_iload_n hx hb dX1_wrongBit_16 rfl (lv_at hl 4 rfl) ?_
  refine lv_if_lt (tgt := 27) hx hb dX1_wrongBit_17 (by decide) (fun c_17 => ?_) (fun c_17 => ?_)
  · have h0 : cs_in n 0 4000 = false := cs_inF1 (Int32.not_le.mpr c_17)
    exact cs_throw (cls := cs_IAE) (text := "length is out of range") hx hb hlf hown hts (by decide +kernel) cs_at1 hE hE.2.1.1 cs_ot1 (fun _ h => by unfold wsX1_wrongBit; exact List.mem_cons_of_mem _ (List.mem_append_left _ (List.mem_append_right _ (h)))) (by decide +kernel) (by decide +kernel) (hE.2.2 (95, "length is out of range") (by decide +kernel)) hz (hl.1.trans hml.symm) dX1_wrongBit_27 dX1_wrongBit_30 dX1_wrongBit_31 dX1_wrongBit_33 dX1_wrongBit_36 hout (Nat.le_of_ble_eq_true rfl) (Nat.le_of_ble_eq_true rfl) (Nat.le_of_ble_eq_true rfl) (Nat.le_of_ble_eq_true rfl) hlocks (Or.inr (Or.inl ⟨(by unfold cs_kWro; simp [cs_k1, cs_k2, cs_nS, cs_pl, cs_bRow, cs_bSer, cs_bDef, okM, hkc, ok1, h0]), rfl⟩)) (Nat.le_of_ble_eq_true rfl) (Nat.le_of_ble_eq_true rfl)
  · refine lv_iload_n hx hb dX1_wrongBit_20 rfl (lv_at hl 4 rfl) ?_
    refine lv_sipush (v := 4000) hx hb dX1_wrongBit_21 (by decide) ?_
    refine lv_icmp_le (tgt := 37) hx hb dX1_wrongBit_24 (by decide) (fun c_24 => ?_) (fun c_24 => ?_)
    · have okA : cs_in n 0 4000 = true := cs_inT (Int32.not_lt.mp c_17) c_24
      obtain ⟨N9, hN, rfl⟩ := cs_in_of (n := 4000) (by decide) okA
      have hV : cs_vWro S (nI k) d (nI N9) = cs_wb (cs_w S k) (cs_p S k) (cs_so (cs_ro S k) (cs_w S k) d) (8 * N9) (-1) (cs_p S k) := by unfold cs_vWro; rw [hkc, cs_cI (by omega)]
      refine lv_aload hx hb dX1_wrongBit_37 (lv_at hl 0 rfl) ?_
      refine lv_iload_n hx hb dX1_wrongBit_39 rfl (lv_at hl 3 rfl) ?_
      refine vp_callSi (W.runV (As := [.int d]) (rest := []) ⟨hx, hb, hml, hown, hts⟩ (k_X0_inSumOrder l D (cs_tys cy) (ad (8 + k)) (cs_w S k) (cs_p S k) (cs_i S k) (cs_x S k) (cs_ri S k) (cs_ro S k) hw2 d) (cwV 1 hts gX1_wrongBit_X0_inSumOrder rfl rfl rfl (by decide +kernel) ⟨Nat.le_of_ble_eq_true rfl, Nat.le_of_ble_eq_true rfl⟩) ⟨cs_B.blind, va_recv hK (cs_one hP (cs_Lm hk)) (ci := 0) (q0 := 0) rfl rfl, cs_B.at hE (cs_one hP (cs_Lm hk)) hK⟩ rfl rfl hl.1 rfl (lv_room (Nat.le_of_ble_eq_true rfl)) dX1_wrongBit_40 ⟨Nat.le_of_ble_eq_true rfl, Nat.le_of_ble_eq_true rfl⟩) (fun r_40 e_40 => ?_)
      subst e_40
      refine lv_istore (lv' := [(5, .int (cs_so (cs_ro S k) (cs_w S k) d)), (4, .ref (ad (8 + k))), (0, .ref (ad 0)), (1, .int (nI k)), (2, .int d), (3, .int (nI N9))]) hx hb dX1_wrongBit_43 hl (by decide) rfl (fun ls hl => ?_)
      refine lv_aload hx hb dX1_wrongBit_45 (lv_at hl 1 rfl) ?_
      refine va_get (D := D) (ci := 0) (v := .int (cs_p S k)) (C := RX0) (T := TX0) (N := 8) hx hb hts hinX0 hown hK hP (8 + k) (cs_Lm hk) rfl 1 (by decide) (hts (.fieldLink RX1 123 "ChecksumLab$Model" "poly" "I") (by decide +kernel)) (fun _ h9 => h9) rfl dX1_wrongBit_47 ?_
      refine lv_istore (lv' := [(6, .int (cs_p S k)), (5, .int (cs_so (cs_ro S k) (cs_w S k) d)), (4, .ref (ad (8 + k))), (0, .ref (ad 0)), (1, .int (nI k)), (2, .int d), (3, .int (nI N9))]) hx hb dX1_wrongBit_50 hl (by decide) rfl (fun ls hl => ?_)
      refine lv_iconst (v := (-1)) hx hb dX1_wrongBit_52 (by decide) ?_
      refine lv_istore (lv' := [(7, .int (-1)), (6, .int (cs_p S k)), (5, .int (cs_so (cs_ro S k) (cs_w S k) d)), (4, .ref (ad (8 + k))), (0, .ref (ad 0)), (1, .int (nI k)), (2, .int d), (3, .int (nI N9))]) hx hb dX1_wrongBit_53 hl (by decide) rfl (fun ls hl => ?_)
      refine lv_bipush (v := 8) hx hb dX1_wrongBit_55 (by decide) ?_
      refine lv_iload_n hx hb dX1_wrongBit_57 rfl (lv_at hl 7 rfl) ?_
      refine lv_imul hx hb dX1_wrongBit_58 ?_
      refine lv_iconst (v := 1) hx hb dX1_wrongBit_59 (by decide) ?_
      refine lv_isub hx hb dX1_wrongBit_60 ?_
      refine cs_top (y := nI (8 * N9) - 1) (by rw [← pk_mul]; rfl) ?_
      refine lv_istore (lv' := [(8, .int (nI (8 * N9) - 1)), (7, .int (-1)), (6, .int (cs_p S k)), (5, .int (cs_so (cs_ro S k) (cs_w S k) d)), (4, .ref (ad (8 + k))), (0, .ref (ad 0)), (1, .int (nI k)), (2, .int d), (3, .int (nI N9))]) hx hb dX1_wrongBit_61 hl (by decide) rfl (fun ls hl => ?_)
      have loop : ∀ (n : Nat) (f t b : Int32), b = nI n - 1 → n ≤ 32000 → cs_vWro S (nI k) d (nI N9) = cs_wb (cs_w S k) (cs_p S k) (cs_so (cs_ro S k) (cs_w S k) d) n f t → ∀ ls : Array Slot, lv_has ls 9 [(0, .ref (ad 0)), (4, .ref (ad (8 + k))), (5, .int (cs_so (cs_ro S k) (cs_w S k) d)), (6, .int t), (7, .int f), (8, .int b)] → W pg l e (headSpec wsX1_wrongBit ({ frames := 7, cells := 3, slots := 18, locals := 103 })).room s m [Value.ref (ad 0), Value.int (nI k), Value.int d, Value.int (nI N9)].toArray below meth c s.heap [] 2 12 (vx_MQ below (vp_Si (fun rr => cs_kWro S (nI k) d (nI N9) = 0 ∧ rr = cs_vWro S (nI k) d (nI N9))) (cs_XC (cs_E (cs_kWro S (nI k) d (nI N9)) cs_IOB cs_IAE "")) [Value.ref (ad 0), Value.int (nI k), Value.int d, Value.int (nI N9)].toArray s 3 18 (fun _ => False)) (F0 m 63 ls []) := by
        intro n
        induction n with
        | zero =>
          intro f t b eb hn h0 ls hl
          subst eb
          refine lv_iload hx hb dX1_wrongBit_63 (lv_at hl 5 rfl) ?_
          refine lv_if_lt (tgt := 94) hx hb dX1_wrongBit_65 (by decide) (fun c_65 => ?_) (fun c_65 => ?_)
          · refine lv_iload hx hb dX1_wrongBit_94 (lv_at hl 4 rfl) ?_
            refine W.widen (k := 3) (n := 18) (Nat.le_of_ble_eq_true rfl) (Nat.le_of_ble_eq_true rfl) ?_
            exact vx_ret (W.iret (v := f) hx hb hr (fun t ht _ => ⟨f, rfl, ⟨by unfold cs_kWro; simp [cs_k1, cs_k2, cs_nS, cs_pl, cs_bRow, cs_bSer, cs_bDef, okM, hkc, ok1, okA], h0.symm⟩, ht⟩) (fun q h => by cases h) dX1_wrongBit_96)
          · exact absurd cs_m1 c_65
        | succ n ih =>
          intro f t b eb hn h0 ls hl
          rw [nI_pred] at eb
          subst eb
          refine lv_iload hx hb dX1_wrongBit_63 (lv_at hl 5 rfl) ?_
          refine lv_if_lt (tgt := 94) hx hb dX1_wrongBit_65 (by decide) (fun c_65 => ?_) (fun c_65 => ?_)
          · exact absurd c_65 (nI_pos (by omega))
          · refine lv_iload hx hb dX1_wrongBit_68 (lv_at hl 3 rfl) ?_
            refine lv_iload hx hb dX1_wrongBit_70 (lv_at hl 2 rfl) ?_
            refine lv_icmp_ne (tgt := 79) hx hb dX1_wrongBit_72 (by decide) (fun c_72 => ?_) (fun c_72 => ?_)
            · refine lv_aload hx hb dX1_wrongBit_79 (lv_at hl 1 rfl) ?_
              refine lv_iload hx hb dX1_wrongBit_81 (lv_at hl 3 rfl) ?_
              refine vp_callSi (W.runV (As := [.int t]) (rest := []) ⟨hx, hb, hml, hown, hts⟩ (k_X0_timesX l D (cs_tys cy) (ad (8 + k)) (cs_w S k) (cs_p S k) (cs_i S k) (cs_x S k) (cs_ri S k) (cs_ro S k) t) (cwV 1 hts gX1_wrongBit_X0_timesX rfl rfl rfl (by decide +kernel) ⟨Nat.le_of_ble_eq_true rfl, Nat.le_of_ble_eq_true rfl⟩) ⟨cs_B.blind, va_recv hK (cs_one hP (cs_Lm hk)) (ci := 0) (q0 := 0) rfl rfl, cs_B.at hE (cs_one hP (cs_Lm hk)) hK⟩ rfl rfl hl.1 rfl (lv_room (Nat.le_of_ble_eq_true rfl)) dX1_wrongBit_83 ⟨Nat.le_of_ble_eq_true rfl, Nat.le_of_ble_eq_true rfl⟩) (fun r_83 e_83 => ?_)
              subst e_83
              refine lv_istore (lv' := [(6, .int (cs_T (cs_w S k) (cs_p S k) t)), (0, .ref (ad 0)), (4, .ref (ad (8 + k))), (5, .int (cs_so (cs_ro S k) (cs_w S k) d)), (7, .int f), (8, .int (nI n))]) hx hb dX1_wrongBit_86 hl (by decide) rfl (fun ls hl => ?_)
              refine lv_iinc (v := (nI n) - 1) (lv' := [(8, .int ((nI n) - 1)), (6, .int (cs_T (cs_w S k) (cs_p S k) t)), (0, .ref (ad 0)), (4, .ref (ad (8 + k))), (5, .int (cs_so (cs_ro S k) (cs_w S k) d)), (7, .int f)]) hx hb dX1_wrongBit_88 hl (k := 5) rfl (cs_dec (nI n)) (by decide) rfl (fun ls hl => ?_)
              refine lv_goto (tgt := 63) hx hb dX1_wrongBit_91 (by decide) ?_
              exact ih _ _ _ rfl (by omega) (h0.trans (by rw [cs_wb, if_neg c_72])) ls (lv_sub hl [2, 3, 4, 1, 5, 0] rfl)
            · refine lv_iload hx hb dX1_wrongBit_75 (lv_at hl 5 rfl) ?_
              refine lv_istore (lv' := [(7, .int (nI n)), (0, .ref (ad 0)), (4, .ref (ad (8 + k))), (5, .int (cs_so (cs_ro S k) (cs_w S k) d)), (6, .int t), (8, .int (nI n))]) hx hb dX1_wrongBit_77 hl (by decide) rfl (fun ls hl => ?_)
              refine lv_aload hx hb dX1_wrongBit_79 (lv_at hl 2 rfl) ?_
              refine lv_iload hx hb dX1_wrongBit_81 (lv_at hl 4 rfl) ?_
              refine vp_callSi (W.runV (As := [.int t]) (rest := []) ⟨hx, hb, hml, hown, hts⟩ (k_X0_timesX l D (cs_tys cy) (ad (8 + k)) (cs_w S k) (cs_p S k) (cs_i S k) (cs_x S k) (cs_ri S k) (cs_ro S k) t) (cwV 1 hts gX1_wrongBit_X0_timesX rfl rfl rfl (by decide +kernel) ⟨Nat.le_of_ble_eq_true rfl, Nat.le_of_ble_eq_true rfl⟩) ⟨cs_B.blind, va_recv hK (cs_one hP (cs_Lm hk)) (ci := 0) (q0 := 0) rfl rfl, cs_B.at hE (cs_one hP (cs_Lm hk)) hK⟩ rfl rfl hl.1 rfl (lv_room (Nat.le_of_ble_eq_true rfl)) dX1_wrongBit_83 ⟨Nat.le_of_ble_eq_true rfl, Nat.le_of_ble_eq_true rfl⟩) (fun r_83 e_83 => ?_)
              subst e_83
              refine lv_istore (lv' := [(6, .int (cs_T (cs_w S k) (cs_p S k) t)), (7, .int (nI n)), (0, .ref (ad 0)), (4, .ref (ad (8 + k))), (5, .int (cs_so (cs_ro S k) (cs_w S k) d)), (8, .int (nI n))]) hx hb dX1_wrongBit_86 hl (by decide) rfl (fun ls hl => ?_)
              refine lv_iinc (v := (nI n) - 1) (lv' := [(8, .int ((nI n) - 1)), (6, .int (cs_T (cs_w S k) (cs_p S k) t)), (7, .int (nI n)), (0, .ref (ad 0)), (4, .ref (ad (8 + k))), (5, .int (cs_so (cs_ro S k) (cs_w S k) d))]) hx hb dX1_wrongBit_88 hl (k := 5) rfl (cs_dec (nI n)) (by decide) rfl (fun ls hl => ?_)
              refine lv_goto (tgt := 63) hx hb dX1_wrongBit_91 (by decide) ?_
              exact ih _ _ _ rfl (by omega) (h0.trans (by rw [cs_wb, if_pos c_72])) ls (lv_sub hl [3, 4, 5, 1, 2, 0] rfl)
      exact loop (8 * N9) (-1) (cs_p S k) _ rfl (by omega) hV ls (lv_sub hl [5, 4, 3, 2, 1, 0] rfl)
    · have h0 : cs_in n 0 4000 = false := cs_inF2 c_24
      exact cs_throw (cls := cs_IAE) (text := "length is out of range") hx hb hlf hown hts (by decide +kernel) cs_at1 hE hE.2.1.1 cs_ot1 (fun _ h => by unfold wsX1_wrongBit; exact List.mem_cons_of_mem _ (List.mem_append_left _ (List.mem_append_right _ (h)))) (by decide +kernel) (by decide +kernel) (hE.2.2 (95, "length is out of range") (by decide +kernel)) hz (hl.1.trans hml.symm) dX1_wrongBit_27 dX1_wrongBit_30 dX1_wrongBit_31 dX1_wrongBit_33 dX1_wrongBit_36 hout (Nat.le_of_ble_eq_true rfl) (Nat.le_of_ble_eq_true rfl) (Nat.le_of_ble_eq_true rfl) (Nat.le_of_ble_eq_true rfl) hlocks (Or.inr (Or.inl ⟨(by unfold cs_kWro; simp [cs_k1, cs_k2, cs_nS, cs_pl, cs_bRow, cs_bSer, cs_bDef, okM, hkc, ok1, h0]), rfl⟩)) (Nat.le_of_ble_eq_true rfl) (Nat.le_of_ble_eq_true rfl)
set_option maxHeartbeats 4000000 in
set_option maxRecDepth 100000 in
theorem k_X1_fletcher (l : Launch) (hlf : l.stackTraces = false) (D : va_G) (S : cs_St) (ad : Nat → Nat) (cy : Nat → ClassId) (hS : cs_ok S) (v : Int32) : cs_Xi l yX1_fletcher wsX1_fletcher ({ frames := 7, cells := 1, slots := 6, locals := 102 }) D (cs_tys cy) (cs_L S ad cy) [.ref (ad 0), .int v] (fun rr => cs_k1 (cs_in v 0 3) = 0 ∧ rr = cs_vFle S v) (cs_E (cs_k1 (cs_in v 0 3)) cs_IOB "" "") 1 6 := by
  refine vx_ofW (cc := cX1_fletcher) (maxL := 6) (ret := (some .int)) (by decide) rfl ?_
  intro pg e s m args below meth c s₁ B hml hout hv
  obtain ⟨rfl, hE, hz, hP, hK⟩ := hv
  have hx := B.exec
  have hb := B.bytes
  have hr := B.returns
  have hts := atoms_spec (ws := wsX1_fletcher) B.pre
  have hown : s.vm.findClass RX1 = some m.cls := findClass_of_methodNamed B.named
  have hlocks := B.notSynchronized
  have hl := lv_entry ([.ref (ad 0), .int v]) (n := 6) (Nat.le_of_ble_eq_true rfl)
  rw [lg_entry_eq]
  generalize (lg_sl ([.ref (ad 0), .int v]) ++ List.replicate (6 - (lg_sl ([.ref (ad 0), .int v])).length) Slot.unset).toArray = ls at hl ⊢
  have hl : lv_has ls 6 [(0, .ref (ad 0)), (1, .int v)] := hl
  have hinX1 : ∀ w ∈ wsX10, w ∈ wsX1_fletcher := fun _ h => by unfold wsX1_fletcher; exact List.mem_cons_of_mem _ (List.mem_append_left _ (List.mem_append_right _ (h)))
  have h6 := hS.1
  refine lv_iload_n hx hb dX1_fletcher_0 rfl (lv_at hl 1 rfl) ?_
  refine cs_xcallv (vx_runS (As := [.int v]) (rest := []) ⟨hx, hb, hml, hown, hts⟩ (k_X1_requireRow l hlf D S ad cy v) (va_cwS 1 hts gX1_fletcher_X1_requireRow rfl rfl rfl (by decide +kernel) ⟨(Nat.le_of_ble_eq_true rfl), (Nat.le_of_ble_eq_true rfl)⟩) ⟨cs_Bx.blind, cs_Bx.at hE hz cs_none hK⟩ rfl rfl hl.1 rfl (lv_room (Nat.le_of_ble_eq_true rfl)) dX1_fletcher_1 ⟨(Nat.le_of_ble_eq_true rfl), (Nat.le_of_ble_eq_true rfl)⟩) (fun E ce q9 H1 h1 h2 h3 h4 h5 h6 => cs_xout hout hlocks (fun E h => Or.inl ⟨(by unfold cs_k1; simp [cs_k1, cs_k2, cs_nS, cs_pl, cs_bRow, cs_bSer, cs_bDef, h.2]), h.1⟩) (Nat.le_of_ble_eq_true rfl) (Nat.le_of_ble_eq_true rfl) E ce q9 H1 h1 h2 h3 h4 h5 h6) (fun okR => ?_)
  obtain ⟨r, hr4, rfl⟩ := cs_row_of okR
  have r31 : r < 2 ^ 31 := by omega
  have rc : cs_c (nI r) = r := cs_cI r31
  have hl8 := hS.2.2.1 r
  refine lv_aload_n hx hb dX1_fletcher_4 rfl (lv_at hl 0 rfl) ?_
  refine va_get (D := D) (ci := 1) (v := .ref (ad 3)) (C := RX1) (T := TX1) (N := 4) hx hb hts hinX1 hown hK hP 0 cs_L0 rfl 3 (by decide) (hts (.fieldLink RX1 24 "ChecksumLab" "sizes" "[I") (by decide +kernel)) (fun _ h9 => h9) rfl dX1_fletcher_5 ?_
  refine lv_iload_n hx hb dX1_fletcher_8 rfl (lv_at hl 1 rfl) ?_
  refine cs_iald hx hb hK hP 3 0 cs_L3 rfl (k := r) (hr4) (by decide) dX1_fletcher_9 ?_
  refine cs_top (y := nI (cs_ln S r)) rfl ?_
  refine lv_istore_n (lv' := [(2, .int (nI (cs_ln S r))), (0, .ref (ad 0)), (1, .int (nI r))]) hx hb dX1_fletcher_10 rfl hl (by decide) rfl (fun ls hl => ?_)
  refine lv_iconst (v := 0) hx hb dX1_fletcher_11 (by decide) ?_
  refine lv_istore_n (lv' := [(3, .int 0), (2, .int (nI (cs_ln S r))), (0, .ref (ad 0)), (1, .int (nI r))]) hx hb dX1_fletcher_12 rfl hl (by decide) rfl (fun ls hl => ?_)
  refine lv_iconst (v := 0) hx hb dX1_fletcher_13 (by decide) ?_
  refine lv_istore (lv' := [(4, .int 0), (3, .int 0), (2, .int (nI (cs_ln S r))), (0, .ref (ad 0)), (1, .int (nI r))]) hx hb dX1_fletcher_14 hl (by decide) rfl (fun ls hl => ?_)
  refine lv_iconst (v := 0) hx hb dX1_fletcher_16 (by decide) ?_
  refine lv_istore (lv' := [(5, .int 0), (4, .int 0), (3, .int 0), (2, .int (nI (cs_ln S r))), (0, .ref (ad 0)), (1, .int (nI r))]) hx hb dX1_fletcher_17 hl (by decide) rfl (fun ls hl => ?_)
  have loop : ∀ (n i : Nat), i + n = cs_ln S r → ∀ ls : Array Slot, lv_has ls 6 [(0, .ref (ad 0)), (1, .int (nI r)), (2, .int (nI (cs_ln S r))), (3, .int ((cs_ra 255 0 (cs_by S r) i).1)), (4, .int ((cs_ra 255 0 (cs_by S r) i).2)), (5, .int (nI i))] → W pg l e (headSpec wsX1_fletcher ({ frames := 7, cells := 1, slots := 6, locals := 102 })).room s m [Value.ref (ad 0), Value.int (nI r)].toArray below meth c s.heap [] 1 6 (vx_MQ below (vp_Si (fun rr => cs_k1 (cs_in (nI r) 0 3) = 0 ∧ rr = cs_vFle S (nI r))) (cs_XC (cs_E (cs_k1 (cs_in (nI r) 0 3)) cs_IOB "" "")) [Value.ref (ad 0), Value.int (nI r)].toArray s 1 6 (fun _ => False)) (F0 m 19 ls []) := by
    intro n
    induction n with
    | zero =>
      intro i hi ls hl
      refine lv_iload hx hb dX1_fletcher_19 (lv_at hl 5 rfl) ?_
      refine lv_iload_n hx hb dX1_fletcher_21 rfl (lv_at hl 2 rfl) ?_
      refine lv_icmp_ge (tgt := 57) hx hb dX1_fletcher_22 (by decide) (fun c_22 => ?_) (fun c_22 => ?_)
      · refine lv_sipush (v := 256) hx hb dX1_fletcher_57 (by decide) ?_
        refine lv_iload hx hb dX1_fletcher_60 (lv_at hl 4 rfl) ?_
        refine lv_imul hx hb dX1_fletcher_62 ?_
        refine lv_iload_n hx hb dX1_fletcher_63 rfl (lv_at hl 3 rfl) ?_
        refine lv_iadd hx hb dX1_fletcher_64 ?_
        refine W.widen (k := 1) (n := 6) (Nat.le_of_ble_eq_true rfl) (Nat.le_of_ble_eq_true rfl) ?_
        exact vx_ret (W.iret (v := (256 * ((cs_ra 255 0 (cs_by S r) i).2)) + ((cs_ra 255 0 (cs_by S r) i).1)) hx hb hr (fun t ht _ => ⟨(256 * ((cs_ra 255 0 (cs_by S r) i).2)) + ((cs_ra 255 0 (cs_by S r) i).1), rfl, ⟨by unfold cs_k1; simp [cs_k1, cs_k2, cs_nS, cs_pl, cs_bRow, cs_bSer, cs_bDef, okR, rc], by unfold cs_vFle; rw [rc, ← hi, Nat.add_zero]⟩, ht⟩) (fun q h => by cases h) dX1_fletcher_65)
      · exact absurd (nI_le (a := cs_ln S r) (b := i) (by omega) (by omega)) c_22
    | succ n ih =>
      intro i hi ls hl
      refine lv_iload hx hb dX1_fletcher_19 (lv_at hl 5 rfl) ?_
      refine lv_iload_n hx hb dX1_fletcher_21 rfl (lv_at hl 2 rfl) ?_
      refine lv_icmp_ge (tgt := 57) hx hb dX1_fletcher_22 (by decide) (fun c_22 => ?_) (fun c_22 => ?_)
      · exact absurd c_22 (nI_ge (a := i) (b := cs_ln S r) (by omega) (by omega))
      · refine lv_iload_n hx hb dX1_fletcher_25 rfl (lv_at hl 3 rfl) ?_
        refine lv_aload_n hx hb dX1_fletcher_26 rfl (lv_at hl 0 rfl) ?_
        refine va_get (D := D) (ci := 1) (v := .ref (ad 2)) (C := RX1) (T := TX1) (N := 4) hx hb hts hinX1 hown hK hP 0 cs_L0 rfl 2 (by decide) (hts (.fieldLink RX1 21 "ChecksumLab" "rows" "[[I") (by decide +kernel)) (fun _ h9 => h9) rfl dX1_fletcher_27 ?_
        refine lv_iload_n hx hb dX1_fletcher_30 rfl (lv_at hl 1 rfl) ?_
        refine cs_aldA hx hb hK hP 2 4 cs_L2 rfl (k := r) (hr4) (by decide) dX1_fletcher_31 ?_
        refine cs_topv (y := .ref (ad (4 + r))) (by rw [if_pos (hr4)]; rfl) ?_
        refine lv_iload hx hb dX1_fletcher_32 (lv_at hl 5 rfl) ?_
        refine cs_iald hx hb hK hP (4 + r) 0 (cs_Lr hr4) rfl (k := i) (by omega) (by decide) dX1_fletcher_34 ?_
        refine cs_top (y := nI (cs_by S r i)) rfl ?_
        refine lv_iadd hx hb dX1_fletcher_35 ?_
        refine lv_sipush (v := 255) hx hb dX1_fletcher_36 (by decide) ?_
        refine lv_irem hx hb dX1_fletcher_39 (by decide) ?_
        refine cs_top (y := cs_rem (((cs_ra 255 0 (cs_by S r) i).1) + (nI (cs_by S r i))) 255) (rfl) ?_
        refine lv_istore_n (lv' := [(3, .int (cs_rem (((cs_ra 255 0 (cs_by S r) i).1) + (nI (cs_by S r i))) 255)), (0, .ref (ad 0)), (1, .int (nI r)), (2, .int (nI (cs_ln S r))), (4, .int ((cs_ra 255 0 (cs_by S r) i).2)), (5, .int (nI i))]) hx hb dX1_fletcher_40 rfl hl (by decide) rfl (fun ls hl => ?_)
        refine lv_iload hx hb dX1_fletcher_41 (lv_at hl 4 rfl) ?_
        refine lv_iload_n hx hb dX1_fletcher_43 rfl (lv_at hl 0 rfl) ?_
        refine lv_iadd hx hb dX1_fletcher_44 ?_
        refine lv_sipush (v := 255) hx hb dX1_fletcher_45 (by decide) ?_
        refine lv_irem hx hb dX1_fletcher_48 (by decide) ?_
        refine cs_top (y := cs_rem (((cs_ra 255 0 (cs_by S r) i).2) + (cs_rem (((cs_ra 255 0 (cs_by S r) i).1) + (nI (cs_by S r i))) 255)) 255) (rfl) ?_
        refine lv_istore (lv' := [(4, .int (cs_rem (((cs_ra 255 0 (cs_by S r) i).2) + (cs_rem (((cs_ra 255 0 (cs_by S r) i).1) + (nI (cs_by S r i))) 255)) 255)), (3, .int (cs_rem (((cs_ra 255 0 (cs_by S r) i).1) + (nI (cs_by S r i))) 255)), (0, .ref (ad 0)), (1, .int (nI r)), (2, .int (nI (cs_ln S r))), (5, .int (nI i))]) hx hb dX1_fletcher_49 hl (by decide) rfl (fun ls hl => ?_)
        refine lv_iinc (v := nI (i + 1)) (lv' := [(5, .int (nI (i + 1))), (4, .int (cs_rem (((cs_ra 255 0 (cs_by S r) i).2) + (cs_rem (((cs_ra 255 0 (cs_by S r) i).1) + (nI (cs_by S r i))) 255)) 255)), (3, .int (cs_rem (((cs_ra 255 0 (cs_by S r) i).1) + (nI (cs_by S r i))) 255)), (0, .ref (ad 0)), (1, .int (nI r)), (2, .int (nI (cs_ln S r)))]) hx hb dX1_fletcher_51 hl (k := 5) rfl (cs_inc1 i) (by decide) rfl (fun ls hl => ?_)
        refine lv_goto (tgt := 19) hx hb dX1_fletcher_54 (by decide) ?_
        exact ih (i + 1) (by omega) ls (lv_sub hl [3, 4, 5, 2, 1, 0] rfl)
  exact loop (cs_ln S r) 0 (by omega) ls (lv_sub hl [4, 5, 3, 2, 1, 0] rfl)
set_option maxHeartbeats 4000000 in
set_option maxRecDepth 100000 in
theorem k_X1_adler (l : Launch) (hlf : l.stackTraces = false) (D : va_G) (S : cs_St) (ad : Nat → Nat) (cy : Nat → ClassId) (hS : cs_ok S) (v : Int32) : cs_Xi l yX1_adler wsX1_adler ({ frames := 7, cells := 1, slots := 6, locals := 102 }) D (cs_tys cy) (cs_L S ad cy) [.ref (ad 0), .int v] (fun rr => cs_k1 (cs_in v 0 3) = 0 ∧ rr = cs_vAdl S v) (cs_E (cs_k1 (cs_in v 0 3)) cs_IOB "" "") 1 6 := by
  refine vx_ofW (cc := cX1_adler) (maxL := 6) (ret := (some .int)) (by decide) rfl ?_
  intro pg e s m args below meth c s₁ B hml hout hv
  obtain ⟨rfl, hE, hz, hP, hK⟩ := hv
  have hx := B.exec
  have hb := B.bytes
  have hr := B.returns
  have hts := atoms_spec (ws := wsX1_adler) B.pre
  have hown : s.vm.findClass RX1 = some m.cls := findClass_of_methodNamed B.named
  have hlocks := B.notSynchronized
  have hl := lv_entry ([.ref (ad 0), .int v]) (n := 6) (Nat.le_of_ble_eq_true rfl)
  rw [lg_entry_eq]
  generalize (lg_sl ([.ref (ad 0), .int v]) ++ List.replicate (6 - (lg_sl ([.ref (ad 0), .int v])).length) Slot.unset).toArray = ls at hl ⊢
  have hl : lv_has ls 6 [(0, .ref (ad 0)), (1, .int v)] := hl
  have hinX1 : ∀ w ∈ wsX10, w ∈ wsX1_adler := fun _ h => by unfold wsX1_adler; exact List.mem_cons_of_mem _ (List.mem_append_left _ (List.mem_append_right _ (h)))
  have h6 := hS.1
  refine lv_iload_n hx hb dX1_adler_0 rfl (lv_at hl 1 rfl) ?_
  refine cs_xcallv (vx_runS (As := [.int v]) (rest := []) ⟨hx, hb, hml, hown, hts⟩ (k_X1_requireRow l hlf D S ad cy v) (va_cwS 1 hts gX1_adler_X1_requireRow rfl rfl rfl (by decide +kernel) ⟨(Nat.le_of_ble_eq_true rfl), (Nat.le_of_ble_eq_true rfl)⟩) ⟨cs_Bx.blind, cs_Bx.at hE hz cs_none hK⟩ rfl rfl hl.1 rfl (lv_room (Nat.le_of_ble_eq_true rfl)) dX1_adler_1 ⟨(Nat.le_of_ble_eq_true rfl), (Nat.le_of_ble_eq_true rfl)⟩) (fun E ce q9 H1 h1 h2 h3 h4 h5 h6 => cs_xout hout hlocks (fun E h => Or.inl ⟨(by unfold cs_k1; simp [cs_k1, cs_k2, cs_nS, cs_pl, cs_bRow, cs_bSer, cs_bDef, h.2]), h.1⟩) (Nat.le_of_ble_eq_true rfl) (Nat.le_of_ble_eq_true rfl) E ce q9 H1 h1 h2 h3 h4 h5 h6) (fun okR => ?_)
  obtain ⟨r, hr4, rfl⟩ := cs_row_of okR
  have r31 : r < 2 ^ 31 := by omega
  have rc : cs_c (nI r) = r := cs_cI r31
  have hl8 := hS.2.2.1 r
  refine lv_aload_n hx hb dX1_adler_4 rfl (lv_at hl 0 rfl) ?_
  refine va_get (D := D) (ci := 1) (v := .ref (ad 3)) (C := RX1) (T := TX1) (N := 4) hx hb hts hinX1 hown hK hP 0 cs_L0 rfl 3 (by decide) (hts (.fieldLink RX1 24 "ChecksumLab" "sizes" "[I") (by decide +kernel)) (fun _ h9 => h9) rfl dX1_adler_5 ?_
  refine lv_iload_n hx hb dX1_adler_8 rfl (lv_at hl 1 rfl) ?_
  refine cs_iald hx hb hK hP 3 0 cs_L3 rfl (k := r) (hr4) (by decide) dX1_adler_9 ?_
  refine cs_top (y := nI (cs_ln S r)) rfl ?_
  refine lv_istore_n (lv' := [(2, .int (nI (cs_ln S r))), (0, .ref (ad 0)), (1, .int (nI r))]) hx hb dX1_adler_10 rfl hl (by decide) rfl (fun ls hl => ?_)
  refine lv_iconst (v := 1) hx hb dX1_adler_11 (by decide) ?_
  refine lv_istore_n (lv' := [(3, .int 1), (2, .int (nI (cs_ln S r))), (0, .ref (ad 0)), (1, .int (nI r))]) hx hb dX1_adler_12 rfl hl (by decide) rfl (fun ls hl => ?_)
  refine lv_iconst (v := 0) hx hb dX1_adler_13 (by decide) ?_
  refine lv_istore (lv' := [(4, .int 0), (3, .int 1), (2, .int (nI (cs_ln S r))), (0, .ref (ad 0)), (1, .int (nI r))]) hx hb dX1_adler_14 hl (by decide) rfl (fun ls hl => ?_)
  refine lv_iconst (v := 0) hx hb dX1_adler_16 (by decide) ?_
  refine lv_istore (lv' := [(5, .int 0), (4, .int 0), (3, .int 1), (2, .int (nI (cs_ln S r))), (0, .ref (ad 0)), (1, .int (nI r))]) hx hb dX1_adler_17 hl (by decide) rfl (fun ls hl => ?_)
  have loop : ∀ (n i : Nat), i + n = cs_ln S r → ∀ ls : Array Slot, lv_has ls 6 [(0, .ref (ad 0)), (1, .int (nI r)), (2, .int (nI (cs_ln S r))), (3, .int ((cs_ra 65521 1 (cs_by S r) i).1)), (4, .int ((cs_ra 65521 1 (cs_by S r) i).2)), (5, .int (nI i))] → W pg l e (headSpec wsX1_adler ({ frames := 7, cells := 1, slots := 6, locals := 102 })).room s m [Value.ref (ad 0), Value.int (nI r)].toArray below meth c s.heap [] 1 6 (vx_MQ below (vp_Si (fun rr => cs_k1 (cs_in (nI r) 0 3) = 0 ∧ rr = cs_vAdl S (nI r))) (cs_XC (cs_E (cs_k1 (cs_in (nI r) 0 3)) cs_IOB "" "")) [Value.ref (ad 0), Value.int (nI r)].toArray s 1 6 (fun _ => False)) (F0 m 19 ls []) := by
    intro n
    induction n with
    | zero =>
      intro i hi ls hl
      refine lv_iload hx hb dX1_adler_19 (lv_at hl 5 rfl) ?_
      refine lv_iload_n hx hb dX1_adler_21 rfl (lv_at hl 2 rfl) ?_
      refine lv_icmp_ge (tgt := 55) hx hb dX1_adler_22 (by decide) (fun c_22 => ?_) (fun c_22 => ?_)
      · refine lv_iload_n hx hb dX1_adler_55 rfl (lv_at hl 3 rfl) ?_
        refine lv_i2l (v := ((cs_ra 65521 1 (cs_by S r) i).1).toInt64) hx hb dX1_adler_56 rfl ?_
        refine lv_iload hx hb dX1_adler_57 (lv_at hl 4 rfl) ?_
        refine lv_i2l (v := ((cs_ra 65521 1 (cs_by S r) i).2).toInt64) hx hb dX1_adler_59 rfl ?_
        refine vp_callSi (W.runS (As := [.long (((cs_ra 65521 1 (cs_by S r) i).1).toInt64), .long (((cs_ra 65521 1 (cs_by S r) i).2).toInt64)]) (rest := []) ⟨hx, hb, hml, hown, hts⟩ (k_X1_adlerSum l D S ad cy (((cs_ra 65521 1 (cs_by S r) i).1).toInt64) (((cs_ra 65521 1 (cs_by S r) i).2).toInt64)) (va_cwS 2 hts gX1_adler_X1_adlerSum rfl rfl rfl (by decide +kernel) ⟨Nat.le_of_ble_eq_true rfl, Nat.le_of_ble_eq_true rfl⟩) ⟨cs_B.blind, cs_B.at hE cs_none hK⟩ rfl rfl hl.1 rfl (lv_room (Nat.le_of_ble_eq_true rfl)) dX1_adler_60 ⟨Nat.le_of_ble_eq_true rfl, Nat.le_of_ble_eq_true rfl⟩) (fun r_60 e_60 => ?_)
        subst e_60
        refine W.widen (k := 1) (n := 6) (Nat.le_of_ble_eq_true rfl) (Nat.le_of_ble_eq_true rfl) ?_
        exact vx_ret (W.iret (v := cs_ad (((cs_ra 65521 1 (cs_by S r) i).1).toInt64) (((cs_ra 65521 1 (cs_by S r) i).2).toInt64)) hx hb hr (fun t ht _ => ⟨cs_ad (((cs_ra 65521 1 (cs_by S r) i).1).toInt64) (((cs_ra 65521 1 (cs_by S r) i).2).toInt64), rfl, ⟨by unfold cs_k1; simp [cs_k1, cs_k2, cs_nS, cs_pl, cs_bRow, cs_bSer, cs_bDef, okR, rc], by unfold cs_vAdl; rw [rc, ← hi, Nat.add_zero]; exact cs_adlN (hS.2.2.2 r) i⟩, ht⟩) (fun q h => by cases h) dX1_adler_63)
      · exact absurd (nI_le (a := cs_ln S r) (b := i) (by omega) (by omega)) c_22
    | succ n ih =>
      intro i hi ls hl
      refine lv_iload hx hb dX1_adler_19 (lv_at hl 5 rfl) ?_
      refine lv_iload_n hx hb dX1_adler_21 rfl (lv_at hl 2 rfl) ?_
      refine lv_icmp_ge (tgt := 55) hx hb dX1_adler_22 (by decide) (fun c_22 => ?_) (fun c_22 => ?_)
      · exact absurd c_22 (nI_ge (a := i) (b := cs_ln S r) (by omega) (by omega))
      · refine lv_iload_n hx hb dX1_adler_25 rfl (lv_at hl 3 rfl) ?_
        refine lv_aload_n hx hb dX1_adler_26 rfl (lv_at hl 0 rfl) ?_
        refine va_get (D := D) (ci := 1) (v := .ref (ad 2)) (C := RX1) (T := TX1) (N := 4) hx hb hts hinX1 hown hK hP 0 cs_L0 rfl 2 (by decide) (hts (.fieldLink RX1 21 "ChecksumLab" "rows" "[[I") (by decide +kernel)) (fun _ h9 => h9) rfl dX1_adler_27 ?_
        refine lv_iload_n hx hb dX1_adler_30 rfl (lv_at hl 1 rfl) ?_
        refine cs_aldA hx hb hK hP 2 4 cs_L2 rfl (k := r) (hr4) (by decide) dX1_adler_31 ?_
        refine cs_topv (y := .ref (ad (4 + r))) (by rw [if_pos (hr4)]; rfl) ?_
        refine lv_iload hx hb dX1_adler_32 (lv_at hl 5 rfl) ?_
        refine cs_iald hx hb hK hP (4 + r) 0 (cs_Lr hr4) rfl (k := i) (by omega) (by decide) dX1_adler_34 ?_
        refine cs_top (y := nI (cs_by S r i)) rfl ?_
        refine lv_iadd hx hb dX1_adler_35 ?_
        refine lv_ldc (v := 65521) hx hb hown (hts (.constant RX1 131 65521) (by decide +kernel)) dX1_adler_36 ?_
        refine lv_irem hx hb dX1_adler_38 (by decide) ?_
        refine cs_top (y := cs_rem (((cs_ra 65521 1 (cs_by S r) i).1) + (nI (cs_by S r i))) 65521) (rfl) ?_
        refine lv_istore_n (lv' := [(3, .int (cs_rem (((cs_ra 65521 1 (cs_by S r) i).1) + (nI (cs_by S r i))) 65521)), (0, .ref (ad 0)), (1, .int (nI r)), (2, .int (nI (cs_ln S r))), (4, .int ((cs_ra 65521 1 (cs_by S r) i).2)), (5, .int (nI i))]) hx hb dX1_adler_39 rfl hl (by decide) rfl (fun ls hl => ?_)
        refine lv_iload hx hb dX1_adler_40 (lv_at hl 4 rfl) ?_
        refine lv_iload_n hx hb dX1_adler_42 rfl (lv_at hl 0 rfl) ?_
        refine lv_iadd hx hb dX1_adler_43 ?_
        refine lv_ldc (v := 65521) hx hb hown (hts (.constant RX1 131 65521) (by decide +kernel)) dX1_adler_44 ?_
        refine lv_irem hx hb dX1_adler_46 (by decide) ?_
        refine cs_top (y := cs_rem (((cs_ra 65521 1 (cs_by S r) i).2) + (cs_rem (((cs_ra 65521 1 (cs_by S r) i).1) + (nI (cs_by S r i))) 65521)) 65521) (rfl) ?_
        refine lv_istore (lv' := [(4, .int (cs_rem (((cs_ra 65521 1 (cs_by S r) i).2) + (cs_rem (((cs_ra 65521 1 (cs_by S r) i).1) + (nI (cs_by S r i))) 65521)) 65521)), (3, .int (cs_rem (((cs_ra 65521 1 (cs_by S r) i).1) + (nI (cs_by S r i))) 65521)), (0, .ref (ad 0)), (1, .int (nI r)), (2, .int (nI (cs_ln S r))), (5, .int (nI i))]) hx hb dX1_adler_47 hl (by decide) rfl (fun ls hl => ?_)
        refine lv_iinc (v := nI (i + 1)) (lv' := [(5, .int (nI (i + 1))), (4, .int (cs_rem (((cs_ra 65521 1 (cs_by S r) i).2) + (cs_rem (((cs_ra 65521 1 (cs_by S r) i).1) + (nI (cs_by S r i))) 65521)) 65521)), (3, .int (cs_rem (((cs_ra 65521 1 (cs_by S r) i).1) + (nI (cs_by S r i))) 65521)), (0, .ref (ad 0)), (1, .int (nI r)), (2, .int (nI (cs_ln S r)))]) hx hb dX1_adler_49 hl (k := 5) rfl (cs_inc1 i) (by decide) rfl (fun ls hl => ?_)
        refine lv_goto (tgt := 19) hx hb dX1_adler_52 (by decide) ?_
        exact ih (i + 1) (by omega) ls (lv_sub hl [3, 4, 5, 2, 1, 0] rfl)
  exact loop (cs_ln S r) 0 (by omega) ls (lv_sub hl [4, 5, 3, 2, 1, 0] rfl)
set_option maxHeartbeats 4000000 in
set_option maxRecDepth 100000 in
theorem k_X1_fletcherJoined (l : Launch) (hlf : l.stackTraces = false) (D : va_G) (S : cs_St) (ad : Nat → Nat) (cy : Nat → ClassId) (a b n : Int32) : cs_Xi l yX1_fletcherJoined wsX1_fletcherJoined ({ frames := 7, cells := 3, slots := 18, locals := 102 }) D (cs_tys cy) (cs_L S ad cy) [.ref (ad 0), .int a, .int b, .int n] (fun rr => cs_kFlj a b n = 0 ∧ rr = cs_vFlj a b n) (cs_E (cs_kFlj a b n) cs_IAE "" "") 3 18 := by
  refine vx_ofW (cc := cX1_fletcherJoined) (maxL := 10) (ret := (some .int)) (by decide) rfl ?_
  intro pg e s m args below meth c s₁ B hml hout hv
  obtain ⟨rfl, hE, hz, hP, hK⟩ := hv
  have hx := B.exec
  have hb := B.bytes
  have hr := B.returns
  have hts := atoms_spec (ws := wsX1_fletcherJoined) B.pre
  have hown : s.vm.findClass RX1 = some m.cls := findClass_of_methodNamed B.named
  have hlocks := B.notSynchronized
  have hl := lv_entry ([.ref (ad 0), .int a, .int b, .int n]) (n := 10) (Nat.le_of_ble_eq_true rfl)
  rw [lg_entry_eq]
  generalize (lg_sl ([.ref (ad 0), .int a, .int b, .int n]) ++ List.replicate (10 - (lg_sl ([.ref (ad 0), .int a, .int b, .int n])).length) Slot.unset).toArray = ls at hl ⊢
  have hl : lv_has ls 10 [(0, .ref (ad 0)), (1, .int a), (2, .int b), (3, .int n)] := hl
  refine lv_iload_n hx hb dX1_fletcherJoined_0 rfl (lv_at hl 1 rfl) ?_
  refine cs_xcallv (vx_runS (As := [.int a]) (rest := []) ⟨hx, hb, hml, hown, hts⟩ (k_X1_requireFletcher l hlf D S ad cy a) (va_cwS 1 hts gX1_fletcherJoined_X1_requireFletcher rfl rfl rfl (by decide +kernel) ⟨(Nat.le_of_ble_eq_true rfl), (Nat.le_of_ble_eq_true rfl)⟩) ⟨cs_Bx.blind, cs_Bx.at hE hz cs_none hK⟩ rfl rfl hl.1 rfl (lv_room (Nat.le_of_ble_eq_true rfl)) dX1_fletcherJoined_1 ⟨(Nat.le_of_ble_eq_true rfl), (Nat.le_of_ble_eq_true rfl)⟩) (fun E ce q9 H1 h1 h2 h3 h4 h5 h6 => cs_xout hout hlocks (fun E h => Or.inl ⟨(by unfold cs_kFlj; simp [cs_k1, cs_k2, cs_nS, cs_pl, cs_bRow, cs_bSer, cs_bDef, h.2]), h.1⟩) (Nat.le_of_ble_eq_true rfl) (Nat.le_of_ble_eq_true rfl) E ce q9 H1 h1 h2 h3 h4 h5 h6) (fun ok1 => ?_)
  refine lv_iload_n hx hb dX1_fletcherJoined_4 rfl (lv_at hl 2 rfl) ?_
  refine cs_xcallv (vx_runS (As := [.int b]) (rest := []) ⟨hx, hb, hml, hown, hts⟩ (k_X1_requireFletcher l hlf D S ad cy b) (va_cwS 1 hts gX1_fletcherJoined_X1_requireFletcher rfl rfl rfl (by decide +kernel) ⟨(Nat.le_of_ble_eq_true rfl), (Nat.le_of_ble_eq_true rfl)⟩) ⟨cs_Bx.blind, cs_Bx.at hE hz cs_none hK⟩ rfl rfl hl.1 rfl (lv_room (Nat.le_of_ble_eq_true rfl)) dX1_fletcherJoined_5 ⟨(Nat.le_of_ble_eq_true rfl), (Nat.le_of_ble_eq_true rfl)⟩) (fun E ce q9 H1 h1 h2 h3 h4 h5 h6 => cs_xout hout hlocks (fun E h => Or.inl ⟨(by unfold cs_kFlj; simp [cs_k1, cs_k2, cs_nS, cs_pl, cs_bRow, cs_bSer, cs_bDef, ok1, h.2]), h.1⟩) (Nat.le_of_ble_eq_true rfl) (Nat.le_of_ble_eq_true rfl) E ce q9 H1 h1 h2 h3 h4 h5 h6) (fun ok2 => ?_)
  refine lv_iload_n hx hb dX1_fletcherJoined_8 rfl (lv_at hl 3 rfl) ?_
  refine cs_xcallv (vx_runS (As := [.int n]) (rest := []) ⟨hx, hb, hml, hown, hts⟩ (k_X1_requireLength l hlf D S ad cy n) (va_cwS 1 hts gX1_fletcherJoined_X1_requireLength rfl rfl rfl (by decide +kernel) ⟨(Nat.le_of_ble_eq_true rfl), (Nat.le_of_ble_eq_true rfl)⟩) ⟨cs_Bx.blind, cs_Bx.at hE hz cs_none hK⟩ rfl rfl hl.1 rfl (lv_room (Nat.le_of_ble_eq_true rfl)) dX1_fletcherJoined_9 ⟨(Nat.le_of_ble_eq_true rfl), (Nat.le_of_ble_eq_true rfl)⟩) (fun E ce q9 H1 h1 h2 h3 h4 h5 h6 => cs_xout hout hlocks (fun E h => Or.inl ⟨(by unfold cs_kFlj; simp [cs_k1, cs_k2, cs_nS, cs_pl, cs_bRow, cs_bSer, cs_bDef, ok1, ok2, h.2]), h.1⟩) (Nat.le_of_ble_eq_true rfl) (Nat.le_of_ble_eq_true rfl) E ce q9 H1 h1 h2 h3 h4 h5 h6) (fun ok3 => ?_)
  refine lv_iload_n hx hb dX1_fletcherJoined_12 rfl (lv_at hl 1 rfl) ?_
  refine lv_sipush (v := 256) hx hb dX1_fletcherJoined_13 (by decide) ?_
  refine lv_irem hx hb dX1_fletcherJoined_16 (by decide) ?_
  refine cs_top (y := cs_rem a 256) (rfl) ?_
  refine lv_istore (lv' := [(4, .int (cs_rem a 256)), (0, .ref (ad 0)), (1, .int a), (2, .int b), (3, .int n)]) hx hb dX1_fletcherJoined_17 hl (by decide) rfl (fun ls hl => ?_)
  refine lv_iload_n hx hb dX1_fletcherJoined_19 rfl (lv_at hl 2 rfl) ?_
  refine lv_sipush (v := 256) hx hb dX1_fletcherJoined_20 (by decide) ?_
  refine lv_idiv hx hb dX1_fletcherJoined_23 (by decide) ?_
  refine lv_istore (lv' := [(5, .int (a / 256)), (4, .int (cs_rem a 256)), (0, .ref (ad 0)), (1, .int a), (2, .int b), (3, .int n)]) hx hb dX1_fletcherJoined_24 hl (by decide) rfl (fun ls hl => ?_)
  refine lv_iload_n hx hb dX1_fletcherJoined_26 rfl (lv_at hl 4 rfl) ?_
  refine lv_sipush (v := 256) hx hb dX1_fletcherJoined_27 (by decide) ?_
  refine lv_irem hx hb dX1_fletcherJoined_30 (by decide) ?_
  refine cs_top (y := cs_rem b 256) (rfl) ?_
  refine lv_istore (lv' := [(6, .int (cs_rem b 256)), (5, .int (a / 256)), (4, .int (cs_rem a 256)), (0, .ref (ad 0)), (1, .int a), (2, .int b), (3, .int n)]) hx hb dX1_fletcherJoined_31 hl (by decide) rfl (fun ls hl => ?_)
  refine lv_iload_n hx hb dX1_fletcherJoined_33 rfl (lv_at hl 5 rfl) ?_
  refine lv_sipush (v := 256) hx hb dX1_fletcherJoined_34 (by decide) ?_
  refine lv_idiv hx hb dX1_fletcherJoined_37 (by decide) ?_
  refine lv_istore (lv' := [(7, .int (b / 256)), (6, .int (cs_rem b 256)), (5, .int (a / 256)), (4, .int (cs_rem a 256)), (0, .ref (ad 0)), (1, .int a), (2, .int b), (3, .int n)]) hx hb dX1_fletcherJoined_38 hl (by decide) rfl (fun ls hl => ?_)
  refine lv_iload hx hb dX1_fletcherJoined_40 (lv_at hl 3 rfl) ?_
  refine lv_iload hx hb dX1_fletcherJoined_42 (lv_at hl 1 rfl) ?_
  refine lv_iadd hx hb dX1_fletcherJoined_44 ?_
  refine lv_sipush (v := 255) hx hb dX1_fletcherJoined_45 (by decide) ?_
  refine lv_irem hx hb dX1_fletcherJoined_48 (by decide) ?_
  refine cs_top (y := cs_rem ((cs_rem a 256) + (cs_rem b 256)) 255) (rfl) ?_
  refine lv_istore (lv' := [(8, .int (cs_rem ((cs_rem a 256) + (cs_rem b 256)) 255)), (7, .int (b / 256)), (6, .int (cs_rem b 256)), (5, .int (a / 256)), (4, .int (cs_rem a 256)), (0, .ref (ad 0)), (1, .int a), (2, .int b), (3, .int n)]) hx hb dX1_fletcherJoined_49 hl (by decide) rfl (fun ls hl => ?_)
  refine lv_iload hx hb dX1_fletcherJoined_51 (lv_at hl 3 rfl) ?_
  refine lv_iload hx hb dX1_fletcherJoined_53 (lv_at hl 1 rfl) ?_
  refine lv_iadd hx hb dX1_fletcherJoined_55 ?_
  refine lv_i2l (v := ((a / 256) + (b / 256)).toInt64) hx hb dX1_fletcherJoined_56 rfl ?_
  refine lv_iload_n hx hb dX1_fletcherJoined_57 rfl (lv_at hl 8 rfl) ?_
  refine lv_i2l (v := n.toInt64) hx hb dX1_fletcherJoined_58 rfl ?_
  refine lv_iload hx hb dX1_fletcherJoined_59 (lv_at hl 4 rfl) ?_
  refine lv_i2l (v := (cs_rem a 256).toInt64) hx hb dX1_fletcherJoined_61 rfl ?_
  refine lv_lmul hx hb dX1_fletcherJoined_62 ?_
  refine lv_ladd hx hb dX1_fletcherJoined_63 ?_
  refine lv_ldc2 (v := 255) hx hb hown (hts (.constantLong RX1 129 255) (by decide +kernel)) dX1_fletcherJoined_64 ?_
  refine lv_lrem hx hb dX1_fletcherJoined_67 (by decide) ?_
  refine cs_topl (y := cs_remL ((((a / 256) + (b / 256)).toInt64) + (n.toInt64 * ((cs_rem a 256).toInt64))) 255) (rfl) ?_
  refine lv_l2i (v := (cs_remL ((((a / 256) + (b / 256)).toInt64) + (n.toInt64 * ((cs_rem a 256).toInt64))) 255).toInt32) hx hb dX1_fletcherJoined_68 rfl ?_
  refine lv_istore (lv' := [(9, .int ((cs_remL ((((a / 256) + (b / 256)).toInt64) + (n.toInt64 * ((cs_rem a 256).toInt64))) 255).toInt32)), (8, .int (cs_rem ((cs_rem a 256) + (cs_rem b 256)) 255)), (7, .int (b / 256)), (6, .int (cs_rem b 256)), (5, .int (a / 256)), (4, .int (cs_rem a 256)), (0, .ref (ad 0)), (1, .int a), (2, .int b), (3, .int n)]) hx hb dX1_fletcherJoined_69 hl (by decide) rfl (fun ls hl => ?_)
  refine lv_sipush (v := 256) hx hb dX1_fletcherJoined_71 (by decide) ?_
  refine lv_iload hx hb dX1_fletcherJoined_74 (lv_at hl 0 rfl) ?_
  refine lv_imul hx hb dX1_fletcherJoined_76 ?_
  refine lv_iload hx hb dX1_fletcherJoined_77 (lv_at hl 1 rfl) ?_
  refine lv_iadd hx hb dX1_fletcherJoined_79 ?_
  refine W.widen (k := 3) (n := 18) (Nat.le_of_ble_eq_true rfl) (Nat.le_of_ble_eq_true rfl) ?_
  exact vx_ret (W.iret (v := (256 * ((cs_remL ((((a / 256) + (b / 256)).toInt64) + (n.toInt64 * ((cs_rem a 256).toInt64))) 255).toInt32)) + (cs_rem ((cs_rem a 256) + (cs_rem b 256)) 255)) hx hb hr (fun t ht _ => ⟨(256 * ((cs_remL ((((a / 256) + (b / 256)).toInt64) + (n.toInt64 * ((cs_rem a 256).toInt64))) 255).toInt32)) + (cs_rem ((cs_rem a 256) + (cs_rem b 256)) 255), rfl, ⟨by unfold cs_kFlj; simp [cs_k1, cs_k2, cs_nS, cs_pl, cs_bRow, cs_bSer, cs_bDef, ok1, ok2, ok3], rfl⟩, ht⟩) (fun q h => by cases h) dX1_fletcherJoined_80)
set_option maxHeartbeats 4000000 in
set_option maxRecDepth 100000 in
theorem k_X1_adlerJoined (l : Launch) (hlf : l.stackTraces = false) (D : va_G) (S : cs_St) (ad : Nat → Nat) (cy : Nat → ClassId) (a b n : Int32) : cs_Xi l yX1_adlerJoined wsX1_adlerJoined ({ frames := 7, cells := 3, slots := 18, locals := 102 }) D (cs_tys cy) (cs_L S ad cy) [.ref (ad 0), .int a, .int b, .int n] (fun rr => cs_kAdj a b n = 0 ∧ rr = cs_vAdj a b n) (cs_E (cs_kAdj a b n) cs_IAE "" "") 3 18 := by
  refine vx_ofW (cc := cX1_adlerJoined) (maxL := 10) (ret := (some .int)) (by decide) rfl ?_
  intro pg e s m args below meth c s₁ B hml hout hv
  obtain ⟨rfl, hE, hz, hP, hK⟩ := hv
  have hx := B.exec
  have hb := B.bytes
  have hr := B.returns
  have hts := atoms_spec (ws := wsX1_adlerJoined) B.pre
  have hown : s.vm.findClass RX1 = some m.cls := findClass_of_methodNamed B.named
  have hlocks := B.notSynchronized
  have hl := lv_entry ([.ref (ad 0), .int a, .int b, .int n]) (n := 10) (Nat.le_of_ble_eq_true rfl)
  rw [lg_entry_eq]
  generalize (lg_sl ([.ref (ad 0), .int a, .int b, .int n]) ++ List.replicate (10 - (lg_sl ([.ref (ad 0), .int a, .int b, .int n])).length) Slot.unset).toArray = ls at hl ⊢
  have hl : lv_has ls 10 [(0, .ref (ad 0)), (1, .int a), (2, .int b), (3, .int n)] := hl
  refine lv_iload_n hx hb dX1_adlerJoined_0 rfl (lv_at hl 1 rfl) ?_
  refine cs_xcallv (vx_runS (As := [.int a]) (rest := []) ⟨hx, hb, hml, hown, hts⟩ (k_X1_requireAdler l hlf D S ad cy a) (va_cwS 1 hts gX1_adlerJoined_X1_requireAdler rfl rfl rfl (by decide +kernel) ⟨(Nat.le_of_ble_eq_true rfl), (Nat.le_of_ble_eq_true rfl)⟩) ⟨cs_Bx.blind, cs_Bx.at hE hz cs_none hK⟩ rfl rfl hl.1 rfl (lv_room (Nat.le_of_ble_eq_true rfl)) dX1_adlerJoined_1 ⟨(Nat.le_of_ble_eq_true rfl), (Nat.le_of_ble_eq_true rfl)⟩) (fun E ce q9 H1 h1 h2 h3 h4 h5 h6 => cs_xout hout hlocks (fun E h => Or.inl ⟨(by unfold cs_kAdj; simp [cs_k1, cs_k2, cs_nS, cs_pl, cs_bRow, cs_bSer, cs_bDef, h.2]), h.1⟩) (Nat.le_of_ble_eq_true rfl) (Nat.le_of_ble_eq_true rfl) E ce q9 H1 h1 h2 h3 h4 h5 h6) (fun ok1 => ?_)
  refine lv_iload_n hx hb dX1_adlerJoined_4 rfl (lv_at hl 2 rfl) ?_
  refine cs_xcallv (vx_runS (As := [.int b]) (rest := []) ⟨hx, hb, hml, hown, hts⟩ (k_X1_requireAdler l hlf D S ad cy b) (va_cwS 1 hts gX1_adlerJoined_X1_requireAdler rfl rfl rfl (by decide +kernel) ⟨(Nat.le_of_ble_eq_true rfl), (Nat.le_of_ble_eq_true rfl)⟩) ⟨cs_Bx.blind, cs_Bx.at hE hz cs_none hK⟩ rfl rfl hl.1 rfl (lv_room (Nat.le_of_ble_eq_true rfl)) dX1_adlerJoined_5 ⟨(Nat.le_of_ble_eq_true rfl), (Nat.le_of_ble_eq_true rfl)⟩) (fun E ce q9 H1 h1 h2 h3 h4 h5 h6 => cs_xout hout hlocks (fun E h => Or.inl ⟨(by unfold cs_kAdj; simp [cs_k1, cs_k2, cs_nS, cs_pl, cs_bRow, cs_bSer, cs_bDef, ok1, h.2]), h.1⟩) (Nat.le_of_ble_eq_true rfl) (Nat.le_of_ble_eq_true rfl) E ce q9 H1 h1 h2 h3 h4 h5 h6) (fun ok2 => ?_)
  refine lv_iload_n hx hb dX1_adlerJoined_8 rfl (lv_at hl 3 rfl) ?_
  refine cs_xcallv (vx_runS (As := [.int n]) (rest := []) ⟨hx, hb, hml, hown, hts⟩ (k_X1_requireLength l hlf D S ad cy n) (va_cwS 1 hts gX1_adlerJoined_X1_requireLength rfl rfl rfl (by decide +kernel) ⟨(Nat.le_of_ble_eq_true rfl), (Nat.le_of_ble_eq_true rfl)⟩) ⟨cs_Bx.blind, cs_Bx.at hE hz cs_none hK⟩ rfl rfl hl.1 rfl (lv_room (Nat.le_of_ble_eq_true rfl)) dX1_adlerJoined_9 ⟨(Nat.le_of_ble_eq_true rfl), (Nat.le_of_ble_eq_true rfl)⟩) (fun E ce q9 H1 h1 h2 h3 h4 h5 h6 => cs_xout hout hlocks (fun E h => Or.inl ⟨(by unfold cs_kAdj; simp [cs_k1, cs_k2, cs_nS, cs_pl, cs_bRow, cs_bSer, cs_bDef, ok1, ok2, h.2]), h.1⟩) (Nat.le_of_ble_eq_true rfl) (Nat.le_of_ble_eq_true rfl) E ce q9 H1 h1 h2 h3 h4 h5 h6) (fun ok3 => ?_)
  refine lv_iload_n hx hb dX1_adlerJoined_12 rfl (lv_at hl 1 rfl) ?_
  refine vp_callSi (W.runS (As := [.int a]) (rest := []) ⟨hx, hb, hml, hown, hts⟩ (k_X1_adlerA l D S ad cy a) (va_cwS 1 hts gX1_adlerJoined_X1_adlerA rfl rfl rfl (by decide +kernel) ⟨Nat.le_of_ble_eq_true rfl, Nat.le_of_ble_eq_true rfl⟩) ⟨cs_B.blind, cs_B.at hE cs_none hK⟩ rfl rfl hl.1 rfl (lv_room (Nat.le_of_ble_eq_true rfl)) dX1_adlerJoined_13 ⟨Nat.le_of_ble_eq_true rfl, Nat.le_of_ble_eq_true rfl⟩) (fun r_13 e_13 => ?_)
  subst e_13
  refine lv_i2l (v := (a &&& 65535).toInt64) hx hb dX1_adlerJoined_16 rfl ?_
  refine lv_lstore (lv' := [(4, .long ((a &&& 65535).toInt64)), (0, .ref (ad 0)), (1, .int a), (2, .int b), (3, .int n)]) hx hb dX1_adlerJoined_17 hl (by decide) rfl (fun ls hl => ?_)
  refine lv_lload hx hb dX1_adlerJoined_19 (lv_at hl 0 rfl) ?_
  refine lv_iload_n hx hb dX1_adlerJoined_21 rfl (lv_at hl 3 rfl) ?_
  refine vp_callSi (W.runS (As := [.int b]) (rest := [.long ((a &&& 65535).toInt64)]) ⟨hx, hb, hml, hown, hts⟩ (k_X1_adlerA l D S ad cy b) (va_cwS 1 hts gX1_adlerJoined_X1_adlerA rfl rfl rfl (by decide +kernel) ⟨Nat.le_of_ble_eq_true rfl, Nat.le_of_ble_eq_true rfl⟩) ⟨cs_B.blind, cs_B.at hE cs_none hK⟩ rfl rfl hl.1 rfl (lv_room (Nat.le_of_ble_eq_true rfl)) dX1_adlerJoined_22 ⟨Nat.le_of_ble_eq_true rfl, Nat.le_of_ble_eq_true rfl⟩) (fun r_22 e_22 => ?_)
  subst e_22
  refine lv_i2l (v := (b &&& 65535).toInt64) hx hb dX1_adlerJoined_25 rfl ?_
  refine lv_ladd hx hb dX1_adlerJoined_26 ?_
  refine lv_lconst (v := 1) hx hb dX1_adlerJoined_27 (by decide) ?_
  refine lv_lsub hx hb dX1_adlerJoined_28 ?_
  refine lv_lstore (lv' := [(6, .long ((((a &&& 65535).toInt64) + ((b &&& 65535).toInt64)) - 1)), (4, .long ((a &&& 65535).toInt64)), (0, .ref (ad 0)), (1, .int a), (2, .int b), (3, .int n)]) hx hb dX1_adlerJoined_29 hl (by decide) rfl (fun ls hl => ?_)
  refine lv_iload_n hx hb dX1_adlerJoined_31 rfl (lv_at hl 3 rfl) ?_
  refine vp_callSi (W.runS (As := [.int a]) (rest := []) ⟨hx, hb, hml, hown, hts⟩ (k_X1_adlerB l D S ad cy a) (va_cwS 1 hts gX1_adlerJoined_X1_adlerB rfl rfl rfl (by decide +kernel) ⟨Nat.le_of_ble_eq_true rfl, Nat.le_of_ble_eq_true rfl⟩) ⟨cs_B.blind, cs_B.at hE cs_none hK⟩ rfl rfl hl.1 rfl (lv_room (Nat.le_of_ble_eq_true rfl)) dX1_adlerJoined_32 ⟨Nat.le_of_ble_eq_true rfl, Nat.le_of_ble_eq_true rfl⟩) (fun r_32 e_32 => ?_)
  subst e_32
  refine lv_i2l (v := (cs_ur a 16).toInt64) hx hb dX1_adlerJoined_35 rfl ?_
  refine lv_iload_n hx hb dX1_adlerJoined_36 rfl (lv_at hl 4 rfl) ?_
  refine vp_callSi (W.runS (As := [.int b]) (rest := [.long ((cs_ur a 16).toInt64)]) ⟨hx, hb, hml, hown, hts⟩ (k_X1_adlerB l D S ad cy b) (va_cwS 1 hts gX1_adlerJoined_X1_adlerB rfl rfl rfl (by decide +kernel) ⟨Nat.le_of_ble_eq_true rfl, Nat.le_of_ble_eq_true rfl⟩) ⟨cs_B.blind, cs_B.at hE cs_none hK⟩ rfl rfl hl.1 rfl (lv_room (Nat.le_of_ble_eq_true rfl)) dX1_adlerJoined_37 ⟨Nat.le_of_ble_eq_true rfl, Nat.le_of_ble_eq_true rfl⟩) (fun r_37 e_37 => ?_)
  subst e_37
  refine lv_i2l (v := (cs_ur b 16).toInt64) hx hb dX1_adlerJoined_40 rfl ?_
  refine lv_ladd hx hb dX1_adlerJoined_41 ?_
  refine lv_iload_n hx hb dX1_adlerJoined_42 rfl (lv_at hl 5 rfl) ?_
  refine lv_i2l (v := n.toInt64) hx hb dX1_adlerJoined_43 rfl ?_
  refine lv_lload hx hb dX1_adlerJoined_44 (lv_at hl 1 rfl) ?_
  refine lv_lconst (v := 1) hx hb dX1_adlerJoined_46 (by decide) ?_
  refine lv_lsub hx hb dX1_adlerJoined_47 ?_
  refine lv_lmul hx hb dX1_adlerJoined_48 ?_
  refine lv_ladd hx hb dX1_adlerJoined_49 ?_
  refine lv_lstore (lv' := [(8, .long ((((cs_ur a 16).toInt64) + ((cs_ur b 16).toInt64)) + (n.toInt64 * (((a &&& 65535).toInt64) - 1)))), (6, .long ((((a &&& 65535).toInt64) + ((b &&& 65535).toInt64)) - 1)), (4, .long ((a &&& 65535).toInt64)), (0, .ref (ad 0)), (1, .int a), (2, .int b), (3, .int n)]) hx hb dX1_adlerJoined_50 hl (by decide) rfl (fun ls hl => ?_)
  refine lv_lload hx hb dX1_adlerJoined_52 (lv_at hl 1 rfl) ?_
  refine lv_lload hx hb dX1_adlerJoined_54 (lv_at hl 0 rfl) ?_
  refine vp_callSi (W.runS (As := [.long ((((a &&& 65535).toInt64) + ((b &&& 65535).toInt64)) - 1), .long ((((cs_ur a 16).toInt64) + ((cs_ur b 16).toInt64)) + (n.toInt64 * (((a &&& 65535).toInt64) - 1)))]) (rest := []) ⟨hx, hb, hml, hown, hts⟩ (k_X1_adlerSum l D S ad cy ((((a &&& 65535).toInt64) + ((b &&& 65535).toInt64)) - 1) ((((cs_ur a 16).toInt64) + ((cs_ur b 16).toInt64)) + (n.toInt64 * (((a &&& 65535).toInt64) - 1)))) (va_cwS 2 hts gX1_adlerJoined_X1_adlerSum rfl rfl rfl (by decide +kernel) ⟨Nat.le_of_ble_eq_true rfl, Nat.le_of_ble_eq_true rfl⟩) ⟨cs_B.blind, cs_B.at hE cs_none hK⟩ rfl rfl hl.1 rfl (lv_room (Nat.le_of_ble_eq_true rfl)) dX1_adlerJoined_56 ⟨Nat.le_of_ble_eq_true rfl, Nat.le_of_ble_eq_true rfl⟩) (fun r_56 e_56 => ?_)
  subst e_56
  refine W.widen (k := 3) (n := 18) (Nat.le_of_ble_eq_true rfl) (Nat.le_of_ble_eq_true rfl) ?_
  exact vx_ret (W.iret (v := cs_ad ((((a &&& 65535).toInt64) + ((b &&& 65535).toInt64)) - 1) ((((cs_ur a 16).toInt64) + ((cs_ur b 16).toInt64)) + (n.toInt64 * (((a &&& 65535).toInt64) - 1)))) hx hb hr (fun t ht _ => ⟨cs_ad ((((a &&& 65535).toInt64) + ((b &&& 65535).toInt64)) - 1) ((((cs_ur a 16).toInt64) + ((cs_ur b 16).toInt64)) + (n.toInt64 * (((a &&& 65535).toInt64) - 1))), rfl, ⟨by unfold cs_kAdj; simp [cs_k1, cs_k2, cs_nS, cs_pl, cs_bRow, cs_bSer, cs_bDef, ok1, ok2, ok3], cs_adjE⟩, ht⟩) (fun q h => by cases h) dX1_adlerJoined_59)
set_option maxHeartbeats 4000000 in
set_option maxRecDepth 100000 in
theorem k_X1_adlerRolled (l : Launch) (hlf : l.stackTraces = false) (D : va_G) (S : cs_St) (ad : Nat → Nat) (cy : Nat → ClassId) (a n o i : Int32) : cs_Xi l yX1_adlerRolled wsX1_adlerRolled ({ frames := 7, cells := 4, slots := 24, locals := 102 }) D (cs_tys cy) (cs_L S ad cy) [.ref (ad 0), .int a, .int n, .int o, .int i] (fun rr => cs_kAdr a n o i = 0 ∧ rr = cs_vAdr a n o i) (cs_E (cs_kAdr a n o i) cs_IAE "" "") 4 24 := by
  refine vx_ofW (cc := cX1_adlerRolled) (maxL := 9) (ret := (some .int)) (by decide) rfl ?_
  intro pg e s m args below meth c s₁ B hml hout hv
  obtain ⟨rfl, hE, hz, hP, hK⟩ := hv
  have hx := B.exec
  have hb := B.bytes
  have hr := B.returns
  have hts := atoms_spec (ws := wsX1_adlerRolled) B.pre
  have hown : s.vm.findClass RX1 = some m.cls := findClass_of_methodNamed B.named
  have hlocks := B.notSynchronized
  have hl := lv_entry ([.ref (ad 0), .int a, .int n, .int o, .int i]) (n := 9) (Nat.le_of_ble_eq_true rfl)
  rw [lg_entry_eq]
  generalize (lg_sl ([.ref (ad 0), .int a, .int n, .int o, .int i]) ++ List.replicate (9 - (lg_sl ([.ref (ad 0), .int a, .int n, .int o, .int i])).length) Slot.unset).toArray = ls at hl ⊢
  have hl : lv_has ls 9 [(0, .ref (ad 0)), (1, .int a), (2, .int n), (3, .int o), (4, .int i)] := hl
  refine lv_iload_n hx hb dX1_adlerRolled_0 rfl (lv_at hl 1 rfl) ?_
  refine cs_xcallv (vx_runS (As := [.int a]) (rest := []) ⟨hx, hb, hml, hown, hts⟩ (k_X1_requireAdler l hlf D S ad cy a) (va_cwS 1 hts gX1_adlerRolled_X1_requireAdler rfl rfl rfl (by decide +kernel) ⟨(Nat.le_of_ble_eq_true rfl), (Nat.le_of_ble_eq_true rfl)⟩) ⟨cs_Bx.blind, cs_Bx.at hE hz cs_none hK⟩ rfl rfl hl.1 rfl (lv_room (Nat.le_of_ble_eq_true rfl)) dX1_adlerRolled_1 ⟨(Nat.le_of_ble_eq_true rfl), (Nat.le_of_ble_eq_true rfl)⟩) (fun E ce q9 H1 h1 h2 h3 h4 h5 h6 => cs_xout hout hlocks (fun E h => Or.inl ⟨(by unfold cs_kAdr; simp [cs_k1, cs_k2, cs_nS, cs_pl, cs_bRow, cs_bSer, cs_bDef, h.2]), h.1⟩) (Nat.le_of_ble_eq_true rfl) (Nat.le_of_ble_eq_true rfl) E ce q9 H1 h1 h2 h3 h4 h5 h6) (fun ok1 => ?_)
  refine lv_iload_n hx hb dX1_adlerRolled_4 rfl (lv_at hl 2 rfl) ?_
  refine lv_iconst (v := 1) hx hb dX1_adlerRolled_5 (by decide) ?_
  refine lv_icmp_ge (tgt := 19) hx hb dX1_adlerRolled_6 (by decide) (fun c_6 => ?_) (fun c_6 => ?_)
  · have h0 : 1 ≤ n := c_6
    refine lv_iload_n hx hb dX1_adlerRolled_19 rfl (lv_at hl 3 rfl) ?_
    refine cs_xcallv (vx_runS (As := [.int o]) (rest := []) ⟨hx, hb, hml, hown, hts⟩ (k_X1_requireByte l hlf D S ad cy o) (va_cwS 1 hts gX1_adlerRolled_X1_requireByte rfl rfl rfl (by decide +kernel) ⟨(Nat.le_of_ble_eq_true rfl), (Nat.le_of_ble_eq_true rfl)⟩) ⟨cs_Bx.blind, cs_Bx.at hE hz cs_none hK⟩ rfl rfl hl.1 rfl (lv_room (Nat.le_of_ble_eq_true rfl)) dX1_adlerRolled_20 ⟨(Nat.le_of_ble_eq_true rfl), (Nat.le_of_ble_eq_true rfl)⟩) (fun E ce q9 H1 h1 h2 h3 h4 h5 h6 => cs_xout hout hlocks (fun E h => Or.inl ⟨(by unfold cs_kAdr; simp [cs_k1, cs_k2, cs_nS, cs_pl, cs_bRow, cs_bSer, cs_bDef, ok1, h0, h.2]), h.1⟩) (Nat.le_of_ble_eq_true rfl) (Nat.le_of_ble_eq_true rfl) E ce q9 H1 h1 h2 h3 h4 h5 h6) (fun ok2 => ?_)
    refine lv_iload hx hb dX1_adlerRolled_23 (lv_at hl 4 rfl) ?_
    refine cs_xcallv (vx_runS (As := [.int i]) (rest := []) ⟨hx, hb, hml, hown, hts⟩ (k_X1_requireByte l hlf D S ad cy i) (va_cwS 1 hts gX1_adlerRolled_X1_requireByte rfl rfl rfl (by decide +kernel) ⟨(Nat.le_of_ble_eq_true rfl), (Nat.le_of_ble_eq_true rfl)⟩) ⟨cs_Bx.blind, cs_Bx.at hE hz cs_none hK⟩ rfl rfl hl.1 rfl (lv_room (Nat.le_of_ble_eq_true rfl)) dX1_adlerRolled_25 ⟨(Nat.le_of_ble_eq_true rfl), (Nat.le_of_ble_eq_true rfl)⟩) (fun E ce q9 H1 h1 h2 h3 h4 h5 h6 => cs_xout hout hlocks (fun E h => Or.inl ⟨(by unfold cs_kAdr; simp [cs_k1, cs_k2, cs_nS, cs_pl, cs_bRow, cs_bSer, cs_bDef, ok1, h0, ok2, h.2]), h.1⟩) (Nat.le_of_ble_eq_true rfl) (Nat.le_of_ble_eq_true rfl) E ce q9 H1 h1 h2 h3 h4 h5 h6) (fun ok3 => ?_)
    obtain ⟨o9, ho9, rfl⟩ := cs_byte_of ok2
    obtain ⟨i9, hi9, rfl⟩ := cs_byte_of ok3
    refine lv_iload_n hx hb dX1_adlerRolled_28 rfl (lv_at hl 1 rfl) ?_
    refine vp_callSi (W.runS (As := [.int a]) (rest := []) ⟨hx, hb, hml, hown, hts⟩ (k_X1_adlerA l D S ad cy a) (va_cwS 1 hts gX1_adlerRolled_X1_adlerA rfl rfl rfl (by decide +kernel) ⟨Nat.le_of_ble_eq_true rfl, Nat.le_of_ble_eq_true rfl⟩) ⟨cs_B.blind, cs_B.at hE cs_none hK⟩ rfl rfl hl.1 rfl (lv_room (Nat.le_of_ble_eq_true rfl)) dX1_adlerRolled_29 ⟨Nat.le_of_ble_eq_true rfl, Nat.le_of_ble_eq_true rfl⟩) (fun r_29 e_29 => ?_)
    subst e_29
    refine lv_i2l (v := (a &&& 65535).toInt64) hx hb dX1_adlerRolled_32 rfl ?_
    refine lv_iload hx hb dX1_adlerRolled_33 (lv_at hl 4 rfl) ?_
    refine lv_i2l (v := (nI i9).toInt64) hx hb dX1_adlerRolled_35 rfl ?_
    refine lv_ladd hx hb dX1_adlerRolled_36 ?_
    refine lv_iload_n hx hb dX1_adlerRolled_37 rfl (lv_at hl 3 rfl) ?_
    refine lv_i2l (v := (nI o9).toInt64) hx hb dX1_adlerRolled_38 rfl ?_
    refine lv_lsub hx hb dX1_adlerRolled_39 ?_
    refine lv_lstore (lv' := [(5, .long ((((a &&& 65535).toInt64) + ((nI i9).toInt64)) - ((nI o9).toInt64))), (0, .ref (ad 0)), (1, .int a), (2, .int n), (3, .int (nI o9)), (4, .int (nI i9))]) hx hb dX1_adlerRolled_40 hl (by decide) rfl (fun ls hl => ?_)
    refine lv_iload_n hx hb dX1_adlerRolled_42 rfl (lv_at hl 2 rfl) ?_
    refine vp_callSi (W.runS (As := [.int a]) (rest := []) ⟨hx, hb, hml, hown, hts⟩ (k_X1_adlerB l D S ad cy a) (va_cwS 1 hts gX1_adlerRolled_X1_adlerB rfl rfl rfl (by decide +kernel) ⟨Nat.le_of_ble_eq_true rfl, Nat.le_of_ble_eq_true rfl⟩) ⟨cs_B.blind, cs_B.at hE cs_none hK⟩ rfl rfl hl.1 rfl (lv_room (Nat.le_of_ble_eq_true rfl)) dX1_adlerRolled_43 ⟨Nat.le_of_ble_eq_true rfl, Nat.le_of_ble_eq_true rfl⟩) (fun r_43 e_43 => ?_)
    subst e_43
    refine lv_i2l (v := (cs_ur a 16).toInt64) hx hb dX1_adlerRolled_46 rfl ?_
    refine lv_iload_n hx hb dX1_adlerRolled_47 rfl (lv_at hl 3 rfl) ?_
    refine lv_i2l (v := n.toInt64) hx hb dX1_adlerRolled_48 rfl ?_
    refine lv_iload_n hx hb dX1_adlerRolled_49 rfl (lv_at hl 4 rfl) ?_
    refine lv_i2l (v := (nI o9).toInt64) hx hb dX1_adlerRolled_50 rfl ?_
    refine lv_lmul hx hb dX1_adlerRolled_51 ?_
    refine lv_lsub hx hb dX1_adlerRolled_52 ?_
    refine lv_lload hx hb dX1_adlerRolled_53 (lv_at hl 0 rfl) ?_
    refine lv_ladd hx hb dX1_adlerRolled_55 ?_
    refine lv_lconst (v := 1) hx hb dX1_adlerRolled_56 (by decide) ?_
    refine lv_lsub hx hb dX1_adlerRolled_57 ?_
    refine lv_lstore (lv' := [(7, .long (((((cs_ur a 16).toInt64) - (n.toInt64 * ((nI o9).toInt64))) + ((((a &&& 65535).toInt64) + ((nI i9).toInt64)) - ((nI o9).toInt64))) - 1)), (5, .long ((((a &&& 65535).toInt64) + ((nI i9).toInt64)) - ((nI o9).toInt64))), (0, .ref (ad 0)), (1, .int a), (2, .int n), (3, .int (nI o9)), (4, .int (nI i9))]) hx hb dX1_adlerRolled_58 hl (by decide) rfl (fun ls hl => ?_)
    refine lv_lload hx hb dX1_adlerRolled_60 (lv_at hl 1 rfl) ?_
    refine lv_lload hx hb dX1_adlerRolled_62 (lv_at hl 0 rfl) ?_
    refine vp_callSi (W.runS (As := [.long ((((a &&& 65535).toInt64) + ((nI i9).toInt64)) - ((nI o9).toInt64)), .long (((((cs_ur a 16).toInt64) - (n.toInt64 * ((nI o9).toInt64))) + ((((a &&& 65535).toInt64) + ((nI i9).toInt64)) - ((nI o9).toInt64))) - 1)]) (rest := []) ⟨hx, hb, hml, hown, hts⟩ (k_X1_adlerSum l D S ad cy ((((a &&& 65535).toInt64) + ((nI i9).toInt64)) - ((nI o9).toInt64)) (((((cs_ur a 16).toInt64) - (n.toInt64 * ((nI o9).toInt64))) + ((((a &&& 65535).toInt64) + ((nI i9).toInt64)) - ((nI o9).toInt64))) - 1)) (va_cwS 2 hts gX1_adlerRolled_X1_adlerSum rfl rfl rfl (by decide +kernel) ⟨Nat.le_of_ble_eq_true rfl, Nat.le_of_ble_eq_true rfl⟩) ⟨cs_B.blind, cs_B.at hE cs_none hK⟩ rfl rfl hl.1 rfl (lv_room (Nat.le_of_ble_eq_true rfl)) dX1_adlerRolled_64 ⟨Nat.le_of_ble_eq_true rfl, Nat.le_of_ble_eq_true rfl⟩) (fun r_64 e_64 => ?_)
    subst e_64
    refine W.widen (k := 4) (n := 24) (Nat.le_of_ble_eq_true rfl) (Nat.le_of_ble_eq_true rfl) ?_
    exact vx_ret (W.iret (v := cs_ad ((((a &&& 65535).toInt64) + ((nI i9).toInt64)) - ((nI o9).toInt64)) (((((cs_ur a 16).toInt64) - (n.toInt64 * ((nI o9).toInt64))) + ((((a &&& 65535).toInt64) + ((nI i9).toInt64)) - ((nI o9).toInt64))) - 1)) hx hb hr (fun t ht _ => ⟨cs_ad ((((a &&& 65535).toInt64) + ((nI i9).toInt64)) - ((nI o9).toInt64)) (((((cs_ur a 16).toInt64) - (n.toInt64 * ((nI o9).toInt64))) + ((((a &&& 65535).toInt64) + ((nI i9).toInt64)) - ((nI o9).toInt64))) - 1), rfl, ⟨by unfold cs_kAdr; simp [cs_k1, cs_k2, cs_nS, cs_pl, cs_bRow, cs_bSer, cs_bDef, ok1, h0, ok2, ok3], cs_adrE ho9 hi9⟩, ht⟩) (fun q h => by cases h) dX1_adlerRolled_67)
  · exact cs_throw (cls := cs_IAE) (text := "window is less than 1") hx hb hlf hown hts (by decide +kernel) cs_at1 hE hE.2.1.1 cs_ot1 (fun _ h => by unfold wsX1_adlerRolled; exact List.mem_cons_of_mem _ (List.mem_append_right _ (h))) (by decide +kernel) (by decide +kernel) (hE.2.2 (145, "window is less than 1") (by decide +kernel)) hz (hl.1.trans hml.symm) dX1_adlerRolled_9 dX1_adlerRolled_12 dX1_adlerRolled_13 dX1_adlerRolled_15 dX1_adlerRolled_18 hout (Nat.le_of_ble_eq_true rfl) (Nat.le_of_ble_eq_true rfl) (Nat.le_of_ble_eq_true rfl) (Nat.le_of_ble_eq_true rfl) hlocks (Or.inl ⟨(by unfold cs_kAdr; simp [cs_k1, cs_k2, cs_nS, cs_pl, cs_bRow, cs_bSer, cs_bDef, ok1, c_6]), rfl⟩) (Nat.le_of_ble_eq_true rfl) (Nat.le_of_ble_eq_true rfl)
