set_option maxHeartbeats 4000000 in
set_option maxRecDepth 100000 in
theorem k_X2_joined (l : Launch) (D : va_G) (S : cs_St) (th : Int32) (bd : Nat → Nat) (cy : Nat → ClassId) (sz : Nat) (hS : cs_ok S) (v a b n : Int32) : cs_Mw l yX2_joined wsX2_joined ({ frames := 3, cells := 0, slots := 0, locals := 75 }) D (cs_tys cy) (cs_R S th bd cy) sz [.ref (bd 0), .int v, .int a, .int b, .int n] (fun (_ : Unit) => cs_R S (cs_kJoi S v a b n) bd cy) (fun rr _ => cs_kJoi S v a b n = 0 → rr = cs_vJoi S v a b n) := by
  refine Met.ofW (cc := cX2_joined) (maxL := 8) (ret := (some .int)) (by decide) rfl ?_
  intro pg e s m args below meth c s₁ B hml hv
  obtain ⟨rfl, hsz, hE, hP, hK, hD0⟩ := hv
  subst hsz
  have hD := hD0.self (sz := s.heap.size)
  have hA : ∀ q : Nat, s.heap.size ≤ q → va_A (cs_R S th bd cy) s.heap.size q := fun q h => Or.inr h
  have hS9 : va_S (va_A (cs_R S th bd cy) s.heap.size) s.heap s.heap [] := va_S.rf
  have hx := B.exec
  have hb := B.bytes
  have hr := B.returns
  have hts := atoms_spec (ws := wsX2_joined) B.pre
  have hown : s.vm.findClass RX2 = some m.cls := findClass_of_methodNamed B.named
  have hlocks := B.notSynchronized
  have hl := lv_entry ([.ref (bd 0), .int v, .int a, .int b, .int n]) (n := 8) (Nat.le_of_ble_eq_true rfl)
  rw [lg_entry_eq]
  generalize (lg_sl ([.ref (bd 0), .int v, .int a, .int b, .int n]) ++ List.replicate (8 - (lg_sl ([.ref (bd 0), .int v, .int a, .int b, .int n])).length) Slot.unset).toArray = ls at hl ⊢
  have hl : lv_has ls 8 [(0, .ref (bd 0)), (1, .int v), (2, .int a), (3, .int b), (4, .int n)] := hl
  have hinX2 : ∀ w ∈ wsX20, w ∈ wsX2_joined := fun _ h => by unfold wsX2_joined; exact List.mem_cons_of_mem _ (List.mem_append_right _ h)
  have h6 := hS.1
  refine lv_aload_n hx hb dX2_joined_0 rfl (lv_at hl 0 rfl) ?_
  refine lv_iload_n hx hb dX2_joined_1 rfl (lv_at hl 1 rfl) ?_
  refine vp_callSi (W.runV (As := [.int v]) (rest := []) ⟨hx, hb, hml, hown, hts⟩ (k_X2_isModel l D S th bd cy  v) (cwV 1 hts gX2_joined_X2_isModel rfl rfl rfl (by decide +kernel) ⟨Nat.le_of_ble_eq_true rfl, Nat.le_of_ble_eq_true rfl⟩) ⟨cs_B.blind, va_recv hK hP (ci := 2) (q0 := 0) rfl rfl, cs_B.at hE hP hK⟩ rfl rfl hl.1 rfl (lv_room (Nat.le_of_ble_eq_true rfl)) dX2_joined_2 ⟨Nat.le_of_ble_eq_true rfl, Nat.le_of_ble_eq_true rfl⟩) (fun r_2 e_2 => ?_)
  subst e_2
  refine cs_top (y := cs_z (cs_M S v)) rfl ?_
  refine lv_istore (lv' := [(5, .int (cs_z (cs_M S v))), (0, .ref (bd 0)), (1, .int v), (2, .int a), (3, .int b), (4, .int n)]) hx hb dX2_joined_5 hl (by decide) rfl (fun ls hl => ?_)
  have j43 : W pg l e (headSpec wsX2_joined ({ frames := 3, cells := 0, slots := 0, locals := 75 })).room s m [Value.ref (bd 0), Value.int v, Value.int a, Value.int b, Value.int n].toArray below meth c s.heap [] 0 0 (MQ below (cs_Qw D (cs_R S th bd cy) (fun (_ : Unit) => cs_R S (cs_kJoi S v a b n) bd cy) (fun rr _ => cs_kJoi S v a b n = 0 → rr = cs_vJoi S v a b n)) [Value.ref (bd 0), Value.int v, Value.int a, Value.int b, Value.int n].toArray s 0 0 (va_A (cs_R S th bd cy) s.heap.size)) (F0 m 43 ls [.int (cs_z (cs_M S v && cs_nS S v a && cs_nS S v b && decide (0 ≤ n))), .int (cs_z (cs_M S v)), .ref (bd 0)]) := by
    have hF := cs_inW hD hS9 hA
    refine cs_wcalli (va_runV (As := [.int (cs_z (cs_M S v)), .int (cs_z (cs_M S v && cs_nS S v a && cs_nS S v b && decide (0 ≤ n)))]) (rest := []) ⟨hx, hb, hml, hown, hts⟩ (k_X2_asked_ l D S th bd cy s.heap.size (cs_M S v) (cs_M S v && cs_nS S v a && cs_nS S v b && decide (0 ≤ n))) (cwV 2 hts gX2_joined_X2_asked_ rfl rfl rfl (by decide +kernel) ⟨Nat.le_of_ble_eq_true rfl, Nat.le_of_ble_eq_true rfl⟩) ⟨cs_Bw.blind, va_recv hK hP (ci := 2) (q0 := 0) rfl rfl, cs_Bw.at hE hP hK hD⟩ rfl rfl hl.1 rfl (lv_room (Nat.le_of_ble_eq_true rfl)) dX2_joined_43 ⟨Nat.le_of_ble_eq_true rfl, Nat.le_of_ble_eq_true rfl⟩) hS9 hF (fun r_43 u9 H locs hp hP hD1 hz hk1 hS9 => ?_)
    have hP : va_P D vwCl (cs_R S (cs_k2 (cs_M S v) (cs_M S v && cs_nS S v a && cs_nS S v b && decide (0 ≤ n))) bd cy) H := hP
    have hD : va_D (va_A (cs_R S th bd cy) s.heap.size) (cs_R S (cs_k2 (cs_M S v) (cs_M S v && cs_nS S v a && cs_nS S v b && decide (0 ≤ n))) bd cy) := hD1.weaken (fun k q _ h => hF q.1 h)
    subst hp
    refine cs_ifne (tgt := 51) hx hb dX2_joined_46 (by decide) (fun c_46 => ?_) (fun c_46 => ?_)
    · have hm := (cs_and c_46).1
      obtain ⟨k, hk, rfl⟩ := cs_mod_of hS hm
      have hk31 : k < 2 ^ 31 := by omega
      obtain ⟨hw1, hw2⟩ := hS.2.1 k hk
      refine lv_aload_n hx hb dX2_joined_51 rfl (lv_at hl 1 rfl) ?_
      refine lv_iload_n hx hb dX2_joined_52 rfl (lv_at hl 2 rfl) ?_
      refine lv_iload_n hx hb dX2_joined_53 rfl (lv_at hl 3 rfl) ?_
      refine vp_callSi (W.runV (As := [.int (nI k), .int a]) (rest := []) ⟨hx, hb, hml, hown, hts⟩ (k_X2_registerOf l D S (cs_k2 (cs_M S (nI k)) (cs_M S (nI k) && cs_nS S (nI k) a && cs_nS S (nI k) b && decide (0 ≤ n))) bd cy hS k hk a) (cwV 2 hts gX2_joined_X2_registerOf rfl rfl rfl (by decide +kernel) ⟨Nat.le_of_ble_eq_true rfl, Nat.le_of_ble_eq_true rfl⟩) ⟨cs_B.blind, va_recv hK hP (ci := 2) (q0 := 0) rfl rfl, cs_B.at hE hP hK⟩ rfl rfl hl.1 rfl (lv_room (Nat.le_of_ble_eq_true rfl)) dX2_joined_54 ⟨Nat.le_of_ble_eq_true rfl, Nat.le_of_ble_eq_true rfl⟩) (fun r_54 e_54 => ?_)
      subst e_54
      refine lv_aload_n hx hb dX2_joined_57 rfl (lv_at hl 1 rfl) ?_
      refine va_get (D := D) (ci := 2) (v := .ref (bd 3)) (C := RX2) (T := TX2) (N := 10) hx hb hts hinX2 hown hK hP 0 cs_R0 rfl 2 (by decide) (hts (.fieldLink RX2 16 "ChecksumLabModel" "init" "[I") (by decide +kernel)) (fun _ h9 => h9) rfl dX2_joined_58 ?_
      refine lv_iload_n hx hb dX2_joined_61 rfl (lv_at hl 2 rfl) ?_
      refine cs_iald hx hb hK hP 3 0 cs_R3 rfl (k := k) (by omega) (by decide) dX2_joined_62 ?_
      refine lv_ixor hx hb dX2_joined_63 ?_
      refine lv_istore (lv' := [(6, .int ((cs_so (cs_ro S k) (cs_w S k) (a ^^^ cs_x S k)) ^^^ (cs_i S k))), (5, .int (cs_z (cs_M S (nI k)))), (0, .ref (bd 0)), (1, .int (nI k)), (2, .int a), (3, .int b), (4, .int n)]) hx hb dX2_joined_64 hl (by decide) rfl (fun ls hl => ?_)
      refine lv_aload_n hx hb dX2_joined_66 rfl (lv_at hl 2 rfl) ?_
      refine lv_iload_n hx hb dX2_joined_67 rfl (lv_at hl 3 rfl) ?_
      refine lv_iload_n hx hb dX2_joined_68 rfl (lv_at hl 5 rfl) ?_
      refine vp_callSi (W.runV (As := [.int (nI k), .int b]) (rest := []) ⟨hx, hb, hml, hown, hts⟩ (k_X2_registerOf l D S (cs_k2 (cs_M S (nI k)) (cs_M S (nI k) && cs_nS S (nI k) a && cs_nS S (nI k) b && decide (0 ≤ n))) bd cy hS k hk b) (cwV 2 hts gX2_joined_X2_registerOf rfl rfl rfl (by decide +kernel) ⟨Nat.le_of_ble_eq_true rfl, Nat.le_of_ble_eq_true rfl⟩) ⟨cs_B.blind, va_recv hK hP (ci := 2) (q0 := 0) rfl rfl, cs_B.at hE hP hK⟩ rfl rfl hl.1 rfl (lv_room (Nat.le_of_ble_eq_true rfl)) dX2_joined_69 ⟨Nat.le_of_ble_eq_true rfl, Nat.le_of_ble_eq_true rfl⟩) (fun r_69 e_69 => ?_)
      subst e_69
      refine lv_istore (lv' := [(7, .int (cs_so (cs_ro S k) (cs_w S k) (b ^^^ cs_x S k))), (6, .int ((cs_so (cs_ro S k) (cs_w S k) (a ^^^ cs_x S k)) ^^^ (cs_i S k))), (5, .int (cs_z (cs_M S (nI k)))), (0, .ref (bd 0)), (1, .int (nI k)), (2, .int a), (3, .int b), (4, .int n)]) hx hb dX2_joined_72 hl (by decide) rfl (fun ls hl => ?_)
      refine lv_aload_n hx hb dX2_joined_74 rfl (lv_at hl 3 rfl) ?_
      refine lv_iload_n hx hb dX2_joined_75 rfl (lv_at hl 4 rfl) ?_
      refine lv_iload hx hb dX2_joined_76 (lv_at hl 0 rfl) ?_
      refine lv_aload_n hx hb dX2_joined_78 rfl (lv_at hl 3 rfl) ?_
      refine lv_iload_n hx hb dX2_joined_79 rfl (lv_at hl 4 rfl) ?_
      refine lv_iload hx hb dX2_joined_80 (lv_at hl 1 rfl) ?_
      refine lv_aload_n hx hb dX2_joined_82 rfl (lv_at hl 3 rfl) ?_
      refine lv_iload_n hx hb dX2_joined_83 rfl (lv_at hl 4 rfl) ?_
      refine lv_ldc2 (v := 8) hx hb hown (hts (.constantLong RX2 106 8) (by decide +kernel)) dX2_joined_84 ?_
      refine lv_iload hx hb dX2_joined_87 (lv_at hl 7 rfl) ?_
      refine lv_i2l (v := n.toInt64) hx hb dX2_joined_89 rfl ?_
      refine lv_lmul hx hb dX2_joined_90 ?_
      refine vp_callSi (W.runV (As := [.int (nI k), .long (8 * n.toInt64)]) (rest := [.int ((cs_so (cs_ro S k) (cs_w S k) (a ^^^ cs_x S k)) ^^^ (cs_i S k)), .int (nI k), .ref (bd 0), .int (cs_so (cs_ro S k) (cs_w S k) (b ^^^ cs_x S k)), .int (nI k), .ref (bd 0)]) ⟨hx, hb, hml, hown, hts⟩ (k_X2_powerOf l D S (cs_k2 (cs_M S (nI k)) (cs_M S (nI k) && cs_nS S (nI k) a && cs_nS S (nI k) b && decide (0 ≤ n))) bd cy hS k hk (8 * n.toInt64)) (cwV 2 hts gX2_joined_X2_powerOf rfl rfl rfl (by decide +kernel) ⟨Nat.le_of_ble_eq_true rfl, Nat.le_of_ble_eq_true rfl⟩) ⟨cs_B.blind, va_recv hK hP (ci := 2) (q0 := 0) rfl rfl, cs_B.at hE hP hK⟩ rfl rfl hl.1 rfl (lv_room (Nat.le_of_ble_eq_true rfl)) dX2_joined_91 ⟨Nat.le_of_ble_eq_true rfl, Nat.le_of_ble_eq_true rfl⟩) (fun r_91 e_91 => ?_)
      subst e_91
      refine lv_aload_n hx hb dX2_joined_94 rfl (lv_at hl 3 rfl) ?_
      refine va_get (D := D) (ci := 2) (v := .ref (bd 1)) (C := RX2) (T := TX2) (N := 10) hx hb hts hinX2 hown hK hP 0 cs_R0 rfl 0 (by decide) (hts (.fieldLink RX2 7 "ChecksumLabModel" "width" "[I") (by decide +kernel)) (fun _ h9 => h9) rfl dX2_joined_95 ?_
      refine lv_iload_n hx hb dX2_joined_98 rfl (lv_at hl 4 rfl) ?_
      refine cs_iald hx hb hK hP 1 0 cs_R1 rfl (k := k) (by omega) (by decide) dX2_joined_99 ?_
      refine vp_callSi (W.runV (As := [.int (nI k), .int ((cs_so (cs_ro S k) (cs_w S k) (a ^^^ cs_x S k)) ^^^ (cs_i S k)), .int (cs_pow (cs_w S k) (cs_p S k) (8 * n.toInt64)), .int (nI (cs_w S k))]) (rest := [.int (cs_so (cs_ro S k) (cs_w S k) (b ^^^ cs_x S k)), .int (nI k), .ref (bd 0)]) ⟨hx, hb, hml, hown, hts⟩ (k_X2_times l D S (cs_k2 (cs_M S (nI k)) (cs_M S (nI k) && cs_nS S (nI k) a && cs_nS S (nI k) b && decide (0 ≤ n))) bd cy hS k hk ((cs_so (cs_ro S k) (cs_w S k) (a ^^^ cs_x S k)) ^^^ (cs_i S k)) (cs_pow (cs_w S k) (cs_p S k) (8 * n.toInt64)) (cs_w S k) hw2) (cwV 4 hts gX2_joined_X2_times rfl rfl rfl (by decide +kernel) ⟨Nat.le_of_ble_eq_true rfl, Nat.le_of_ble_eq_true rfl⟩) ⟨cs_B.blind, va_recv hK hP (ci := 2) (q0 := 0) rfl rfl, cs_B.at hE hP hK⟩ rfl rfl hl.1 rfl (lv_room (Nat.le_of_ble_eq_true rfl)) dX2_joined_100 ⟨Nat.le_of_ble_eq_true rfl, Nat.le_of_ble_eq_true rfl⟩) (fun r_100 e_100 => ?_)
      subst e_100
      refine lv_ixor hx hb dX2_joined_103 ?_
      refine vp_callSi (W.runV (As := [.int (nI k), .int ((cs_so (cs_ro S k) (cs_w S k) (b ^^^ cs_x S k)) ^^^ (cs_mul (cs_w S k) (cs_p S k) ((cs_so (cs_ro S k) (cs_w S k) (a ^^^ cs_x S k)) ^^^ (cs_i S k)) (cs_pow (cs_w S k) (cs_p S k) (8 * n.toInt64)) (cs_w S k)))]) (rest := []) ⟨hx, hb, hml, hown, hts⟩ (k_X2_sumOf l D S (cs_k2 (cs_M S (nI k)) (cs_M S (nI k) && cs_nS S (nI k) a && cs_nS S (nI k) b && decide (0 ≤ n))) bd cy hS k hk ((cs_so (cs_ro S k) (cs_w S k) (b ^^^ cs_x S k)) ^^^ (cs_mul (cs_w S k) (cs_p S k) ((cs_so (cs_ro S k) (cs_w S k) (a ^^^ cs_x S k)) ^^^ (cs_i S k)) (cs_pow (cs_w S k) (cs_p S k) (8 * n.toInt64)) (cs_w S k)))) (cwV 2 hts gX2_joined_X2_sumOf rfl rfl rfl (by decide +kernel) ⟨Nat.le_of_ble_eq_true rfl, Nat.le_of_ble_eq_true rfl⟩) ⟨cs_B.blind, va_recv hK hP (ci := 2) (q0 := 0) rfl rfl, cs_B.at hE hP hK⟩ rfl rfl hl.1 rfl (lv_room (Nat.le_of_ble_eq_true rfl)) dX2_joined_104 ⟨Nat.le_of_ble_eq_true rfl, Nat.le_of_ble_eq_true rfl⟩) (fun r_104 e_104 => ?_)
      subst e_104
      exact W.iret (v := cs_so (cs_ro S k) (cs_w S k) ((cs_so (cs_ro S k) (cs_w S k) (b ^^^ cs_x S k)) ^^^ (cs_mul (cs_w S k) (cs_p S k) ((cs_so (cs_ro S k) (cs_w S k) (a ^^^ cs_x S k)) ^^^ (cs_i S k)) (cs_pow (cs_w S k) (cs_p S k) (8 * n.toInt64)) (cs_w S k))) ^^^ cs_x S k) hx hb hr (fun t ht _ => ⟨cs_so (cs_ro S k) (cs_w S k) ((cs_so (cs_ro S k) (cs_w S k) (b ^^^ cs_x S k)) ^^^ (cs_mul (cs_w S k) (cs_p S k) ((cs_so (cs_ro S k) (cs_w S k) (a ^^^ cs_x S k)) ^^^ (cs_i S k)) (cs_pow (cs_w S k) (cs_p S k) (8 * n.toInt64)) (cs_w S k))) ^^^ cs_x S k, (), rfl, fun _ => by unfold cs_vJoi cs_sum cs_reg; rw [cs_cI hk31], by rw [ht]; exact hP, by exact hD, hS9.F ht⟩) hS9.2.2 dX2_joined_107
    · refine lv_iconst (v := 0) hx hb dX2_joined_49 (by decide) ?_
      exact W.iret (v := 0) hx hb hr (fun t ht _ => ⟨0, (), rfl, fun z => absurd (cs_k2_0.mp z) (by rw [c_46]; decide), by rw [ht]; exact hP, by exact hD, hS9.F ht⟩) hS9.2.2 dX2_joined_50
  refine lv_aload_n hx hb dX2_joined_7 rfl (lv_at hl 1 rfl) ?_
  refine lv_iload hx hb dX2_joined_8 (lv_at hl 0 rfl) ?_
  refine lv_iload hx hb dX2_joined_10 (lv_at hl 0 rfl) ?_
  refine cs_ifeq (tgt := 42) hx hb dX2_joined_12 (by decide) (fun c_12 => ?_) (fun c_12 => ?_)
  · refine lv_iconst (v := 0) hx hb dX2_joined_42 (by decide) ?_
    refine cs_top (y := cs_z (cs_M S v && cs_nS S v a && cs_nS S v b && decide (0 ≤ n))) (by simp [cs_z, cs_nS, c_12]) ?_
    exact j43
  · obtain ⟨k, hk, rfl⟩ := cs_mod_of hS c_12
    have hk31 : k < 2 ^ 31 := by omega
    refine lv_aload_n hx hb dX2_joined_15 rfl (lv_at hl 1 rfl) ?_
    refine lv_iload_n hx hb dX2_joined_16 rfl (lv_at hl 2 rfl) ?_
    refine lv_iload_n hx hb dX2_joined_17 rfl (lv_at hl 3 rfl) ?_
    refine vp_callSi (W.runV (As := [.int (nI k), .int a]) (rest := [.int (cs_z (cs_M S (nI k))), .ref (bd 0)]) ⟨hx, hb, hml, hown, hts⟩ (k_X2_isNumber l D S th bd cy hS k hk a) (cwV 2 hts gX2_joined_X2_isNumber rfl rfl rfl (by decide +kernel) ⟨Nat.le_of_ble_eq_true rfl, Nat.le_of_ble_eq_true rfl⟩) ⟨cs_B.blind, va_recv hK hP (ci := 2) (q0 := 0) rfl rfl, cs_B.at hE hP hK⟩ rfl rfl hl.1 rfl (lv_room (Nat.le_of_ble_eq_true rfl)) dX2_joined_18 ⟨Nat.le_of_ble_eq_true rfl, Nat.le_of_ble_eq_true rfl⟩) (fun r_18 e_18 => ?_)
    subst e_18
    refine cs_ifeq (tgt := 42) hx hb dX2_joined_21 (by decide) (fun c_21 => ?_) (fun c_21 => ?_)
    · refine lv_iconst (v := 0) hx hb dX2_joined_42 (by decide) ?_
      refine cs_top (y := cs_z (cs_M S (nI k) && cs_nS S (nI k) a && cs_nS S (nI k) b && decide (0 ≤ n))) (by simp [cs_z, cs_nS, cs_cI hk31, c_12, c_21]) ?_
      exact j43
    · refine lv_aload_n hx hb dX2_joined_24 rfl (lv_at hl 1 rfl) ?_
      refine lv_iload_n hx hb dX2_joined_25 rfl (lv_at hl 2 rfl) ?_
      refine lv_iload_n hx hb dX2_joined_26 rfl (lv_at hl 4 rfl) ?_
      refine vp_callSi (W.runV (As := [.int (nI k), .int b]) (rest := [.int (cs_z (cs_M S (nI k))), .ref (bd 0)]) ⟨hx, hb, hml, hown, hts⟩ (k_X2_isNumber l D S th bd cy hS k hk b) (cwV 2 hts gX2_joined_X2_isNumber rfl rfl rfl (by decide +kernel) ⟨Nat.le_of_ble_eq_true rfl, Nat.le_of_ble_eq_true rfl⟩) ⟨cs_B.blind, va_recv hK hP (ci := 2) (q0 := 0) rfl rfl, cs_B.at hE hP hK⟩ rfl rfl hl.1 rfl (lv_room (Nat.le_of_ble_eq_true rfl)) dX2_joined_27 ⟨Nat.le_of_ble_eq_true rfl, Nat.le_of_ble_eq_true rfl⟩) (fun r_27 e_27 => ?_)
      subst e_27
      refine cs_ifeq (tgt := 42) hx hb dX2_joined_30 (by decide) (fun c_30 => ?_) (fun c_30 => ?_)
      · refine lv_iconst (v := 0) hx hb dX2_joined_42 (by decide) ?_
        refine cs_top (y := cs_z (cs_M S (nI k) && cs_nS S (nI k) a && cs_nS S (nI k) b && decide (0 ≤ n))) (by simp [cs_z, cs_nS, cs_cI hk31, c_12, c_21, c_30]) ?_
        exact j43
      · refine lv_iload hx hb dX2_joined_33 (lv_at hl 5 rfl) ?_
        refine lv_if_lt (tgt := 42) hx hb dX2_joined_35 (by decide) (fun c_35 => ?_) (fun c_35 => ?_)
        · refine lv_iconst (v := 0) hx hb dX2_joined_42 (by decide) ?_
          refine cs_top (y := cs_z (cs_M S (nI k) && cs_nS S (nI k) a && cs_nS S (nI k) b && decide (0 ≤ n))) (by simp [cs_z, cs_nS, cs_cI hk31, c_12, c_21, c_30, decide_eq_false (Int32.not_le.mpr c_35)]) ?_
          exact j43
        · refine lv_iconst (v := 1) hx hb dX2_joined_38 (by decide) ?_
          refine lv_goto (tgt := 43) hx hb dX2_joined_39 (by decide) ?_
          refine cs_top (y := cs_z (cs_M S (nI k) && cs_nS S (nI k) a && cs_nS S (nI k) b && decide (0 ≤ n))) (by simp [cs_z, cs_nS, cs_cI hk31, c_12, c_21, c_30, decide_eq_true (Int32.not_lt.mp c_35)]) ?_
          exact j43
set_option maxHeartbeats 4000000 in
set_option maxRecDepth 100000 in
theorem k_X2_patched (l : Launch) (D : va_G) (S : cs_St) (th : Int32) (bd : Nat → Nat) (cy : Nat → ClassId) (sz : Nat) (hS : cs_ok S) (v a n d : Int32) : cs_Mw l yX2_patched wsX2_patched ({ frames := 3, cells := 0, slots := 0, locals := 75 }) D (cs_tys cy) (cs_R S th bd cy) sz [.ref (bd 0), .int v, .int a, .int n, .int d] (fun (_ : Unit) => cs_R S (cs_kPat S v a n d) bd cy) (fun rr _ => cs_kPat S v a n d = 0 → rr = cs_vPat S v a n d) := by
  refine Met.ofW (cc := cX2_patched) (maxL := 8) (ret := (some .int)) (by decide) rfl ?_
  intro pg e s m args below meth c s₁ B hml hv
  obtain ⟨rfl, hsz, hE, hP, hK, hD0⟩ := hv
  subst hsz
  have hD := hD0.self (sz := s.heap.size)
  have hA : ∀ q : Nat, s.heap.size ≤ q → va_A (cs_R S th bd cy) s.heap.size q := fun q h => Or.inr h
  have hS9 : va_S (va_A (cs_R S th bd cy) s.heap.size) s.heap s.heap [] := va_S.rf
  have hx := B.exec
  have hb := B.bytes
  have hr := B.returns
  have hts := atoms_spec (ws := wsX2_patched) B.pre
  have hown : s.vm.findClass RX2 = some m.cls := findClass_of_methodNamed B.named
  have hlocks := B.notSynchronized
  have hl := lv_entry ([.ref (bd 0), .int v, .int a, .int n, .int d]) (n := 8) (Nat.le_of_ble_eq_true rfl)
  rw [lg_entry_eq]
  generalize (lg_sl ([.ref (bd 0), .int v, .int a, .int n, .int d]) ++ List.replicate (8 - (lg_sl ([.ref (bd 0), .int v, .int a, .int n, .int d])).length) Slot.unset).toArray = ls at hl ⊢
  have hl : lv_has ls 8 [(0, .ref (bd 0)), (1, .int v), (2, .int a), (3, .int n), (4, .int d)] := hl
  have hinX2 : ∀ w ∈ wsX20, w ∈ wsX2_patched := fun _ h => by unfold wsX2_patched; exact List.mem_cons_of_mem _ (List.mem_append_right _ h)
  have h6 := hS.1
  refine lv_aload_n hx hb dX2_patched_0 rfl (lv_at hl 0 rfl) ?_
  refine lv_iload_n hx hb dX2_patched_1 rfl (lv_at hl 1 rfl) ?_
  refine vp_callSi (W.runV (As := [.int v]) (rest := []) ⟨hx, hb, hml, hown, hts⟩ (k_X2_isModel l D S th bd cy  v) (cwV 1 hts gX2_patched_X2_isModel rfl rfl rfl (by decide +kernel) ⟨Nat.le_of_ble_eq_true rfl, Nat.le_of_ble_eq_true rfl⟩) ⟨cs_B.blind, va_recv hK hP (ci := 2) (q0 := 0) rfl rfl, cs_B.at hE hP hK⟩ rfl rfl hl.1 rfl (lv_room (Nat.le_of_ble_eq_true rfl)) dX2_patched_2 ⟨Nat.le_of_ble_eq_true rfl, Nat.le_of_ble_eq_true rfl⟩) (fun r_2 e_2 => ?_)
  subst e_2
  refine cs_top (y := cs_z (cs_M S v)) rfl ?_
  refine lv_istore (lv' := [(5, .int (cs_z (cs_M S v))), (0, .ref (bd 0)), (1, .int v), (2, .int a), (3, .int n), (4, .int d)]) hx hb dX2_patched_5 hl (by decide) rfl (fun ls hl => ?_)
  have j41 : W pg l e (headSpec wsX2_patched ({ frames := 3, cells := 0, slots := 0, locals := 75 })).room s m [Value.ref (bd 0), Value.int v, Value.int a, Value.int n, Value.int d].toArray below meth c s.heap [] 0 0 (MQ below (cs_Qw D (cs_R S th bd cy) (fun (_ : Unit) => cs_R S (cs_kPat S v a n d) bd cy) (fun rr _ => cs_kPat S v a n d = 0 → rr = cs_vPat S v a n d)) [Value.ref (bd 0), Value.int v, Value.int a, Value.int n, Value.int d].toArray s 0 0 (va_A (cs_R S th bd cy) s.heap.size)) (F0 m 41 ls [.int (cs_z (cs_M S v && cs_nS S v a && decide (0 ≤ n) && cs_in d 0 255)), .int (cs_z (cs_M S v)), .ref (bd 0)]) := by
    have hF := cs_inW hD hS9 hA
    refine cs_wcalli (va_runV (As := [.int (cs_z (cs_M S v)), .int (cs_z (cs_M S v && cs_nS S v a && decide (0 ≤ n) && cs_in d 0 255))]) (rest := []) ⟨hx, hb, hml, hown, hts⟩ (k_X2_asked_ l D S th bd cy s.heap.size (cs_M S v) (cs_M S v && cs_nS S v a && decide (0 ≤ n) && cs_in d 0 255)) (cwV 2 hts gX2_patched_X2_asked_ rfl rfl rfl (by decide +kernel) ⟨Nat.le_of_ble_eq_true rfl, Nat.le_of_ble_eq_true rfl⟩) ⟨cs_Bw.blind, va_recv hK hP (ci := 2) (q0 := 0) rfl rfl, cs_Bw.at hE hP hK hD⟩ rfl rfl hl.1 rfl (lv_room (Nat.le_of_ble_eq_true rfl)) dX2_patched_41 ⟨Nat.le_of_ble_eq_true rfl, Nat.le_of_ble_eq_true rfl⟩) hS9 hF (fun r_41 u9 H locs hp hP hD1 hz hk1 hS9 => ?_)
    have hP : va_P D vwCl (cs_R S (cs_k2 (cs_M S v) (cs_M S v && cs_nS S v a && decide (0 ≤ n) && cs_in d 0 255)) bd cy) H := hP
    have hD : va_D (va_A (cs_R S th bd cy) s.heap.size) (cs_R S (cs_k2 (cs_M S v) (cs_M S v && cs_nS S v a && decide (0 ≤ n) && cs_in d 0 255)) bd cy) := hD1.weaken (fun k q _ h => hF q.1 h)
    subst hp
    refine cs_ifne (tgt := 49) hx hb dX2_patched_44 (by decide) (fun c_44 => ?_) (fun c_44 => ?_)
    · have hm := (cs_and c_44).1
      obtain ⟨k, hk, rfl⟩ := cs_mod_of hS hm
      have hk31 : k < 2 ^ 31 := by omega
      obtain ⟨hw1, hw2⟩ := hS.2.1 k hk
      refine lv_aload_n hx hb dX2_patched_49 rfl (lv_at hl 1 rfl) ?_
      refine va_get (D := D) (ci := 2) (v := .ref (bd 5)) (C := RX2) (T := TX2) (N := 10) hx hb hts hinX2 hown hK hP 0 cs_R0 rfl 4 (by decide) (hts (.fieldLink RX2 22 "ChecksumLabModel" "reflectIn" "[Z") (by decide +kernel)) (fun _ h9 => h9) rfl dX2_patched_50 ?_
      refine lv_iload_n hx hb dX2_patched_53 rfl (lv_at hl 2 rfl) ?_
      refine cs_zald hx hb hK hP 5 1 cs_R5 rfl (k := k) (by omega) (by decide) dX2_patched_54 ?_
      refine cs_ifeq (tgt := 68) hx hb dX2_patched_55 (by decide) (fun c_55 => ?_) (fun c_55 => ?_)
      · refine lv_iload hx hb dX2_patched_68 (lv_at hl 5 rfl) ?_
        refine cs_top (y := cs_od (cs_ri S k) d) ((if_neg (by rw [c_55]; decide)).symm) ?_
        refine lv_istore (lv' := [(6, .int (cs_od (cs_ri S k) d)), (5, .int (cs_z (cs_M S (nI k)))), (0, .ref (bd 0)), (1, .int (nI k)), (2, .int a), (3, .int n), (4, .int d)]) hx hb dX2_patched_70 hl (by decide) rfl (fun ls hl => ?_)
        refine lv_aload_n hx hb dX2_patched_72 rfl (lv_at hl 2 rfl) ?_
        refine lv_iload_n hx hb dX2_patched_73 rfl (lv_at hl 3 rfl) ?_
        refine lv_ldc2 (v := 8) hx hb hown (hts (.constantLong RX2 106 8) (by decide +kernel)) dX2_patched_74 ?_
        refine lv_iload_n hx hb dX2_patched_77 rfl (lv_at hl 5 rfl) ?_
        refine lv_i2l (v := n.toInt64) hx hb dX2_patched_78 rfl ?_
        refine lv_lmul hx hb dX2_patched_79 ?_
        refine lv_aload_n hx hb dX2_patched_80 rfl (lv_at hl 2 rfl) ?_
        refine va_get (D := D) (ci := 2) (v := .ref (bd 1)) (C := RX2) (T := TX2) (N := 10) hx hb hts hinX2 hown hK hP 0 cs_R0 rfl 0 (by decide) (hts (.fieldLink RX2 7 "ChecksumLabModel" "width" "[I") (by decide +kernel)) (fun _ h9 => h9) rfl dX2_patched_81 ?_
        refine lv_iload_n hx hb dX2_patched_84 rfl (lv_at hl 3 rfl) ?_
        refine cs_iald hx hb hK hP 1 0 cs_R1 rfl (k := k) (by omega) (by decide) dX2_patched_85 ?_
        refine lv_i2l (v := (nI (cs_w S k)).toInt64) hx hb dX2_patched_86 rfl ?_
        refine lv_ladd hx hb dX2_patched_87 ?_
        refine vp_callSi (W.runV (As := [.int (nI k), .long ((8 * n.toInt64) + ((nI (cs_w S k)).toInt64))]) (rest := []) ⟨hx, hb, hml, hown, hts⟩ (k_X2_powerOf l D S (cs_k2 (cs_M S (nI k)) (cs_M S (nI k) && cs_nS S (nI k) a && decide (0 ≤ n) && cs_in d 0 255)) bd cy hS k hk ((8 * n.toInt64) + ((nI (cs_w S k)).toInt64))) (cwV 2 hts gX2_patched_X2_powerOf rfl rfl rfl (by decide +kernel) ⟨Nat.le_of_ble_eq_true rfl, Nat.le_of_ble_eq_true rfl⟩) ⟨cs_B.blind, va_recv hK hP (ci := 2) (q0 := 0) rfl rfl, cs_B.at hE hP hK⟩ rfl rfl hl.1 rfl (lv_room (Nat.le_of_ble_eq_true rfl)) dX2_patched_88 ⟨Nat.le_of_ble_eq_true rfl, Nat.le_of_ble_eq_true rfl⟩) (fun r_88 e_88 => ?_)
        subst e_88
        refine lv_istore (lv' := [(7, .int (cs_pow (cs_w S k) (cs_p S k) ((8 * n.toInt64) + ((nI (cs_w S k)).toInt64)))), (6, .int (cs_od (cs_ri S k) d)), (5, .int (cs_z (cs_M S (nI k)))), (0, .ref (bd 0)), (1, .int (nI k)), (2, .int a), (3, .int n), (4, .int d)]) hx hb dX2_patched_91 hl (by decide) rfl (fun ls hl => ?_)
        refine lv_aload_n hx hb dX2_patched_93 rfl (lv_at hl 3 rfl) ?_
        refine lv_iload_n hx hb dX2_patched_94 rfl (lv_at hl 4 rfl) ?_
        refine lv_aload_n hx hb dX2_patched_95 rfl (lv_at hl 3 rfl) ?_
        refine lv_iload_n hx hb dX2_patched_96 rfl (lv_at hl 4 rfl) ?_
        refine lv_iload_n hx hb dX2_patched_97 rfl (lv_at hl 5 rfl) ?_
        refine vp_callSi (W.runV (As := [.int (nI k), .int a]) (rest := [.int (nI k), .ref (bd 0)]) ⟨hx, hb, hml, hown, hts⟩ (k_X2_registerOf l D S (cs_k2 (cs_M S (nI k)) (cs_M S (nI k) && cs_nS S (nI k) a && decide (0 ≤ n) && cs_in d 0 255)) bd cy hS k hk a) (cwV 2 hts gX2_patched_X2_registerOf rfl rfl rfl (by decide +kernel) ⟨Nat.le_of_ble_eq_true rfl, Nat.le_of_ble_eq_true rfl⟩) ⟨cs_B.blind, va_recv hK hP (ci := 2) (q0 := 0) rfl rfl, cs_B.at hE hP hK⟩ rfl rfl hl.1 rfl (lv_room (Nat.le_of_ble_eq_true rfl)) dX2_patched_98 ⟨Nat.le_of_ble_eq_true rfl, Nat.le_of_ble_eq_true rfl⟩) (fun r_98 e_98 => ?_)
        subst e_98
        refine lv_aload_n hx hb dX2_patched_101 rfl (lv_at hl 3 rfl) ?_
        refine lv_iload_n hx hb dX2_patched_102 rfl (lv_at hl 4 rfl) ?_
        refine lv_iload hx hb dX2_patched_103 (lv_at hl 0 rfl) ?_
        refine lv_iload hx hb dX2_patched_105 (lv_at hl 1 rfl) ?_
        refine lv_bipush (v := 8) hx hb dX2_patched_107 (by decide) ?_
        refine cs_top (y := nI 8) (rfl) ?_
        refine vp_callSi (W.runV (As := [.int (nI k), .int (cs_pow (cs_w S k) (cs_p S k) ((8 * n.toInt64) + ((nI (cs_w S k)).toInt64))), .int (cs_od (cs_ri S k) d), .int (nI 8)]) (rest := [.int (cs_so (cs_ro S k) (cs_w S k) (a ^^^ cs_x S k)), .int (nI k), .ref (bd 0)]) ⟨hx, hb, hml, hown, hts⟩ (k_X2_times l D S (cs_k2 (cs_M S (nI k)) (cs_M S (nI k) && cs_nS S (nI k) a && decide (0 ≤ n) && cs_in d 0 255)) bd cy hS k hk (cs_pow (cs_w S k) (cs_p S k) ((8 * n.toInt64) + ((nI (cs_w S k)).toInt64))) (cs_od (cs_ri S k) d) 8 (by decide)) (cwV 4 hts gX2_patched_X2_times rfl rfl rfl (by decide +kernel) ⟨Nat.le_of_ble_eq_true rfl, Nat.le_of_ble_eq_true rfl⟩) ⟨cs_B.blind, va_recv hK hP (ci := 2) (q0 := 0) rfl rfl, cs_B.at hE hP hK⟩ rfl rfl hl.1 rfl (lv_room (Nat.le_of_ble_eq_true rfl)) dX2_patched_109 ⟨Nat.le_of_ble_eq_true rfl, Nat.le_of_ble_eq_true rfl⟩) (fun r_109 e_109 => ?_)
        subst e_109
        refine lv_ixor hx hb dX2_patched_112 ?_
        refine vp_callSi (W.runV (As := [.int (nI k), .int ((cs_so (cs_ro S k) (cs_w S k) (a ^^^ cs_x S k)) ^^^ (cs_mul (cs_w S k) (cs_p S k) (cs_pow (cs_w S k) (cs_p S k) ((8 * n.toInt64) + ((nI (cs_w S k)).toInt64))) (cs_od (cs_ri S k) d) 8))]) (rest := []) ⟨hx, hb, hml, hown, hts⟩ (k_X2_sumOf l D S (cs_k2 (cs_M S (nI k)) (cs_M S (nI k) && cs_nS S (nI k) a && decide (0 ≤ n) && cs_in d 0 255)) bd cy hS k hk ((cs_so (cs_ro S k) (cs_w S k) (a ^^^ cs_x S k)) ^^^ (cs_mul (cs_w S k) (cs_p S k) (cs_pow (cs_w S k) (cs_p S k) ((8 * n.toInt64) + ((nI (cs_w S k)).toInt64))) (cs_od (cs_ri S k) d) 8))) (cwV 2 hts gX2_patched_X2_sumOf rfl rfl rfl (by decide +kernel) ⟨Nat.le_of_ble_eq_true rfl, Nat.le_of_ble_eq_true rfl⟩) ⟨cs_B.blind, va_recv hK hP (ci := 2) (q0 := 0) rfl rfl, cs_B.at hE hP hK⟩ rfl rfl hl.1 rfl (lv_room (Nat.le_of_ble_eq_true rfl)) dX2_patched_113 ⟨Nat.le_of_ble_eq_true rfl, Nat.le_of_ble_eq_true rfl⟩) (fun r_113 e_113 => ?_)
        subst e_113
        exact W.iret (v := cs_so (cs_ro S k) (cs_w S k) ((cs_so (cs_ro S k) (cs_w S k) (a ^^^ cs_x S k)) ^^^ (cs_mul (cs_w S k) (cs_p S k) (cs_pow (cs_w S k) (cs_p S k) ((8 * n.toInt64) + ((nI (cs_w S k)).toInt64))) (cs_od (cs_ri S k) d) 8)) ^^^ cs_x S k) hx hb hr (fun t ht _ => ⟨cs_so (cs_ro S k) (cs_w S k) ((cs_so (cs_ro S k) (cs_w S k) (a ^^^ cs_x S k)) ^^^ (cs_mul (cs_w S k) (cs_p S k) (cs_pow (cs_w S k) (cs_p S k) ((8 * n.toInt64) + ((nI (cs_w S k)).toInt64))) (cs_od (cs_ri S k) d) 8)) ^^^ cs_x S k, (), rfl, fun _ => by unfold cs_vPat cs_sum cs_reg; rw [cs_cI hk31], by rw [ht]; exact hP, by exact hD, hS9.F ht⟩) hS9.2.2 dX2_patched_116
      · refine lv_iload hx hb dX2_patched_58 (lv_at hl 5 rfl) ?_
        refine lv_bipush (v := 8) hx hb dX2_patched_60 (by decide) ?_
        refine cs_top (y := nI 8) (rfl) ?_
        refine vp_callSi (W.runS (As := [.int d, .int (nI 8)]) (rest := []) ⟨hx, hb, hml, hown, hts⟩ (k_X2_reversed l D S (cs_k2 (cs_M S (nI k)) (cs_M S (nI k) && cs_nS S (nI k) a && decide (0 ≤ n) && cs_in d 0 255)) bd cy d 8 (by decide)) (va_cwS 2 hts gX2_patched_X2_reversed rfl rfl rfl (by decide +kernel) ⟨Nat.le_of_ble_eq_true rfl, Nat.le_of_ble_eq_true rfl⟩) ⟨cs_B.blind, cs_B.at hE cs_none hK⟩ rfl rfl hl.1 rfl (lv_room (Nat.le_of_ble_eq_true rfl)) dX2_patched_62 ⟨Nat.le_of_ble_eq_true rfl, Nat.le_of_ble_eq_true rfl⟩) (fun r_62 e_62 => ?_)
        subst e_62
        refine lv_goto (tgt := 70) hx hb dX2_patched_65 (by decide) ?_
        refine cs_top (y := cs_od (cs_ri S k) d) ((if_pos c_55).symm) ?_
        refine lv_istore (lv' := [(6, .int (cs_od (cs_ri S k) d)), (5, .int (cs_z (cs_M S (nI k)))), (0, .ref (bd 0)), (1, .int (nI k)), (2, .int a), (3, .int n), (4, .int d)]) hx hb dX2_patched_70 hl (by decide) rfl (fun ls hl => ?_)
        refine lv_aload_n hx hb dX2_patched_72 rfl (lv_at hl 2 rfl) ?_
        refine lv_iload_n hx hb dX2_patched_73 rfl (lv_at hl 3 rfl) ?_
        refine lv_ldc2 (v := 8) hx hb hown (hts (.constantLong RX2 106 8) (by decide +kernel)) dX2_patched_74 ?_
        refine lv_iload_n hx hb dX2_patched_77 rfl (lv_at hl 5 rfl) ?_
        refine lv_i2l (v := n.toInt64) hx hb dX2_patched_78 rfl ?_
        refine lv_lmul hx hb dX2_patched_79 ?_
        refine lv_aload_n hx hb dX2_patched_80 rfl (lv_at hl 2 rfl) ?_
        refine va_get (D := D) (ci := 2) (v := .ref (bd 1)) (C := RX2) (T := TX2) (N := 10) hx hb hts hinX2 hown hK hP 0 cs_R0 rfl 0 (by decide) (hts (.fieldLink RX2 7 "ChecksumLabModel" "width" "[I") (by decide +kernel)) (fun _ h9 => h9) rfl dX2_patched_81 ?_
        refine lv_iload_n hx hb dX2_patched_84 rfl (lv_at hl 3 rfl) ?_
        refine cs_iald hx hb hK hP 1 0 cs_R1 rfl (k := k) (by omega) (by decide) dX2_patched_85 ?_
        refine lv_i2l (v := (nI (cs_w S k)).toInt64) hx hb dX2_patched_86 rfl ?_
        refine lv_ladd hx hb dX2_patched_87 ?_
        refine vp_callSi (W.runV (As := [.int (nI k), .long ((8 * n.toInt64) + ((nI (cs_w S k)).toInt64))]) (rest := []) ⟨hx, hb, hml, hown, hts⟩ (k_X2_powerOf l D S (cs_k2 (cs_M S (nI k)) (cs_M S (nI k) && cs_nS S (nI k) a && decide (0 ≤ n) && cs_in d 0 255)) bd cy hS k hk ((8 * n.toInt64) + ((nI (cs_w S k)).toInt64))) (cwV 2 hts gX2_patched_X2_powerOf rfl rfl rfl (by decide +kernel) ⟨Nat.le_of_ble_eq_true rfl, Nat.le_of_ble_eq_true rfl⟩) ⟨cs_B.blind, va_recv hK hP (ci := 2) (q0 := 0) rfl rfl, cs_B.at hE hP hK⟩ rfl rfl hl.1 rfl (lv_room (Nat.le_of_ble_eq_true rfl)) dX2_patched_88 ⟨Nat.le_of_ble_eq_true rfl, Nat.le_of_ble_eq_true rfl⟩) (fun r_88 e_88 => ?_)
        subst e_88
        refine lv_istore (lv' := [(7, .int (cs_pow (cs_w S k) (cs_p S k) ((8 * n.toInt64) + ((nI (cs_w S k)).toInt64)))), (6, .int (cs_od (cs_ri S k) d)), (5, .int (cs_z (cs_M S (nI k)))), (0, .ref (bd 0)), (1, .int (nI k)), (2, .int a), (3, .int n), (4, .int d)]) hx hb dX2_patched_91 hl (by decide) rfl (fun ls hl => ?_)
        refine lv_aload_n hx hb dX2_patched_93 rfl (lv_at hl 3 rfl) ?_
        refine lv_iload_n hx hb dX2_patched_94 rfl (lv_at hl 4 rfl) ?_
        refine lv_aload_n hx hb dX2_patched_95 rfl (lv_at hl 3 rfl) ?_
        refine lv_iload_n hx hb dX2_patched_96 rfl (lv_at hl 4 rfl) ?_
        refine lv_iload_n hx hb dX2_patched_97 rfl (lv_at hl 5 rfl) ?_
        refine vp_callSi (W.runV (As := [.int (nI k), .int a]) (rest := [.int (nI k), .ref (bd 0)]) ⟨hx, hb, hml, hown, hts⟩ (k_X2_registerOf l D S (cs_k2 (cs_M S (nI k)) (cs_M S (nI k) && cs_nS S (nI k) a && decide (0 ≤ n) && cs_in d 0 255)) bd cy hS k hk a) (cwV 2 hts gX2_patched_X2_registerOf rfl rfl rfl (by decide +kernel) ⟨Nat.le_of_ble_eq_true rfl, Nat.le_of_ble_eq_true rfl⟩) ⟨cs_B.blind, va_recv hK hP (ci := 2) (q0 := 0) rfl rfl, cs_B.at hE hP hK⟩ rfl rfl hl.1 rfl (lv_room (Nat.le_of_ble_eq_true rfl)) dX2_patched_98 ⟨Nat.le_of_ble_eq_true rfl, Nat.le_of_ble_eq_true rfl⟩) (fun r_98 e_98 => ?_)
        subst e_98
        refine lv_aload_n hx hb dX2_patched_101 rfl (lv_at hl 3 rfl) ?_
        refine lv_iload_n hx hb dX2_patched_102 rfl (lv_at hl 4 rfl) ?_
        refine lv_iload hx hb dX2_patched_103 (lv_at hl 0 rfl) ?_
        refine lv_iload hx hb dX2_patched_105 (lv_at hl 1 rfl) ?_
        refine lv_bipush (v := 8) hx hb dX2_patched_107 (by decide) ?_
        refine cs_top (y := nI 8) (rfl) ?_
        refine vp_callSi (W.runV (As := [.int (nI k), .int (cs_pow (cs_w S k) (cs_p S k) ((8 * n.toInt64) + ((nI (cs_w S k)).toInt64))), .int (cs_od (cs_ri S k) d), .int (nI 8)]) (rest := [.int (cs_so (cs_ro S k) (cs_w S k) (a ^^^ cs_x S k)), .int (nI k), .ref (bd 0)]) ⟨hx, hb, hml, hown, hts⟩ (k_X2_times l D S (cs_k2 (cs_M S (nI k)) (cs_M S (nI k) && cs_nS S (nI k) a && decide (0 ≤ n) && cs_in d 0 255)) bd cy hS k hk (cs_pow (cs_w S k) (cs_p S k) ((8 * n.toInt64) + ((nI (cs_w S k)).toInt64))) (cs_od (cs_ri S k) d) 8 (by decide)) (cwV 4 hts gX2_patched_X2_times rfl rfl rfl (by decide +kernel) ⟨Nat.le_of_ble_eq_true rfl, Nat.le_of_ble_eq_true rfl⟩) ⟨cs_B.blind, va_recv hK hP (ci := 2) (q0 := 0) rfl rfl, cs_B.at hE hP hK⟩ rfl rfl hl.1 rfl (lv_room (Nat.le_of_ble_eq_true rfl)) dX2_patched_109 ⟨Nat.le_of_ble_eq_true rfl, Nat.le_of_ble_eq_true rfl⟩) (fun r_109 e_109 => ?_)
        subst e_109
        refine lv_ixor hx hb dX2_patched_112 ?_
        refine vp_callSi (W.runV (As := [.int (nI k), .int ((cs_so (cs_ro S k) (cs_w S k) (a ^^^ cs_x S k)) ^^^ (cs_mul (cs_w S k) (cs_p S k) (cs_pow (cs_w S k) (cs_p S k) ((8 * n.toInt64) + ((nI (cs_w S k)).toInt64))) (cs_od (cs_ri S k) d) 8))]) (rest := []) ⟨hx, hb, hml, hown, hts⟩ (k_X2_sumOf l D S (cs_k2 (cs_M S (nI k)) (cs_M S (nI k) && cs_nS S (nI k) a && decide (0 ≤ n) && cs_in d 0 255)) bd cy hS k hk ((cs_so (cs_ro S k) (cs_w S k) (a ^^^ cs_x S k)) ^^^ (cs_mul (cs_w S k) (cs_p S k) (cs_pow (cs_w S k) (cs_p S k) ((8 * n.toInt64) + ((nI (cs_w S k)).toInt64))) (cs_od (cs_ri S k) d) 8))) (cwV 2 hts gX2_patched_X2_sumOf rfl rfl rfl (by decide +kernel) ⟨Nat.le_of_ble_eq_true rfl, Nat.le_of_ble_eq_true rfl⟩) ⟨cs_B.blind, va_recv hK hP (ci := 2) (q0 := 0) rfl rfl, cs_B.at hE hP hK⟩ rfl rfl hl.1 rfl (lv_room (Nat.le_of_ble_eq_true rfl)) dX2_patched_113 ⟨Nat.le_of_ble_eq_true rfl, Nat.le_of_ble_eq_true rfl⟩) (fun r_113 e_113 => ?_)
        subst e_113
        exact W.iret (v := cs_so (cs_ro S k) (cs_w S k) ((cs_so (cs_ro S k) (cs_w S k) (a ^^^ cs_x S k)) ^^^ (cs_mul (cs_w S k) (cs_p S k) (cs_pow (cs_w S k) (cs_p S k) ((8 * n.toInt64) + ((nI (cs_w S k)).toInt64))) (cs_od (cs_ri S k) d) 8)) ^^^ cs_x S k) hx hb hr (fun t ht _ => ⟨cs_so (cs_ro S k) (cs_w S k) ((cs_so (cs_ro S k) (cs_w S k) (a ^^^ cs_x S k)) ^^^ (cs_mul (cs_w S k) (cs_p S k) (cs_pow (cs_w S k) (cs_p S k) ((8 * n.toInt64) + ((nI (cs_w S k)).toInt64))) (cs_od (cs_ri S k) d) 8)) ^^^ cs_x S k, (), rfl, fun _ => by unfold cs_vPat cs_sum cs_reg; rw [cs_cI hk31], by rw [ht]; exact hP, by exact hD, hS9.F ht⟩) hS9.2.2 dX2_patched_116
    · refine lv_iconst (v := 0) hx hb dX2_patched_47 (by decide) ?_
      exact W.iret (v := 0) hx hb hr (fun t ht _ => ⟨0, (), rfl, fun z => absurd (cs_k2_0.mp z) (by rw [c_44]; decide), by rw [ht]; exact hP, by exact hD, hS9.F ht⟩) hS9.2.2 dX2_patched_48
  refine lv_aload_n hx hb dX2_patched_7 rfl (lv_at hl 1 rfl) ?_
  refine lv_iload hx hb dX2_patched_8 (lv_at hl 0 rfl) ?_
  refine lv_iload hx hb dX2_patched_10 (lv_at hl 0 rfl) ?_
  refine cs_ifeq (tgt := 40) hx hb dX2_patched_12 (by decide) (fun c_12 => ?_) (fun c_12 => ?_)
  · refine lv_iconst (v := 0) hx hb dX2_patched_40 (by decide) ?_
    refine cs_top (y := cs_z (cs_M S v && cs_nS S v a && decide (0 ≤ n) && cs_in d 0 255)) (by simp [cs_z, cs_nS, c_12]) ?_
    exact j41
  · obtain ⟨k, hk, rfl⟩ := cs_mod_of hS c_12
    have hk31 : k < 2 ^ 31 := by omega
    refine lv_aload_n hx hb dX2_patched_15 rfl (lv_at hl 1 rfl) ?_
    refine lv_iload_n hx hb dX2_patched_16 rfl (lv_at hl 2 rfl) ?_
    refine lv_iload_n hx hb dX2_patched_17 rfl (lv_at hl 3 rfl) ?_
    refine vp_callSi (W.runV (As := [.int (nI k), .int a]) (rest := [.int (cs_z (cs_M S (nI k))), .ref (bd 0)]) ⟨hx, hb, hml, hown, hts⟩ (k_X2_isNumber l D S th bd cy hS k hk a) (cwV 2 hts gX2_patched_X2_isNumber rfl rfl rfl (by decide +kernel) ⟨Nat.le_of_ble_eq_true rfl, Nat.le_of_ble_eq_true rfl⟩) ⟨cs_B.blind, va_recv hK hP (ci := 2) (q0 := 0) rfl rfl, cs_B.at hE hP hK⟩ rfl rfl hl.1 rfl (lv_room (Nat.le_of_ble_eq_true rfl)) dX2_patched_18 ⟨Nat.le_of_ble_eq_true rfl, Nat.le_of_ble_eq_true rfl⟩) (fun r_18 e_18 => ?_)
    subst e_18
    refine cs_ifeq (tgt := 40) hx hb dX2_patched_21 (by decide) (fun c_21 => ?_) (fun c_21 => ?_)
    · refine lv_iconst (v := 0) hx hb dX2_patched_40 (by decide) ?_
      refine cs_top (y := cs_z (cs_M S (nI k) && cs_nS S (nI k) a && decide (0 ≤ n) && cs_in d 0 255)) (by simp [cs_z, cs_nS, cs_cI hk31, c_12, c_21]) ?_
      exact j41
    · refine lv_iload_n hx hb dX2_patched_24 rfl (lv_at hl 4 rfl) ?_
      refine lv_if_lt (tgt := 40) hx hb dX2_patched_25 (by decide) (fun c_25 => ?_) (fun c_25 => ?_)
      · refine lv_iconst (v := 0) hx hb dX2_patched_40 (by decide) ?_
        refine cs_top (y := cs_z (cs_M S (nI k) && cs_nS S (nI k) a && decide (0 ≤ n) && cs_in d 0 255)) (by simp [cs_z, cs_nS, cs_cI hk31, c_12, c_21, decide_eq_false (Int32.not_le.mpr c_25)]) ?_
        exact j41
      · refine lv_iload hx hb dX2_patched_28 (lv_at hl 5 rfl) ?_
        refine vp_callSi (W.runS (As := [.int d]) (rest := [.int (cs_z (cs_M S (nI k))), .ref (bd 0)]) ⟨hx, hb, hml, hown, hts⟩ (k_X2_isByte l D S th bd cy  d) (va_cwS 1 hts gX2_patched_X2_isByte rfl rfl rfl (by decide +kernel) ⟨Nat.le_of_ble_eq_true rfl, Nat.le_of_ble_eq_true rfl⟩) ⟨cs_B.blind, cs_B.at hE cs_none hK⟩ rfl rfl hl.1 rfl (lv_room (Nat.le_of_ble_eq_true rfl)) dX2_patched_30 ⟨Nat.le_of_ble_eq_true rfl, Nat.le_of_ble_eq_true rfl⟩) (fun r_30 e_30 => ?_)
        subst e_30
        refine cs_ifeq (tgt := 40) hx hb dX2_patched_33 (by decide) (fun c_33 => ?_) (fun c_33 => ?_)
        · refine lv_iconst (v := 0) hx hb dX2_patched_40 (by decide) ?_
          refine cs_top (y := cs_z (cs_M S (nI k) && cs_nS S (nI k) a && decide (0 ≤ n) && cs_in d 0 255)) (by simp [cs_z, cs_nS, cs_cI hk31, c_12, c_21, decide_eq_true (Int32.not_lt.mp c_25), c_33]) ?_
          exact j41
        · refine lv_iconst (v := 1) hx hb dX2_patched_36 (by decide) ?_
          refine lv_goto (tgt := 41) hx hb dX2_patched_37 (by decide) ?_
          refine cs_top (y := cs_z (cs_M S (nI k) && cs_nS S (nI k) a && decide (0 ≤ n) && cs_in d 0 255)) (by simp [cs_z, cs_nS, cs_cI hk31, c_12, c_21, decide_eq_true (Int32.not_lt.mp c_25), c_33]) ?_
          exact j41
set_option maxHeartbeats 4000000 in
set_option maxRecDepth 100000 in
theorem k_X2_wrongBit (l : Launch) (D : va_G) (S : cs_St) (th : Int32) (bd : Nat → Nat) (cy : Nat → ClassId) (sz : Nat) (hS : cs_ok S) (v d n : Int32) : cs_Mw l yX2_wrongBit wsX2_wrongBit ({ frames := 2, cells := 0, slots := 0, locals := 43 }) D (cs_tys cy) (cs_R S th bd cy) sz [.ref (bd 0), .int v, .int d, .int n] (fun (_ : Unit) => cs_R S (cs_kWro S v d n) bd cy) (fun rr _ => cs_kWro S v d n = 0 → rr = cs_vWro S v d n) := by
  refine Met.ofW (cc := cX2_wrongBit) (maxL := 9) (ret := (some .int)) (by decide) rfl ?_
  intro pg e s m args below meth c s₁ B hml hv
  obtain ⟨rfl, hsz, hE, hP, hK, hD0⟩ := hv
  subst hsz
  have hD := hD0.self (sz := s.heap.size)
  have hA : ∀ q : Nat, s.heap.size ≤ q → va_A (cs_R S th bd cy) s.heap.size q := fun q h => Or.inr h
  have hS9 : va_S (va_A (cs_R S th bd cy) s.heap.size) s.heap s.heap [] := va_S.rf
  have hx := B.exec
  have hb := B.bytes
  have hr := B.returns
  have hts := atoms_spec (ws := wsX2_wrongBit) B.pre
  have hown : s.vm.findClass RX2 = some m.cls := findClass_of_methodNamed B.named
  have hlocks := B.notSynchronized
  have hl := lv_entry ([.ref (bd 0), .int v, .int d, .int n]) (n := 9) (Nat.le_of_ble_eq_true rfl)
  rw [lg_entry_eq]
  generalize (lg_sl ([.ref (bd 0), .int v, .int d, .int n]) ++ List.replicate (9 - (lg_sl ([.ref (bd 0), .int v, .int d, .int n])).length) Slot.unset).toArray = ls at hl ⊢
  have hl : lv_has ls 9 [(0, .ref (bd 0)), (1, .int v), (2, .int d), (3, .int n)] := hl
  have hinX2 : ∀ w ∈ wsX20, w ∈ wsX2_wrongBit := fun _ h => by unfold wsX2_wrongBit; exact List.mem_cons_of_mem _ (List.mem_append_right _ h)
  have h6 := hS.1
  refine lv_aload_n hx hb dX2_wrongBit_0 rfl (lv_at hl 0 rfl) ?_
  refine lv_iload_n hx hb dX2_wrongBit_1 rfl (lv_at hl 1 rfl) ?_
  refine vp_callSi (W.runV (As := [.int v]) (rest := []) ⟨hx, hb, hml, hown, hts⟩ (k_X2_isModel l D S th bd cy  v) (cwV 1 hts gX2_wrongBit_X2_isModel rfl rfl rfl (by decide +kernel) ⟨Nat.le_of_ble_eq_true rfl, Nat.le_of_ble_eq_true rfl⟩) ⟨cs_B.blind, va_recv hK hP (ci := 2) (q0 := 0) rfl rfl, cs_B.at hE hP hK⟩ rfl rfl hl.1 rfl (lv_room (Nat.le_of_ble_eq_true rfl)) dX2_wrongBit_2 ⟨Nat.le_of_ble_eq_true rfl, Nat.le_of_ble_eq_true rfl⟩) (fun r_2 e_2 => ?_)
  subst e_2
  refine cs_top (y := cs_z (cs_M S v)) rfl ?_
  refine lv_istore (lv' := [(4, .int (cs_z (cs_M S v))), (0, .ref (bd 0)), (1, .int v), (2, .int d), (3, .int n)]) hx hb dX2_wrongBit_5 hl (by decide) rfl (fun ls hl => ?_)
  have j40 : W pg l e (headSpec wsX2_wrongBit ({ frames := 2, cells := 0, slots := 0, locals := 43 })).room s m [Value.ref (bd 0), Value.int v, Value.int d, Value.int n].toArray below meth c s.heap [] 0 0 (MQ below (cs_Qw D (cs_R S th bd cy) (fun (_ : Unit) => cs_R S (cs_kWro S v d n) bd cy) (fun rr _ => cs_kWro S v d n = 0 → rr = cs_vWro S v d n)) [Value.ref (bd 0), Value.int v, Value.int d, Value.int n].toArray s 0 0 (va_A (cs_R S th bd cy) s.heap.size)) (F0 m 40 ls [.int (cs_z (cs_M S v && cs_nS S v d && cs_in n 0 4000)), .int (cs_z (cs_M S v)), .ref (bd 0)]) := by
    have hF := cs_inW hD hS9 hA
    refine cs_wcalli (va_runV (As := [.int (cs_z (cs_M S v)), .int (cs_z (cs_M S v && cs_nS S v d && cs_in n 0 4000))]) (rest := []) ⟨hx, hb, hml, hown, hts⟩ (k_X2_asked_ l D S th bd cy s.heap.size (cs_M S v) (cs_M S v && cs_nS S v d && cs_in n 0 4000)) (cwV 2 hts gX2_wrongBit_X2_asked_ rfl rfl rfl (by decide +kernel) ⟨Nat.le_of_ble_eq_true rfl, Nat.le_of_ble_eq_true rfl⟩) ⟨cs_Bw.blind, va_recv hK hP (ci := 2) (q0 := 0) rfl rfl, cs_Bw.at hE hP hK hD⟩ rfl rfl hl.1 rfl (lv_room (Nat.le_of_ble_eq_true rfl)) dX2_wrongBit_40 ⟨Nat.le_of_ble_eq_true rfl, Nat.le_of_ble_eq_true rfl⟩) hS9 hF (fun r_40 u9 H locs hp hP hD1 hz hk1 hS9 => ?_)
    have hP : va_P D vwCl (cs_R S (cs_k2 (cs_M S v) (cs_M S v && cs_nS S v d && cs_in n 0 4000)) bd cy) H := hP
    have hD : va_D (va_A (cs_R S th bd cy) s.heap.size) (cs_R S (cs_k2 (cs_M S v) (cs_M S v && cs_nS S v d && cs_in n 0 4000)) bd cy) := hD1.weaken (fun k q _ h => hF q.1 h)
    subst hp
    refine cs_ifne (tgt := 48) hx hb dX2_wrongBit_43 (by decide) (fun c_43 => ?_) (fun c_43 => ?_)
    · obtain ⟨hm, hm3⟩ := cs_and c_43
      obtain ⟨k, hk, rfl⟩ := cs_mod_of hS hm
      have hk31 : k < 2 ^ 31 := by omega
      obtain ⟨hw1, hw2⟩ := hS.2.1 k hk
      obtain ⟨N9, hN, rfl⟩ := cs_in_of (n := 4000) (by decide) (cs_and hm3).2
      have hV : cs_vWro S (nI k) d (nI N9) = cs_wb (cs_w S k) (cs_p S k) (cs_so (cs_ro S k) (cs_w S k) d) (8 * N9) (-1) (cs_p S k) := by unfold cs_vWro; rw [cs_cI hk31, cs_cI (by omega)]
      have loop : ∀ (n : Nat) (f t b : Int32), b = nI n - 1 → n ≤ 32000 → cs_vWro S (nI k) d (nI N9) = cs_wb (cs_w S k) (cs_p S k) (cs_so (cs_ro S k) (cs_w S k) d) n f t → ∀ ls : Array Slot, lv_has ls 9 [(0, .ref (bd 0)), (1, .int (nI k)), (5, .int (cs_so (cs_ro S k) (cs_w S k) d)), (6, .int f), (7, .int t), (8, .int b)] → W pg l e (headSpec wsX2_wrongBit ({ frames := 2, cells := 0, slots := 0, locals := 43 })).room s m [Value.ref (bd 0), Value.int (nI k), Value.int d, Value.int (nI N9)].toArray below meth c H locs 0 0 (MQ below (cs_Qw D (cs_R S th bd cy) (fun (_ : Unit) => cs_R S (cs_kWro S (nI k) d (nI N9)) bd cy) (fun rr _ => cs_kWro S (nI k) d (nI N9) = 0 → rr = cs_vWro S (nI k) d (nI N9))) [Value.ref (bd 0), Value.int (nI k), Value.int d, Value.int (nI N9)].toArray s 0 0 (va_A (cs_R S th bd cy) s.heap.size)) (F0 m 92 ls []) := by
        intro n
        induction n with
        | zero =>
          intro f t b eb hn h0 ls hl
          subst eb
          refine lv_iload hx hb dX2_wrongBit_92 (lv_at hl 5 rfl) ?_
          refine lv_if_lt (tgt := 128) hx hb dX2_wrongBit_94 (by decide) (fun c_94 => ?_) (fun c_94 => ?_)
          · refine lv_iload hx hb dX2_wrongBit_128 (lv_at hl 3 rfl) ?_
            exact W.iret (v := f) hx hb hr (fun t ht _ => ⟨f, (), rfl, fun _ => h0.symm, by rw [ht]; exact hP, by exact hD, hS9.F ht⟩) hS9.2.2 dX2_wrongBit_130
          · exact absurd cs_m1 c_94
        | succ n ih =>
          intro f t b eb hn h0 ls hl
          rw [nI_pred] at eb
          subst eb
          refine lv_iload hx hb dX2_wrongBit_92 (lv_at hl 5 rfl) ?_
          refine lv_if_lt (tgt := 128) hx hb dX2_wrongBit_94 (by decide) (fun c_94 => ?_) (fun c_94 => ?_)
          · exact absurd c_94 (nI_pos (by omega))
          · refine lv_iload hx hb dX2_wrongBit_97 (lv_at hl 4 rfl) ?_
            refine lv_iload hx hb dX2_wrongBit_99 (lv_at hl 2 rfl) ?_
            refine lv_icmp_ne (tgt := 109) hx hb dX2_wrongBit_101 (by decide) (fun c_101 => ?_) (fun c_101 => ?_)
            · refine lv_iload hx hb dX2_wrongBit_109 (lv_at hl 3 rfl) ?_
              refine lv_istore (lv' := [(6, .int f), (0, .ref (bd 0)), (1, .int (nI k)), (5, .int (cs_so (cs_ro S k) (cs_w S k) d)), (7, .int t), (8, .int (nI n))]) hx hb dX2_wrongBit_111 hl (by decide) rfl (fun ls hl => ?_)
              refine lv_aload_n hx hb dX2_wrongBit_113 rfl (lv_at hl 1 rfl) ?_
              refine lv_iload_n hx hb dX2_wrongBit_114 rfl (lv_at hl 2 rfl) ?_
              refine lv_iload hx hb dX2_wrongBit_115 (lv_at hl 4 rfl) ?_
              refine vp_callSi (W.runV (As := [.int (nI k), .int t]) (rest := []) ⟨hx, hb, hml, hown, hts⟩ (k_X2_timesX l D S (cs_k2 (cs_M S (nI k)) (cs_M S (nI k) && cs_nS S (nI k) d && cs_in (nI N9) 0 4000)) bd cy hS k hk t) (cwV 2 hts gX2_wrongBit_X2_timesX rfl rfl rfl (by decide +kernel) ⟨Nat.le_of_ble_eq_true rfl, Nat.le_of_ble_eq_true rfl⟩) ⟨cs_B.blind, va_recv hK hP (ci := 2) (q0 := 0) rfl rfl, cs_B.at hE hP hK⟩ rfl rfl hl.1 rfl (lv_room (Nat.le_of_ble_eq_true rfl)) dX2_wrongBit_117 ⟨Nat.le_of_ble_eq_true rfl, Nat.le_of_ble_eq_true rfl⟩) (fun r_117 e_117 => ?_)
              subst e_117
              refine lv_istore (lv' := [(7, .int (cs_T (cs_w S k) (cs_p S k) t)), (6, .int f), (0, .ref (bd 0)), (1, .int (nI k)), (5, .int (cs_so (cs_ro S k) (cs_w S k) d)), (8, .int (nI n))]) hx hb dX2_wrongBit_120 hl (by decide) rfl (fun ls hl => ?_)
              refine lv_iinc (v := (nI n) - 1) (lv' := [(8, .int ((nI n) - 1)), (7, .int (cs_T (cs_w S k) (cs_p S k) t)), (6, .int f), (0, .ref (bd 0)), (1, .int (nI k)), (5, .int (cs_so (cs_ro S k) (cs_w S k) d))]) hx hb dX2_wrongBit_122 hl (k := 5) rfl (cs_dec (nI n)) (by decide) rfl (fun ls hl => ?_)
              refine lv_goto (tgt := 92) hx hb dX2_wrongBit_125 (by decide) ?_
              exact ih _ _ _ rfl (by omega) (h0.trans (by rw [cs_wb, if_neg c_101])) ls (lv_sub hl [3, 4, 5, 2, 1, 0] rfl)
            · refine lv_iload hx hb dX2_wrongBit_104 (lv_at hl 5 rfl) ?_
              refine lv_goto (tgt := 111) hx hb dX2_wrongBit_106 (by decide) ?_
              refine lv_istore (lv' := [(6, .int (nI n)), (0, .ref (bd 0)), (1, .int (nI k)), (5, .int (cs_so (cs_ro S k) (cs_w S k) d)), (7, .int t), (8, .int (nI n))]) hx hb dX2_wrongBit_111 hl (by decide) rfl (fun ls hl => ?_)
              refine lv_aload_n hx hb dX2_wrongBit_113 rfl (lv_at hl 1 rfl) ?_
              refine lv_iload_n hx hb dX2_wrongBit_114 rfl (lv_at hl 2 rfl) ?_
              refine lv_iload hx hb dX2_wrongBit_115 (lv_at hl 4 rfl) ?_
              refine vp_callSi (W.runV (As := [.int (nI k), .int t]) (rest := []) ⟨hx, hb, hml, hown, hts⟩ (k_X2_timesX l D S (cs_k2 (cs_M S (nI k)) (cs_M S (nI k) && cs_nS S (nI k) d && cs_in (nI N9) 0 4000)) bd cy hS k hk t) (cwV 2 hts gX2_wrongBit_X2_timesX rfl rfl rfl (by decide +kernel) ⟨Nat.le_of_ble_eq_true rfl, Nat.le_of_ble_eq_true rfl⟩) ⟨cs_B.blind, va_recv hK hP (ci := 2) (q0 := 0) rfl rfl, cs_B.at hE hP hK⟩ rfl rfl hl.1 rfl (lv_room (Nat.le_of_ble_eq_true rfl)) dX2_wrongBit_117 ⟨Nat.le_of_ble_eq_true rfl, Nat.le_of_ble_eq_true rfl⟩) (fun r_117 e_117 => ?_)
              subst e_117
              refine lv_istore (lv' := [(7, .int (cs_T (cs_w S k) (cs_p S k) t)), (6, .int (nI n)), (0, .ref (bd 0)), (1, .int (nI k)), (5, .int (cs_so (cs_ro S k) (cs_w S k) d)), (8, .int (nI n))]) hx hb dX2_wrongBit_120 hl (by decide) rfl (fun ls hl => ?_)
              refine lv_iinc (v := (nI n) - 1) (lv' := [(8, .int ((nI n) - 1)), (7, .int (cs_T (cs_w S k) (cs_p S k) t)), (6, .int (nI n)), (0, .ref (bd 0)), (1, .int (nI k)), (5, .int (cs_so (cs_ro S k) (cs_w S k) d))]) hx hb dX2_wrongBit_122 hl (k := 5) rfl (cs_dec (nI n)) (by decide) rfl (fun ls hl => ?_)
              refine lv_goto (tgt := 92) hx hb dX2_wrongBit_125 (by decide) ?_
              exact ih _ _ _ rfl (by omega) (h0.trans (by rw [cs_wb, if_pos c_101])) ls (lv_sub hl [3, 4, 5, 2, 1, 0] rfl)
      refine lv_aload_n hx hb dX2_wrongBit_48 rfl (lv_at hl 1 rfl) ?_
      refine va_get (D := D) (ci := 2) (v := .ref (bd 6)) (C := RX2) (T := TX2) (N := 10) hx hb hts hinX2 hown hK hP 0 cs_R0 rfl 5 (by decide) (hts (.fieldLink RX2 26 "ChecksumLabModel" "reflectOut" "[Z") (by decide +kernel)) (fun _ h9 => h9) rfl dX2_wrongBit_49 ?_
      refine lv_iload_n hx hb dX2_wrongBit_52 rfl (lv_at hl 2 rfl) ?_
      refine cs_zald hx hb hK hP 6 1 cs_R6 rfl (k := k) (by omega) (by decide) dX2_wrongBit_53 ?_
      refine cs_ifeq (tgt := 70) hx hb dX2_wrongBit_54 (by decide) (fun c_54 => ?_) (fun c_54 => ?_)
      · refine lv_iload_n hx hb dX2_wrongBit_70 rfl (lv_at hl 3 rfl) ?_
        refine cs_top (y := (cs_so (cs_ro S k) (cs_w S k) d)) ((if_neg (by rw [c_54]; decide)).symm) ?_
        refine lv_istore (lv' := [(5, .int (cs_so (cs_ro S k) (cs_w S k) d)), (4, .int (cs_z (cs_M S (nI k)))), (0, .ref (bd 0)), (1, .int (nI k)), (2, .int d), (3, .int (nI N9))]) hx hb dX2_wrongBit_71 hl (by decide) rfl (fun ls hl => ?_)
        refine lv_iconst (v := (-1)) hx hb dX2_wrongBit_73 (by decide) ?_
        refine lv_istore (lv' := [(6, .int (-1)), (5, .int (cs_so (cs_ro S k) (cs_w S k) d)), (4, .int (cs_z (cs_M S (nI k)))), (0, .ref (bd 0)), (1, .int (nI k)), (2, .int d), (3, .int (nI N9))]) hx hb dX2_wrongBit_74 hl (by decide) rfl (fun ls hl => ?_)
        refine lv_aload_n hx hb dX2_wrongBit_76 rfl (lv_at hl 3 rfl) ?_
        refine va_get (D := D) (ci := 2) (v := .ref (bd 2)) (C := RX2) (T := TX2) (N := 10) hx hb hts hinX2 hown hK hP 0 cs_R0 rfl 1 (by decide) (hts (.fieldLink RX2 13 "ChecksumLabModel" "poly" "[I") (by decide +kernel)) (fun _ h9 => h9) rfl dX2_wrongBit_77 ?_
        refine lv_iload_n hx hb dX2_wrongBit_80 rfl (lv_at hl 4 rfl) ?_
        refine cs_iald hx hb hK hP 2 0 cs_R2 rfl (k := k) (by omega) (by decide) dX2_wrongBit_81 ?_
        refine lv_istore (lv' := [(7, .int (cs_p S k)), (6, .int (-1)), (5, .int (cs_so (cs_ro S k) (cs_w S k) d)), (4, .int (cs_z (cs_M S (nI k)))), (0, .ref (bd 0)), (1, .int (nI k)), (2, .int d), (3, .int (nI N9))]) hx hb dX2_wrongBit_82 hl (by decide) rfl (fun ls hl => ?_)
        refine lv_bipush (v := 8) hx hb dX2_wrongBit_84 (by decide) ?_
        refine lv_iload_n hx hb dX2_wrongBit_86 rfl (lv_at hl 7 rfl) ?_
        refine lv_imul hx hb dX2_wrongBit_87 ?_
        refine cs_top (y := nI (8 * N9)) (pk_mul 8 N9) ?_
        refine lv_iconst (v := 1) hx hb dX2_wrongBit_88 (by decide) ?_
        refine lv_isub hx hb dX2_wrongBit_89 ?_
        refine lv_istore (lv' := [(8, .int ((nI (8 * N9)) - 1)), (7, .int (cs_p S k)), (6, .int (-1)), (5, .int (cs_so (cs_ro S k) (cs_w S k) d)), (4, .int (cs_z (cs_M S (nI k)))), (0, .ref (bd 0)), (1, .int (nI k)), (2, .int d), (3, .int (nI N9))]) hx hb dX2_wrongBit_90 hl (by decide) rfl (fun ls hl => ?_)
        exact loop (8 * N9) (-1) (cs_p S k) _ rfl (by omega) hV ls (lv_sub hl [5, 6, 3, 2, 1, 0] rfl)
      · refine lv_iload_n hx hb dX2_wrongBit_57 rfl (lv_at hl 3 rfl) ?_
        refine lv_aload_n hx hb dX2_wrongBit_58 rfl (lv_at hl 1 rfl) ?_
        refine va_get (D := D) (ci := 2) (v := .ref (bd 1)) (C := RX2) (T := TX2) (N := 10) hx hb hts hinX2 hown hK hP 0 cs_R0 rfl 0 (by decide) (hts (.fieldLink RX2 7 "ChecksumLabModel" "width" "[I") (by decide +kernel)) (fun _ h9 => h9) rfl dX2_wrongBit_59 ?_
        refine lv_iload_n hx hb dX2_wrongBit_62 rfl (lv_at hl 2 rfl) ?_
        refine cs_iald hx hb hK hP 1 0 cs_R1 rfl (k := k) (by omega) (by decide) dX2_wrongBit_63 ?_
        refine vp_callSi (W.runS (As := [.int d, .int (nI (cs_w S k))]) (rest := []) ⟨hx, hb, hml, hown, hts⟩ (k_X2_reversed l D S (cs_k2 (cs_M S (nI k)) (cs_M S (nI k) && cs_nS S (nI k) d && cs_in (nI N9) 0 4000)) bd cy d (cs_w S k) hw2) (va_cwS 2 hts gX2_wrongBit_X2_reversed rfl rfl rfl (by decide +kernel) ⟨Nat.le_of_ble_eq_true rfl, Nat.le_of_ble_eq_true rfl⟩) ⟨cs_B.blind, cs_B.at hE cs_none hK⟩ rfl rfl hl.1 rfl (lv_room (Nat.le_of_ble_eq_true rfl)) dX2_wrongBit_64 ⟨Nat.le_of_ble_eq_true rfl, Nat.le_of_ble_eq_true rfl⟩) (fun r_64 e_64 => ?_)
        subst e_64
        refine lv_goto (tgt := 71) hx hb dX2_wrongBit_67 (by decide) ?_
        refine cs_top (y := (cs_so (cs_ro S k) (cs_w S k) d)) ((if_pos c_54).symm) ?_
        refine lv_istore (lv' := [(5, .int (cs_so (cs_ro S k) (cs_w S k) d)), (4, .int (cs_z (cs_M S (nI k)))), (0, .ref (bd 0)), (1, .int (nI k)), (2, .int d), (3, .int (nI N9))]) hx hb dX2_wrongBit_71 hl (by decide) rfl (fun ls hl => ?_)
        refine lv_iconst (v := (-1)) hx hb dX2_wrongBit_73 (by decide) ?_
        refine lv_istore (lv' := [(6, .int (-1)), (5, .int (cs_so (cs_ro S k) (cs_w S k) d)), (4, .int (cs_z (cs_M S (nI k)))), (0, .ref (bd 0)), (1, .int (nI k)), (2, .int d), (3, .int (nI N9))]) hx hb dX2_wrongBit_74 hl (by decide) rfl (fun ls hl => ?_)
        refine lv_aload_n hx hb dX2_wrongBit_76 rfl (lv_at hl 3 rfl) ?_
        refine va_get (D := D) (ci := 2) (v := .ref (bd 2)) (C := RX2) (T := TX2) (N := 10) hx hb hts hinX2 hown hK hP 0 cs_R0 rfl 1 (by decide) (hts (.fieldLink RX2 13 "ChecksumLabModel" "poly" "[I") (by decide +kernel)) (fun _ h9 => h9) rfl dX2_wrongBit_77 ?_
        refine lv_iload_n hx hb dX2_wrongBit_80 rfl (lv_at hl 4 rfl) ?_
        refine cs_iald hx hb hK hP 2 0 cs_R2 rfl (k := k) (by omega) (by decide) dX2_wrongBit_81 ?_
        refine lv_istore (lv' := [(7, .int (cs_p S k)), (6, .int (-1)), (5, .int (cs_so (cs_ro S k) (cs_w S k) d)), (4, .int (cs_z (cs_M S (nI k)))), (0, .ref (bd 0)), (1, .int (nI k)), (2, .int d), (3, .int (nI N9))]) hx hb dX2_wrongBit_82 hl (by decide) rfl (fun ls hl => ?_)
        refine lv_bipush (v := 8) hx hb dX2_wrongBit_84 (by decide) ?_
        refine lv_iload_n hx hb dX2_wrongBit_86 rfl (lv_at hl 7 rfl) ?_
        refine lv_imul hx hb dX2_wrongBit_87 ?_
        refine cs_top (y := nI (8 * N9)) (pk_mul 8 N9) ?_
        refine lv_iconst (v := 1) hx hb dX2_wrongBit_88 (by decide) ?_
        refine lv_isub hx hb dX2_wrongBit_89 ?_
        refine lv_istore (lv' := [(8, .int ((nI (8 * N9)) - 1)), (7, .int (cs_p S k)), (6, .int (-1)), (5, .int (cs_so (cs_ro S k) (cs_w S k) d)), (4, .int (cs_z (cs_M S (nI k)))), (0, .ref (bd 0)), (1, .int (nI k)), (2, .int d), (3, .int (nI N9))]) hx hb dX2_wrongBit_90 hl (by decide) rfl (fun ls hl => ?_)
        exact loop (8 * N9) (-1) (cs_p S k) _ rfl (by omega) hV ls (lv_sub hl [5, 6, 3, 2, 1, 0] rfl)
    · refine lv_iconst (v := 0) hx hb dX2_wrongBit_46 (by decide) ?_
      exact W.iret (v := 0) hx hb hr (fun t ht _ => ⟨0, (), rfl, fun z => absurd (cs_k2_0.mp z) (by rw [c_43]; decide), by rw [ht]; exact hP, by exact hD, hS9.F ht⟩) hS9.2.2 dX2_wrongBit_47
  refine lv_aload_n hx hb dX2_wrongBit_7 rfl (lv_at hl 1 rfl) ?_
  refine lv_iload hx hb dX2_wrongBit_8 (lv_at hl 0 rfl) ?_
  refine lv_iload hx hb dX2_wrongBit_10 (lv_at hl 0 rfl) ?_
  refine cs_ifeq (tgt := 39) hx hb dX2_wrongBit_12 (by decide) (fun c_12 => ?_) (fun c_12 => ?_)
  · refine lv_iconst (v := 0) hx hb dX2_wrongBit_39 (by decide) ?_
    refine cs_top (y := cs_z (cs_M S v && cs_nS S v d && cs_in n 0 4000)) (by simp [cs_z, cs_nS, c_12]) ?_
    exact j40
  · obtain ⟨k, hk, rfl⟩ := cs_mod_of hS c_12
    have hk31 : k < 2 ^ 31 := by omega
    refine lv_aload_n hx hb dX2_wrongBit_15 rfl (lv_at hl 1 rfl) ?_
    refine lv_iload_n hx hb dX2_wrongBit_16 rfl (lv_at hl 2 rfl) ?_
    refine lv_iload_n hx hb dX2_wrongBit_17 rfl (lv_at hl 3 rfl) ?_
    refine vp_callSi (W.runV (As := [.int (nI k), .int d]) (rest := [.int (cs_z (cs_M S (nI k))), .ref (bd 0)]) ⟨hx, hb, hml, hown, hts⟩ (k_X2_isNumber l D S th bd cy hS k hk d) (cwV 2 hts gX2_wrongBit_X2_isNumber rfl rfl rfl (by decide +kernel) ⟨Nat.le_of_ble_eq_true rfl, Nat.le_of_ble_eq_true rfl⟩) ⟨cs_B.blind, va_recv hK hP (ci := 2) (q0 := 0) rfl rfl, cs_B.at hE hP hK⟩ rfl rfl hl.1 rfl (lv_room (Nat.le_of_ble_eq_true rfl)) dX2_wrongBit_18 ⟨Nat.le_of_ble_eq_true rfl, Nat.le_of_ble_eq_true rfl⟩) (fun r_18 e_18 => ?_)
    subst e_18
    refine cs_ifeq (tgt := 39) hx hb dX2_wrongBit_21 (by decide) (fun c_21 => ?_) (fun c_21 => ?_)
    · refine lv_iconst (v := 0) hx hb dX2_wrongBit_39 (by decide) ?_
      refine cs_top (y := cs_z (cs_M S (nI k) && cs_nS S (nI k) d && cs_in n 0 4000)) (by simp [cs_z, cs_nS, cs_cI hk31, c_12, c_21]) ?_
      exact j40
    · refine lv_iload_n hx hb dX2_wrongBit_24 rfl (lv_at hl 4 rfl) ?_
      refine lv_iconst (v := 0) hx hb dX2_wrongBit_25 (by decide) ?_
      refine lv_sipush (v := 4000) hx hb dX2_wrongBit_26 (by decide) ?_
      refine vp_callSi (W.runS (As := [.int n, .int 0, .int 4000]) (rest := [.int (cs_z (cs_M S (nI k))), .ref (bd 0)]) ⟨hx, hb, hml, hown, hts⟩ (k_X2_in l D S th bd cy  n 0 4000) (va_cwS 3 hts gX2_wrongBit_X2_in rfl rfl rfl (by decide +kernel) ⟨Nat.le_of_ble_eq_true rfl, Nat.le_of_ble_eq_true rfl⟩) ⟨cs_B.blind, cs_B.at hE cs_none hK⟩ rfl rfl hl.1 rfl (lv_room (Nat.le_of_ble_eq_true rfl)) dX2_wrongBit_29 ⟨Nat.le_of_ble_eq_true rfl, Nat.le_of_ble_eq_true rfl⟩) (fun r_29 e_29 => ?_)
      subst e_29
      refine cs_ifeq (tgt := 39) hx hb dX2_wrongBit_32 (by decide) (fun c_32 => ?_) (fun c_32 => ?_)
      · refine lv_iconst (v := 0) hx hb dX2_wrongBit_39 (by decide) ?_
        refine cs_top (y := cs_z (cs_M S (nI k) && cs_nS S (nI k) d && cs_in n 0 4000)) (by simp [cs_z, cs_nS, cs_cI hk31, c_12, c_21, c_32]) ?_
        exact j40
      · refine lv_iconst (v := 1) hx hb dX2_wrongBit_35 (by decide) ?_
        refine lv_goto (tgt := 40) hx hb dX2_wrongBit_36 (by decide) ?_
        refine cs_top (y := cs_z (cs_M S (nI k) && cs_nS S (nI k) d && cs_in n 0 4000)) (by simp [cs_z, cs_nS, cs_cI hk31, c_12, c_21, c_32]) ?_
        exact j40
set_option maxHeartbeats 4000000 in
set_option maxRecDepth 100000 in
theorem k_X2_remainder (l : Launch) (D : va_G) (S : cs_St) (th : Int32) (bd : Nat → Nat) (cy : Nat → ClassId) (sz : Nat) (hS : cs_ok S) (v u : Int32) : cs_Mw l yX2_remainder wsX2_remainder ({ frames := 2, cells := 0, slots := 0, locals := 43 }) D (cs_tys cy) (cs_R S th bd cy) sz [.ref (bd 0), .int v, .int u] (fun (_ : Unit) => cs_R S (cs_k1 (cs_M S v && cs_in u 0 3)) bd cy) (fun rr _ => cs_k1 (cs_M S v && cs_in u 0 3) = 0 → rr = cs_vRem S v u) := by
  refine Met.ofW (cc := cX2_remainder) (maxL := 6) (ret := (some .int)) (by decide) rfl ?_
  intro pg e s m args below meth c s₁ B hml hv
  obtain ⟨rfl, hsz, hE, hP, hK, hD0⟩ := hv
  subst hsz
  have hD := hD0.self (sz := s.heap.size)
  have hA : ∀ q : Nat, s.heap.size ≤ q → va_A (cs_R S th bd cy) s.heap.size q := fun q h => Or.inr h
  have hS9 : va_S (va_A (cs_R S th bd cy) s.heap.size) s.heap s.heap [] := va_S.rf
  have hx := B.exec
  have hb := B.bytes
  have hr := B.returns
  have hts := atoms_spec (ws := wsX2_remainder) B.pre
  have hown : s.vm.findClass RX2 = some m.cls := findClass_of_methodNamed B.named
  have hlocks := B.notSynchronized
  have hl := lv_entry ([.ref (bd 0), .int v, .int u]) (n := 6) (Nat.le_of_ble_eq_true rfl)
  rw [lg_entry_eq]
  generalize (lg_sl ([.ref (bd 0), .int v, .int u]) ++ List.replicate (6 - (lg_sl ([.ref (bd 0), .int v, .int u])).length) Slot.unset).toArray = ls at hl ⊢
  have hl : lv_has ls 6 [(0, .ref (bd 0)), (1, .int v), (2, .int u)] := hl
  have hinX2 : ∀ w ∈ wsX20, w ∈ wsX2_remainder := fun _ h => by unfold wsX2_remainder; exact List.mem_cons_of_mem _ (List.mem_append_right _ h)
  have h6 := hS.1
  refine lv_iconst (v := 0) hx hb dX2_remainder_0 (by decide) ?_
  refine lv_istore_n (lv' := [(3, .int 0), (0, .ref (bd 0)), (1, .int v), (2, .int u)]) hx hb dX2_remainder_1 rfl hl (by decide) rfl (fun ls hl => ?_)
  refine lv_aload_n hx hb dX2_remainder_2 rfl (lv_at hl 1 rfl) ?_
  refine lv_aload_n hx hb dX2_remainder_3 rfl (lv_at hl 1 rfl) ?_
  refine lv_iload_n hx hb dX2_remainder_4 rfl (lv_at hl 2 rfl) ?_
  refine vp_callSi (W.runV (As := [.int v]) (rest := [.ref (bd 0)]) ⟨hx, hb, hml, hown, hts⟩ (k_X2_isModel l D S th bd cy  v) (cwV 1 hts gX2_remainder_X2_isModel rfl rfl rfl (by decide +kernel) ⟨Nat.le_of_ble_eq_true rfl, Nat.le_of_ble_eq_true rfl⟩) ⟨cs_B.blind, va_recv hK hP (ci := 2) (q0 := 0) rfl rfl, cs_B.at hE hP hK⟩ rfl rfl hl.1 rfl (lv_room (Nat.le_of_ble_eq_true rfl)) dX2_remainder_5 ⟨Nat.le_of_ble_eq_true rfl, Nat.le_of_ble_eq_true rfl⟩) (fun r_5 e_5 => ?_)
  subst e_5
  refine cs_top (y := cs_z (cs_M S v)) rfl ?_
  have j23 : W pg l e (headSpec wsX2_remainder ({ frames := 2, cells := 0, slots := 0, locals := 43 })).room s m [Value.ref (bd 0), Value.int v, Value.int u].toArray below meth c s.heap [] 0 0 (MQ below (cs_Qw D (cs_R S th bd cy) (fun (_ : Unit) => cs_R S (cs_k1 (cs_M S v && cs_in u 0 3)) bd cy) (fun rr _ => cs_k1 (cs_M S v && cs_in u 0 3) = 0 → rr = cs_vRem S v u)) [Value.ref (bd 0), Value.int v, Value.int u].toArray s 0 0 (va_A (cs_R S th bd cy) s.heap.size)) (F0 m 23 ls [.int (cs_z (cs_M S v && cs_in u 0 3)), .ref (bd 0)]) := by
    have hF := cs_inW hD hS9 hA
    refine cs_wcalli (va_runV (As := [.int (cs_z (cs_M S v && cs_in u 0 3))]) (rest := []) ⟨hx, hb, hml, hown, hts⟩ (k_X2_asked l D S th bd cy s.heap.size (cs_M S v && cs_in u 0 3)) (cwV 1 hts gX2_remainder_X2_asked rfl rfl rfl (by decide +kernel) ⟨Nat.le_of_ble_eq_true rfl, Nat.le_of_ble_eq_true rfl⟩) ⟨cs_Bw.blind, va_recv hK hP (ci := 2) (q0 := 0) rfl rfl, cs_Bw.at hE hP hK hD⟩ rfl rfl hl.1 rfl (lv_room (Nat.le_of_ble_eq_true rfl)) dX2_remainder_23 ⟨Nat.le_of_ble_eq_true rfl, Nat.le_of_ble_eq_true rfl⟩) hS9 hF (fun r_23 u9 H locs hp hP hD1 hz hk1 hS9 => ?_)
    have hP : va_P D vwCl (cs_R S (cs_k1 (cs_M S v && cs_in u 0 3)) bd cy) H := hP
    have hD : va_D (va_A (cs_R S th bd cy) s.heap.size) (cs_R S (cs_k1 (cs_M S v && cs_in u 0 3)) bd cy) := hD1.weaken (fun k q _ h => hF q.1 h)
    subst hp
    refine lv_istore (lv' := [(4, .int (cs_z (cs_M S v && cs_in u 0 3))), (3, .int 0), (0, .ref (bd 0)), (1, .int v), (2, .int u)]) hx hb dX2_remainder_26 hl (by decide) rfl (fun ls hl => ?_)
    refine lv_iconst (v := 0) hx hb dX2_remainder_28 (by decide) ?_
    refine lv_istore (lv' := [(5, .int 0), (4, .int (cs_z (cs_M S v && cs_in u 0 3))), (3, .int 0), (0, .ref (bd 0)), (1, .int v), (2, .int u)]) hx hb dX2_remainder_29 hl (by decide) rfl (fun ls hl => ?_)
    rcases Bool.eq_false_or_eq_true (cs_M S v && cs_in u 0 3) with hB | hB
    · obtain ⟨hm, hrw⟩ := cs_and hB
      obtain ⟨k, hk, rfl⟩ := cs_mod_of hS hm
      have hk31 : k < 2 ^ 31 := by omega
      obtain ⟨r, hr4, rfl⟩ := cs_row_of hrw
      have r31 : r < 2 ^ 31 := by omega
      have hl8 := hS.2.2.1 r
      have loop : ∀ (n i : Nat), i + n = 8 * cs_ln S r → ∀ ls : Array Slot, lv_has ls 6 [(0, .ref (bd 0)), (1, .int (nI k)), (2, .int (nI r)), (3, .int (cs_rm (cs_w S k) (cs_p S k) (cs_by S r) i)), (4, .int (cs_z (cs_M S (nI k) && cs_in (nI r) 0 3))), (5, .int (nI i))] → W pg l e (headSpec wsX2_remainder ({ frames := 2, cells := 0, slots := 0, locals := 43 })).room s m [Value.ref (bd 0), Value.int (nI k), Value.int (nI r)].toArray below meth c H locs 0 0 (MQ below (cs_Qw D (cs_R S th bd cy) (fun (_ : Unit) => cs_R S (cs_k1 (cs_M S (nI k) && cs_in (nI r) 0 3)) bd cy) (fun rr _ => cs_k1 (cs_M S (nI k) && cs_in (nI r) 0 3) = 0 → rr = cs_vRem S (nI k) (nI r))) [Value.ref (bd 0), Value.int (nI k), Value.int (nI r)].toArray s 0 0 (va_A (cs_R S th bd cy) s.heap.size)) (F0 m 31 ls []) := by
        intro n
        induction n with
        | zero =>
          intro i hi ls hl
          refine lv_iload hx hb dX2_remainder_31 (lv_at hl 4 rfl) ?_
          refine cs_ifeq (tgt := 91) hx hb dX2_remainder_33 (by decide) (fun c_33 => ?_) (fun c_33 => ?_)
          · exact absurd (c_33.symm.trans hB) (by decide)
          · refine lv_iload hx hb dX2_remainder_36 (lv_at hl 5 rfl) ?_
            refine lv_bipush (v := 8) hx hb dX2_remainder_38 (by decide) ?_
            refine lv_aload_n hx hb dX2_remainder_40 rfl (lv_at hl 0 rfl) ?_
            refine va_get (D := D) (ci := 2) (v := .ref (bd 8)) (C := RX2) (T := TX2) (N := 10) hx hb hts hinX2 hown hK hP 0 cs_R0 rfl 8 (by decide) (hts (.fieldLink RX2 32 "ChecksumLabModel" "length" "[I") (by decide +kernel)) (fun _ h9 => h9) rfl dX2_remainder_41 ?_
            refine lv_iload_n hx hb dX2_remainder_44 rfl (lv_at hl 2 rfl) ?_
            refine cs_iald hx hb hK hP 8 0 cs_R8 rfl (k := r) (hr4) (by decide) dX2_remainder_45 ?_
            refine lv_imul hx hb dX2_remainder_46 ?_
            refine cs_top (y := nI (8 * cs_ln S r)) (pk_mul 8 (cs_ln S r)) ?_
            refine lv_icmp_ge (tgt := 91) hx hb dX2_remainder_47 (by decide) (fun c_47 => ?_) (fun c_47 => ?_)
            · refine lv_iload_n hx hb dX2_remainder_91 rfl (lv_at hl 3 rfl) ?_
              exact W.iret (v := (cs_rm (cs_w S k) (cs_p S k) (cs_by S r) i)) hx hb hr (fun t ht _ => ⟨(cs_rm (cs_w S k) (cs_p S k) (cs_by S r) i), (), rfl, fun _ => by unfold cs_vRem; rw [cs_cI hk31, cs_cI r31, ← cs_rm_rs (hS.2.2.2 r), ← hi, Nat.add_zero], by rw [ht]; exact hP, by exact hD, hS9.F ht⟩) hS9.2.2 dX2_remainder_92
            · exact absurd (nI_le (a := 8 * cs_ln S r) (b := i) (by omega) (by omega)) c_47
        | succ n ih =>
          intro i hi ls hl
          refine lv_iload hx hb dX2_remainder_31 (lv_at hl 4 rfl) ?_
          refine cs_ifeq (tgt := 91) hx hb dX2_remainder_33 (by decide) (fun c_33 => ?_) (fun c_33 => ?_)
          · exact absurd (c_33.symm.trans hB) (by decide)
          · refine lv_iload hx hb dX2_remainder_36 (lv_at hl 5 rfl) ?_
            refine lv_bipush (v := 8) hx hb dX2_remainder_38 (by decide) ?_
            refine lv_aload_n hx hb dX2_remainder_40 rfl (lv_at hl 0 rfl) ?_
            refine va_get (D := D) (ci := 2) (v := .ref (bd 8)) (C := RX2) (T := TX2) (N := 10) hx hb hts hinX2 hown hK hP 0 cs_R0 rfl 8 (by decide) (hts (.fieldLink RX2 32 "ChecksumLabModel" "length" "[I") (by decide +kernel)) (fun _ h9 => h9) rfl dX2_remainder_41 ?_
            refine lv_iload_n hx hb dX2_remainder_44 rfl (lv_at hl 2 rfl) ?_
            refine cs_iald hx hb hK hP 8 0 cs_R8 rfl (k := r) (hr4) (by decide) dX2_remainder_45 ?_
            refine lv_imul hx hb dX2_remainder_46 ?_
            refine cs_top (y := nI (8 * cs_ln S r)) (pk_mul 8 (cs_ln S r)) ?_
            refine lv_icmp_ge (tgt := 91) hx hb dX2_remainder_47 (by decide) (fun c_47 => ?_) (fun c_47 => ?_)
            · exact absurd c_47 (nI_ge (a := i) (b := 8 * cs_ln S r) (by omega) (by omega))
            · refine lv_aload_n hx hb dX2_remainder_50 rfl (lv_at hl 0 rfl) ?_
              refine lv_iload_n hx hb dX2_remainder_51 rfl (lv_at hl 1 rfl) ?_
              refine lv_iload_n hx hb dX2_remainder_52 rfl (lv_at hl 3 rfl) ?_
              refine vp_callSi (W.runV (As := [.int (nI k), .int (cs_rm (cs_w S k) (cs_p S k) (cs_by S r) i)]) (rest := []) ⟨hx, hb, hml, hown, hts⟩ (k_X2_timesX l D S (cs_k1 (cs_M S (nI k) && cs_in (nI r) 0 3)) bd cy hS k hk (cs_rm (cs_w S k) (cs_p S k) (cs_by S r) i)) (cwV 2 hts gX2_remainder_X2_timesX rfl rfl rfl (by decide +kernel) ⟨Nat.le_of_ble_eq_true rfl, Nat.le_of_ble_eq_true rfl⟩) ⟨cs_B.blind, va_recv hK hP (ci := 2) (q0 := 0) rfl rfl, cs_B.at hE hP hK⟩ rfl rfl hl.1 rfl (lv_room (Nat.le_of_ble_eq_true rfl)) dX2_remainder_53 ⟨Nat.le_of_ble_eq_true rfl, Nat.le_of_ble_eq_true rfl⟩) (fun r_53 e_53 => ?_)
              subst e_53
              refine lv_aload_n hx hb dX2_remainder_56 rfl (lv_at hl 0 rfl) ?_
              refine va_get (D := D) (ci := 2) (v := .ref (bd 7)) (C := RX2) (T := TX2) (N := 10) hx hb hts hinX2 hown hK hP 0 cs_R0 rfl 7 (by decide) (hts (.fieldLink RX2 29 "ChecksumLabModel" "bytes" "[I") (by decide +kernel)) (fun _ h9 => h9) rfl dX2_remainder_57 ?_
              refine lv_sipush (v := 256) hx hb dX2_remainder_60 (by decide) ?_
              refine lv_iload_n hx hb dX2_remainder_63 rfl (lv_at hl 2 rfl) ?_
              refine lv_imul hx hb dX2_remainder_64 ?_
              refine lv_iload hx hb dX2_remainder_65 (lv_at hl 5 rfl) ?_
              refine lv_bipush (v := 8) hx hb dX2_remainder_67 (by decide) ?_
              refine lv_idiv hx hb dX2_remainder_69 (by decide) ?_
              refine cs_top (y := nI (i / 8)) (pk_div (a := i) (d := 8) (by omega) (by decide) (by decide)) ?_
              refine lv_iadd hx hb dX2_remainder_70 ?_
              refine cs_top (y := nI (256 * r + (i / 8))) (cs_256 r (i / 8)) ?_
              refine cs_iald hx hb hK hP 7 0 cs_R7 rfl (k := 256 * r + (i / 8)) (by omega) (by decide) dX2_remainder_71 ?_
              refine cs_top (y := nI (cs_by S r (i / 8))) (congrArg nI (cs_byE (by omega))) ?_
              refine lv_bipush (v := 7) hx hb dX2_remainder_72 (by decide) ?_
              refine lv_iload hx hb dX2_remainder_74 (lv_at hl 5 rfl) ?_
              refine lv_bipush (v := 8) hx hb dX2_remainder_76 (by decide) ?_
              refine lv_irem hx hb dX2_remainder_78 (by decide) ?_
              refine cs_top (y := cs_rem (nI i) 8) (rfl) ?_
              refine cs_top (y := nI (i % 8)) (pk_rem (a := i) (d := 8) (by omega) (by decide) (by decide)) ?_
              refine lv_isub hx hb dX2_remainder_79 ?_
              refine lv_ishr hx hb dX2_remainder_80 ?_
              refine lv_iconst (v := 1) hx hb dX2_remainder_81 (by decide) ?_
              refine lv_iand hx hb dX2_remainder_82 ?_
              refine lv_ixor hx hb dX2_remainder_83 ?_
              refine lv_istore_n (lv' := [(3, .int ((cs_T (cs_w S k) (cs_p S k) (cs_rm (cs_w S k) (cs_p S k) (cs_by S r) i)) ^^^ (((nI (cs_by S r (i / 8))) >>> ((7 - (nI (i % 8))) &&& 31)) &&& 1))), (0, .ref (bd 0)), (1, .int (nI k)), (2, .int (nI r)), (4, .int (cs_z (cs_M S (nI k) && cs_in (nI r) 0 3))), (5, .int (nI i))]) hx hb dX2_remainder_84 rfl hl (by decide) rfl (fun ls hl => ?_)
              refine lv_iinc (v := nI (i + 1)) (lv' := [(5, .int (nI (i + 1))), (3, .int ((cs_T (cs_w S k) (cs_p S k) (cs_rm (cs_w S k) (cs_p S k) (cs_by S r) i)) ^^^ (((nI (cs_by S r (i / 8))) >>> ((7 - (nI (i % 8))) &&& 31)) &&& 1))), (0, .ref (bd 0)), (1, .int (nI k)), (2, .int (nI r)), (4, .int (cs_z (cs_M S (nI k) && cs_in (nI r) 0 3)))]) hx hb dX2_remainder_85 hl (k := 5) rfl (cs_inc1 i) (by decide) rfl (fun ls hl => ?_)
              refine lv_goto (tgt := 31) hx hb dX2_remainder_88 (by decide) ?_
              exact ih (i + 1) (by omega) ls (lv_sub hl [2, 3, 4, 1, 5, 0] rfl)
      exact loop (8 * cs_ln S r) 0 (by omega) ls (lv_sub hl [3, 4, 5, 2, 1, 0] rfl)
    · refine lv_iload hx hb dX2_remainder_31 (lv_at hl 1 rfl) ?_
      refine cs_ifeq (tgt := 91) hx hb dX2_remainder_33 (by decide) (fun c_33 => ?_) (fun c_33 => ?_)
      · refine lv_iload_n hx hb dX2_remainder_91 rfl (lv_at hl 2 rfl) ?_
        exact W.iret (v := 0) hx hb hr (fun t ht _ => ⟨0, (), rfl, fun z => absurd (cs_k1_0.mp z) (by rw [hB]; decide), by rw [ht]; exact hP, by exact hD, hS9.F ht⟩) hS9.2.2 dX2_remainder_92
      · exact absurd (c_33.symm.trans hB) (by decide)
  refine cs_ifeq (tgt := 22) hx hb dX2_remainder_8 (by decide) (fun c_8 => ?_) (fun c_8 => ?_)
  · refine lv_iconst (v := 0) hx hb dX2_remainder_22 (by decide) ?_
    refine cs_top (y := cs_z (cs_M S v && cs_in u 0 3)) (by simp [cs_z, cs_nS, c_8]) ?_
    exact j23
  · refine lv_iload_n hx hb dX2_remainder_11 rfl (lv_at hl 3 rfl) ?_
    refine vp_callSi (W.runS (As := [.int u]) (rest := [.ref (bd 0)]) ⟨hx, hb, hml, hown, hts⟩ (k_X2_isRow l D S th bd cy  u) (va_cwS 1 hts gX2_remainder_X2_isRow rfl rfl rfl (by decide +kernel) ⟨Nat.le_of_ble_eq_true rfl, Nat.le_of_ble_eq_true rfl⟩) ⟨cs_B.blind, cs_B.at hE cs_none hK⟩ rfl rfl hl.1 rfl (lv_room (Nat.le_of_ble_eq_true rfl)) dX2_remainder_12 ⟨Nat.le_of_ble_eq_true rfl, Nat.le_of_ble_eq_true rfl⟩) (fun r_12 e_12 => ?_)
    subst e_12
    refine cs_ifeq (tgt := 22) hx hb dX2_remainder_15 (by decide) (fun c_15 => ?_) (fun c_15 => ?_)
    · refine lv_iconst (v := 0) hx hb dX2_remainder_22 (by decide) ?_
      refine cs_top (y := cs_z (cs_M S v && cs_in u 0 3)) (by simp [cs_z, cs_nS, c_8, c_15]) ?_
      exact j23
    · refine lv_iconst (v := 1) hx hb dX2_remainder_18 (by decide) ?_
      refine lv_goto (tgt := 23) hx hb dX2_remainder_19 (by decide) ?_
      refine cs_top (y := cs_z (cs_M S v && cs_in u 0 3)) (by simp [cs_z, cs_nS, c_8, c_15]) ?_
      exact j23
set_option maxHeartbeats 4000000 in
set_option maxRecDepth 100000 in
theorem k_X2_fletcher (l : Launch) (D : va_G) (S : cs_St) (th : Int32) (bd : Nat → Nat) (cy : Nat → ClassId) (sz : Nat) (hS : cs_ok S) (v : Int32) : cs_Mw l yX2_fletcher wsX2_fletcher ({ frames := 2, cells := 0, slots := 0, locals := 42 }) D (cs_tys cy) (cs_R S th bd cy) sz [.ref (bd 0), .int v] (fun (_ : Unit) => cs_R S (cs_k1 (cs_in v 0 3)) bd cy) (fun rr _ => cs_k1 (cs_in v 0 3) = 0 → rr = cs_vFle S v) := by
  refine Met.ofW (cc := cX2_fletcher) (maxL := 6) (ret := (some .int)) (by decide) rfl ?_
  intro pg e s m args below meth c s₁ B hml hv
  obtain ⟨rfl, hsz, hE, hP, hK, hD0⟩ := hv
  subst hsz
  have hD := hD0.self (sz := s.heap.size)
  have hA : ∀ q : Nat, s.heap.size ≤ q → va_A (cs_R S th bd cy) s.heap.size q := fun q h => Or.inr h
  have hS9 : va_S (va_A (cs_R S th bd cy) s.heap.size) s.heap s.heap [] := va_S.rf
  have hx := B.exec
  have hb := B.bytes
  have hr := B.returns
  have hts := atoms_spec (ws := wsX2_fletcher) B.pre
  have hown : s.vm.findClass RX2 = some m.cls := findClass_of_methodNamed B.named
  have hlocks := B.notSynchronized
  have hl := lv_entry ([.ref (bd 0), .int v]) (n := 6) (Nat.le_of_ble_eq_true rfl)
  rw [lg_entry_eq]
  generalize (lg_sl ([.ref (bd 0), .int v]) ++ List.replicate (6 - (lg_sl ([.ref (bd 0), .int v])).length) Slot.unset).toArray = ls at hl ⊢
  have hl : lv_has ls 6 [(0, .ref (bd 0)), (1, .int v)] := hl
  have hinX2 : ∀ w ∈ wsX20, w ∈ wsX2_fletcher := fun _ h => by unfold wsX2_fletcher; exact List.mem_cons_of_mem _ (List.mem_append_right _ h)
  refine lv_iconst (v := 0) hx hb dX2_fletcher_0 (by decide) ?_
  refine lv_istore_n (lv' := [(2, .int 0), (0, .ref (bd 0)), (1, .int v)]) hx hb dX2_fletcher_1 rfl hl (by decide) rfl (fun ls hl => ?_)
  refine lv_iconst (v := 0) hx hb dX2_fletcher_2 (by decide) ?_
  refine lv_istore_n (lv' := [(3, .int 0), (2, .int 0), (0, .ref (bd 0)), (1, .int v)]) hx hb dX2_fletcher_3 rfl hl (by decide) rfl (fun ls hl => ?_)
  refine lv_aload_n hx hb dX2_fletcher_4 rfl (lv_at hl 2 rfl) ?_
  refine lv_iload_n hx hb dX2_fletcher_5 rfl (lv_at hl 3 rfl) ?_
  refine vp_callSi (W.runS (As := [.int v]) (rest := [.ref (bd 0)]) ⟨hx, hb, hml, hown, hts⟩ (k_X2_isRow l D S th bd cy  v) (va_cwS 1 hts gX2_fletcher_X2_isRow rfl rfl rfl (by decide +kernel) ⟨Nat.le_of_ble_eq_true rfl, Nat.le_of_ble_eq_true rfl⟩) ⟨cs_B.blind, cs_B.at hE cs_none hK⟩ rfl rfl hl.1 rfl (lv_room (Nat.le_of_ble_eq_true rfl)) dX2_fletcher_6 ⟨Nat.le_of_ble_eq_true rfl, Nat.le_of_ble_eq_true rfl⟩) (fun r_6 e_6 => ?_)
  subst e_6
  have hF := cs_inW hD hS9 hA
  refine cs_wcalli (va_runV (As := [.int (cs_z (cs_in v 0 3))]) (rest := []) ⟨hx, hb, hml, hown, hts⟩ (k_X2_asked l D S th bd cy s.heap.size (cs_in v 0 3)) (cwV 1 hts gX2_fletcher_X2_asked rfl rfl rfl (by decide +kernel) ⟨Nat.le_of_ble_eq_true rfl, Nat.le_of_ble_eq_true rfl⟩) ⟨cs_Bw.blind, va_recv hK hP (ci := 2) (q0 := 0) rfl rfl, cs_Bw.at hE hP hK hD⟩ rfl rfl hl.1 rfl (lv_room (Nat.le_of_ble_eq_true rfl)) dX2_fletcher_9 ⟨Nat.le_of_ble_eq_true rfl, Nat.le_of_ble_eq_true rfl⟩) hS9 hF (fun r_9 u9 H locs hp hP hD1 hz hk1 hS9 => ?_)
  have hP : va_P D vwCl (cs_R S (cs_k1 (cs_in v 0 3)) bd cy) H := hP
  have hD : va_D (va_A (cs_R S th bd cy) s.heap.size) (cs_R S (cs_k1 (cs_in v 0 3)) bd cy) := hD1.weaken (fun k q _ h => hF q.1 h)
  subst hp
  refine lv_istore (lv' := [(4, .int (cs_z (cs_in v 0 3))), (3, .int 0), (2, .int 0), (0, .ref (bd 0)), (1, .int v)]) hx hb dX2_fletcher_12 hl (by decide) rfl (fun ls hl => ?_)
  refine lv_iconst (v := 0) hx hb dX2_fletcher_14 (by decide) ?_
  refine lv_istore (lv' := [(5, .int 0), (4, .int (cs_z (cs_in v 0 3))), (3, .int 0), (2, .int 0), (0, .ref (bd 0)), (1, .int v)]) hx hb dX2_fletcher_15 hl (by decide) rfl (fun ls hl => ?_)
  rcases Bool.eq_false_or_eq_true (cs_in v 0 3) with hB | hB
  · obtain ⟨r, hr4, rfl⟩ := cs_row_of hB
    have r31 : r < 2 ^ 31 := by omega
    have hl8 := hS.2.2.1 r
    have loop : ∀ (n i : Nat), i + n = cs_ln S r → ∀ ls : Array Slot, lv_has ls 6 [(0, .ref (bd 0)), (1, .int (nI r)), (2, .int ((cs_ra 255 0 (cs_by S r) i).1)), (3, .int ((cs_ra 255 0 (cs_by S r) i).2)), (4, .int (cs_z (cs_in (nI r) 0 3))), (5, .int (nI i))] → W pg l e (headSpec wsX2_fletcher ({ frames := 2, cells := 0, slots := 0, locals := 42 })).room s m [Value.ref (bd 0), Value.int (nI r)].toArray below meth c H locs 0 0 (MQ below (cs_Qw D (cs_R S th bd cy) (fun (_ : Unit) => cs_R S (cs_k1 (cs_in (nI r) 0 3)) bd cy) (fun rr _ => cs_k1 (cs_in (nI r) 0 3) = 0 → rr = cs_vFle S (nI r))) [Value.ref (bd 0), Value.int (nI r)].toArray s 0 0 (va_A (cs_R S th bd cy) s.heap.size)) (F0 m 17 ls []) := by
      intro n
      induction n with
      | zero =>
        intro i hi ls hl
        refine lv_iload hx hb dX2_fletcher_17 (lv_at hl 4 rfl) ?_
        refine cs_ifeq (tgt := 67) hx hb dX2_fletcher_19 (by decide) (fun c_19 => ?_) (fun c_19 => ?_)
        · exact absurd (c_19.symm.trans hB) (by decide)
        · refine lv_iload hx hb dX2_fletcher_22 (lv_at hl 5 rfl) ?_
          refine lv_aload_n hx hb dX2_fletcher_24 rfl (lv_at hl 0 rfl) ?_
          refine va_get (D := D) (ci := 2) (v := .ref (bd 8)) (C := RX2) (T := TX2) (N := 10) hx hb hts hinX2 hown hK hP 0 cs_R0 rfl 8 (by decide) (hts (.fieldLink RX2 32 "ChecksumLabModel" "length" "[I") (by decide +kernel)) (fun _ h9 => h9) rfl dX2_fletcher_25 ?_
          refine lv_iload_n hx hb dX2_fletcher_28 rfl (lv_at hl 1 rfl) ?_
          refine cs_iald hx hb hK hP 8 0 cs_R8 rfl (k := r) (hr4) (by decide) dX2_fletcher_29 ?_
          refine lv_icmp_ge (tgt := 67) hx hb dX2_fletcher_30 (by decide) (fun c_30 => ?_) (fun c_30 => ?_)
          · refine lv_sipush (v := 256) hx hb dX2_fletcher_67 (by decide) ?_
            refine lv_iload_n hx hb dX2_fletcher_70 rfl (lv_at hl 3 rfl) ?_
            refine lv_imul hx hb dX2_fletcher_71 ?_
            refine lv_iload_n hx hb dX2_fletcher_72 rfl (lv_at hl 2 rfl) ?_
            refine lv_iadd hx hb dX2_fletcher_73 ?_
            exact W.iret (v := (256 * ((cs_ra 255 0 (cs_by S r) i).2)) + ((cs_ra 255 0 (cs_by S r) i).1)) hx hb hr (fun t ht _ => ⟨(256 * ((cs_ra 255 0 (cs_by S r) i).2)) + ((cs_ra 255 0 (cs_by S r) i).1), (), rfl, fun _ => by unfold cs_vFle; rw [cs_cI r31, ← hi, Nat.add_zero], by rw [ht]; exact hP, by exact hD, hS9.F ht⟩) hS9.2.2 dX2_fletcher_74
          · exact absurd (nI_le (a := cs_ln S r) (b := i) (by omega) (by omega)) c_30
      | succ n ih =>
        intro i hi ls hl
        refine lv_iload hx hb dX2_fletcher_17 (lv_at hl 4 rfl) ?_
        refine cs_ifeq (tgt := 67) hx hb dX2_fletcher_19 (by decide) (fun c_19 => ?_) (fun c_19 => ?_)
        · exact absurd (c_19.symm.trans hB) (by decide)
        · refine lv_iload hx hb dX2_fletcher_22 (lv_at hl 5 rfl) ?_
          refine lv_aload_n hx hb dX2_fletcher_24 rfl (lv_at hl 0 rfl) ?_
          refine va_get (D := D) (ci := 2) (v := .ref (bd 8)) (C := RX2) (T := TX2) (N := 10) hx hb hts hinX2 hown hK hP 0 cs_R0 rfl 8 (by decide) (hts (.fieldLink RX2 32 "ChecksumLabModel" "length" "[I") (by decide +kernel)) (fun _ h9 => h9) rfl dX2_fletcher_25 ?_
          refine lv_iload_n hx hb dX2_fletcher_28 rfl (lv_at hl 1 rfl) ?_
          refine cs_iald hx hb hK hP 8 0 cs_R8 rfl (k := r) (hr4) (by decide) dX2_fletcher_29 ?_
          refine lv_icmp_ge (tgt := 67) hx hb dX2_fletcher_30 (by decide) (fun c_30 => ?_) (fun c_30 => ?_)
          · exact absurd c_30 (nI_ge (a := i) (b := cs_ln S r) (by omega) (by omega))
          · refine lv_iload_n hx hb dX2_fletcher_33 rfl (lv_at hl 2 rfl) ?_
            refine lv_aload_n hx hb dX2_fletcher_34 rfl (lv_at hl 0 rfl) ?_
            refine va_get (D := D) (ci := 2) (v := .ref (bd 7)) (C := RX2) (T := TX2) (N := 10) hx hb hts hinX2 hown hK hP 0 cs_R0 rfl 7 (by decide) (hts (.fieldLink RX2 29 "ChecksumLabModel" "bytes" "[I") (by decide +kernel)) (fun _ h9 => h9) rfl dX2_fletcher_35 ?_
            refine lv_sipush (v := 256) hx hb dX2_fletcher_38 (by decide) ?_
            refine lv_iload_n hx hb dX2_fletcher_41 rfl (lv_at hl 1 rfl) ?_
            refine lv_imul hx hb dX2_fletcher_42 ?_
            refine lv_iload hx hb dX2_fletcher_43 (lv_at hl 5 rfl) ?_
            refine lv_iadd hx hb dX2_fletcher_45 ?_
            refine cs_top (y := nI (256 * r + i)) (cs_256 r i) ?_
            refine cs_iald hx hb hK hP 7 0 cs_R7 rfl (k := 256 * r + i) (by omega) (by decide) dX2_fletcher_46 ?_
            refine cs_top (y := nI (cs_by S r i)) (congrArg nI (cs_byE (by omega))) ?_
            refine lv_iadd hx hb dX2_fletcher_47 ?_
            refine lv_sipush (v := 255) hx hb dX2_fletcher_48 (by decide) ?_
            refine lv_irem hx hb dX2_fletcher_51 (by decide) ?_
            refine cs_top (y := cs_rem (((cs_ra 255 0 (cs_by S r) i).1) + (nI (cs_by S r i))) 255) (rfl) ?_
            refine lv_istore_n (lv' := [(2, .int (cs_rem (((cs_ra 255 0 (cs_by S r) i).1) + (nI (cs_by S r i))) 255)), (0, .ref (bd 0)), (1, .int (nI r)), (3, .int ((cs_ra 255 0 (cs_by S r) i).2)), (4, .int (cs_z (cs_in (nI r) 0 3))), (5, .int (nI i))]) hx hb dX2_fletcher_52 rfl hl (by decide) rfl (fun ls hl => ?_)
            refine lv_iload_n hx hb dX2_fletcher_53 rfl (lv_at hl 3 rfl) ?_
            refine lv_iload_n hx hb dX2_fletcher_54 rfl (lv_at hl 0 rfl) ?_
            refine lv_iadd hx hb dX2_fletcher_55 ?_
            refine lv_sipush (v := 255) hx hb dX2_fletcher_56 (by decide) ?_
            refine lv_irem hx hb dX2_fletcher_59 (by decide) ?_
            refine cs_top (y := cs_rem (((cs_ra 255 0 (cs_by S r) i).2) + (cs_rem (((cs_ra 255 0 (cs_by S r) i).1) + (nI (cs_by S r i))) 255)) 255) (rfl) ?_
            refine lv_istore_n (lv' := [(3, .int (cs_rem (((cs_ra 255 0 (cs_by S r) i).2) + (cs_rem (((cs_ra 255 0 (cs_by S r) i).1) + (nI (cs_by S r i))) 255)) 255)), (2, .int (cs_rem (((cs_ra 255 0 (cs_by S r) i).1) + (nI (cs_by S r i))) 255)), (0, .ref (bd 0)), (1, .int (nI r)), (4, .int (cs_z (cs_in (nI r) 0 3))), (5, .int (nI i))]) hx hb dX2_fletcher_60 rfl hl (by decide) rfl (fun ls hl => ?_)
            refine lv_iinc (v := nI (i + 1)) (lv' := [(5, .int (nI (i + 1))), (3, .int (cs_rem (((cs_ra 255 0 (cs_by S r) i).2) + (cs_rem (((cs_ra 255 0 (cs_by S r) i).1) + (nI (cs_by S r i))) 255)) 255)), (2, .int (cs_rem (((cs_ra 255 0 (cs_by S r) i).1) + (nI (cs_by S r i))) 255)), (0, .ref (bd 0)), (1, .int (nI r)), (4, .int (cs_z (cs_in (nI r) 0 3)))]) hx hb dX2_fletcher_61 hl (k := 5) rfl (cs_inc1 i) (by decide) rfl (fun ls hl => ?_)
            refine lv_goto (tgt := 17) hx hb dX2_fletcher_64 (by decide) ?_
            exact ih (i + 1) (by omega) ls (lv_sub hl [3, 4, 2, 1, 5, 0] rfl)
    exact loop (cs_ln S r) 0 (by omega) ls (lv_sub hl [4, 5, 3, 2, 1, 0] rfl)
  · refine lv_iload hx hb dX2_fletcher_17 (lv_at hl 1 rfl) ?_
    refine cs_ifeq (tgt := 67) hx hb dX2_fletcher_19 (by decide) (fun c_19 => ?_) (fun c_19 => ?_)
    · refine lv_sipush (v := 256) hx hb dX2_fletcher_67 (by decide) ?_
      refine lv_iload_n hx hb dX2_fletcher_70 rfl (lv_at hl 2 rfl) ?_
      refine lv_imul hx hb dX2_fletcher_71 ?_
      refine lv_iload_n hx hb dX2_fletcher_72 rfl (lv_at hl 3 rfl) ?_
      refine lv_iadd hx hb dX2_fletcher_73 ?_
      exact W.iret (v := (256 * 0) + 0) hx hb hr (fun t ht _ => ⟨(256 * 0) + 0, (), rfl, fun z => absurd (cs_k1_0.mp z) (by rw [hB]; decide), by rw [ht]; exact hP, by exact hD, hS9.F ht⟩) hS9.2.2 dX2_fletcher_74
    · exact absurd (c_19.symm.trans hB) (by decide)
set_option maxHeartbeats 4000000 in
set_option maxRecDepth 100000 in
theorem k_X2_adler (l : Launch) (D : va_G) (S : cs_St) (th : Int32) (bd : Nat → Nat) (cy : Nat → ClassId) (sz : Nat) (hS : cs_ok S) (v : Int32) : cs_Mw l yX2_adler wsX2_adler ({ frames := 2, cells := 0, slots := 0, locals := 42 }) D (cs_tys cy) (cs_R S th bd cy) sz [.ref (bd 0), .int v] (fun (_ : Unit) => cs_R S (cs_k1 (cs_in v 0 3)) bd cy) (fun rr _ => cs_k1 (cs_in v 0 3) = 0 → rr = cs_vAdl S v) := by
  refine Met.ofW (cc := cX2_adler) (maxL := 6) (ret := (some .int)) (by decide) rfl ?_
  intro pg e s m args below meth c s₁ B hml hv
  obtain ⟨rfl, hsz, hE, hP, hK, hD0⟩ := hv
  subst hsz
  have hD := hD0.self (sz := s.heap.size)
  have hA : ∀ q : Nat, s.heap.size ≤ q → va_A (cs_R S th bd cy) s.heap.size q := fun q h => Or.inr h
  have hS9 : va_S (va_A (cs_R S th bd cy) s.heap.size) s.heap s.heap [] := va_S.rf
  have hx := B.exec
  have hb := B.bytes
  have hr := B.returns
  have hts := atoms_spec (ws := wsX2_adler) B.pre
  have hown : s.vm.findClass RX2 = some m.cls := findClass_of_methodNamed B.named
  have hlocks := B.notSynchronized
  have hl := lv_entry ([.ref (bd 0), .int v]) (n := 6) (Nat.le_of_ble_eq_true rfl)
  rw [lg_entry_eq]
  generalize (lg_sl ([.ref (bd 0), .int v]) ++ List.replicate (6 - (lg_sl ([.ref (bd 0), .int v])).length) Slot.unset).toArray = ls at hl ⊢
  have hl : lv_has ls 6 [(0, .ref (bd 0)), (1, .int v)] := hl
  have hinX2 : ∀ w ∈ wsX20, w ∈ wsX2_adler := fun _ h => by unfold wsX2_adler; exact List.mem_cons_of_mem _ (List.mem_append_right _ h)
  refine lv_iconst (v := 1) hx hb dX2_adler_0 (by decide) ?_
  refine lv_istore_n (lv' := [(2, .int 1), (0, .ref (bd 0)), (1, .int v)]) hx hb dX2_adler_1 rfl hl (by decide) rfl (fun ls hl => ?_)
  refine lv_iconst (v := 0) hx hb dX2_adler_2 (by decide) ?_
  refine lv_istore_n (lv' := [(3, .int 0), (2, .int 1), (0, .ref (bd 0)), (1, .int v)]) hx hb dX2_adler_3 rfl hl (by decide) rfl (fun ls hl => ?_)
  refine lv_aload_n hx hb dX2_adler_4 rfl (lv_at hl 2 rfl) ?_
  refine lv_iload_n hx hb dX2_adler_5 rfl (lv_at hl 3 rfl) ?_
  refine vp_callSi (W.runS (As := [.int v]) (rest := [.ref (bd 0)]) ⟨hx, hb, hml, hown, hts⟩ (k_X2_isRow l D S th bd cy  v) (va_cwS 1 hts gX2_adler_X2_isRow rfl rfl rfl (by decide +kernel) ⟨Nat.le_of_ble_eq_true rfl, Nat.le_of_ble_eq_true rfl⟩) ⟨cs_B.blind, cs_B.at hE cs_none hK⟩ rfl rfl hl.1 rfl (lv_room (Nat.le_of_ble_eq_true rfl)) dX2_adler_6 ⟨Nat.le_of_ble_eq_true rfl, Nat.le_of_ble_eq_true rfl⟩) (fun r_6 e_6 => ?_)
  subst e_6
  have hF := cs_inW hD hS9 hA
  refine cs_wcalli (va_runV (As := [.int (cs_z (cs_in v 0 3))]) (rest := []) ⟨hx, hb, hml, hown, hts⟩ (k_X2_asked l D S th bd cy s.heap.size (cs_in v 0 3)) (cwV 1 hts gX2_adler_X2_asked rfl rfl rfl (by decide +kernel) ⟨Nat.le_of_ble_eq_true rfl, Nat.le_of_ble_eq_true rfl⟩) ⟨cs_Bw.blind, va_recv hK hP (ci := 2) (q0 := 0) rfl rfl, cs_Bw.at hE hP hK hD⟩ rfl rfl hl.1 rfl (lv_room (Nat.le_of_ble_eq_true rfl)) dX2_adler_9 ⟨Nat.le_of_ble_eq_true rfl, Nat.le_of_ble_eq_true rfl⟩) hS9 hF (fun r_9 u9 H locs hp hP hD1 hz hk1 hS9 => ?_)
  have hP : va_P D vwCl (cs_R S (cs_k1 (cs_in v 0 3)) bd cy) H := hP
  have hD : va_D (va_A (cs_R S th bd cy) s.heap.size) (cs_R S (cs_k1 (cs_in v 0 3)) bd cy) := hD1.weaken (fun k q _ h => hF q.1 h)
  subst hp
  refine lv_istore (lv' := [(4, .int (cs_z (cs_in v 0 3))), (3, .int 0), (2, .int 1), (0, .ref (bd 0)), (1, .int v)]) hx hb dX2_adler_12 hl (by decide) rfl (fun ls hl => ?_)
  refine lv_iconst (v := 0) hx hb dX2_adler_14 (by decide) ?_
  refine lv_istore (lv' := [(5, .int 0), (4, .int (cs_z (cs_in v 0 3))), (3, .int 0), (2, .int 1), (0, .ref (bd 0)), (1, .int v)]) hx hb dX2_adler_15 hl (by decide) rfl (fun ls hl => ?_)
  rcases Bool.eq_false_or_eq_true (cs_in v 0 3) with hB | hB
  · obtain ⟨r, hr4, rfl⟩ := cs_row_of hB
    have r31 : r < 2 ^ 31 := by omega
    have hl8 := hS.2.2.1 r
    have loop : ∀ (n i : Nat), i + n = cs_ln S r → ∀ ls : Array Slot, lv_has ls 6 [(0, .ref (bd 0)), (1, .int (nI r)), (2, .int ((cs_ra 65521 1 (cs_by S r) i).1)), (3, .int ((cs_ra 65521 1 (cs_by S r) i).2)), (4, .int (cs_z (cs_in (nI r) 0 3))), (5, .int (nI i))] → W pg l e (headSpec wsX2_adler ({ frames := 2, cells := 0, slots := 0, locals := 42 })).room s m [Value.ref (bd 0), Value.int (nI r)].toArray below meth c H locs 0 0 (MQ below (cs_Qw D (cs_R S th bd cy) (fun (_ : Unit) => cs_R S (cs_k1 (cs_in (nI r) 0 3)) bd cy) (fun rr _ => cs_k1 (cs_in (nI r) 0 3) = 0 → rr = cs_vAdl S (nI r))) [Value.ref (bd 0), Value.int (nI r)].toArray s 0 0 (va_A (cs_R S th bd cy) s.heap.size)) (F0 m 17 ls []) := by
      intro n
      induction n with
      | zero =>
        intro i hi ls hl
        refine lv_iload hx hb dX2_adler_17 (lv_at hl 4 rfl) ?_
        refine cs_ifeq (tgt := 65) hx hb dX2_adler_19 (by decide) (fun c_19 => ?_) (fun c_19 => ?_)
        · exact absurd (c_19.symm.trans hB) (by decide)
        · refine lv_iload hx hb dX2_adler_22 (lv_at hl 5 rfl) ?_
          refine lv_aload_n hx hb dX2_adler_24 rfl (lv_at hl 0 rfl) ?_
          refine va_get (D := D) (ci := 2) (v := .ref (bd 8)) (C := RX2) (T := TX2) (N := 10) hx hb hts hinX2 hown hK hP 0 cs_R0 rfl 8 (by decide) (hts (.fieldLink RX2 32 "ChecksumLabModel" "length" "[I") (by decide +kernel)) (fun _ h9 => h9) rfl dX2_adler_25 ?_
          refine lv_iload_n hx hb dX2_adler_28 rfl (lv_at hl 1 rfl) ?_
          refine cs_iald hx hb hK hP 8 0 cs_R8 rfl (k := r) (hr4) (by decide) dX2_adler_29 ?_
          refine lv_icmp_ge (tgt := 65) hx hb dX2_adler_30 (by decide) (fun c_30 => ?_) (fun c_30 => ?_)
          · refine lv_iload hx hb dX2_adler_65 (lv_at hl 4 rfl) ?_
            refine cs_ifeq (tgt := 79) hx hb dX2_adler_67 (by decide) (fun c_67 => ?_) (fun c_67 => ?_)
            · exact absurd (c_67.symm.trans hB) (by decide)
            · refine lv_ldc (v := 65536) hx hb hown (hts (.constant RX2 114 65536) (by decide +kernel)) dX2_adler_70 ?_
              refine lv_iload_n hx hb dX2_adler_72 rfl (lv_at hl 3 rfl) ?_
              refine lv_imul hx hb dX2_adler_73 ?_
              refine lv_iload_n hx hb dX2_adler_74 rfl (lv_at hl 2 rfl) ?_
              refine lv_iadd hx hb dX2_adler_75 ?_
              refine lv_goto (tgt := 80) hx hb dX2_adler_76 (by decide) ?_
              exact W.iret (v := (65536 * ((cs_ra 65521 1 (cs_by S r) i).2)) + ((cs_ra 65521 1 (cs_by S r) i).1)) hx hb hr (fun t ht _ => ⟨(65536 * ((cs_ra 65521 1 (cs_by S r) i).2)) + ((cs_ra 65521 1 (cs_by S r) i).1), (), rfl, fun _ => by unfold cs_vAdl; rw [cs_cI r31, ← hi, Nat.add_zero], by rw [ht]; exact hP, by exact hD, hS9.F ht⟩) hS9.2.2 dX2_adler_80
          · exact absurd (nI_le (a := cs_ln S r) (b := i) (by omega) (by omega)) c_30
      | succ n ih =>
        intro i hi ls hl
        refine lv_iload hx hb dX2_adler_17 (lv_at hl 4 rfl) ?_
        refine cs_ifeq (tgt := 65) hx hb dX2_adler_19 (by decide) (fun c_19 => ?_) (fun c_19 => ?_)
        · exact absurd (c_19.symm.trans hB) (by decide)
        · refine lv_iload hx hb dX2_adler_22 (lv_at hl 5 rfl) ?_
          refine lv_aload_n hx hb dX2_adler_24 rfl (lv_at hl 0 rfl) ?_
          refine va_get (D := D) (ci := 2) (v := .ref (bd 8)) (C := RX2) (T := TX2) (N := 10) hx hb hts hinX2 hown hK hP 0 cs_R0 rfl 8 (by decide) (hts (.fieldLink RX2 32 "ChecksumLabModel" "length" "[I") (by decide +kernel)) (fun _ h9 => h9) rfl dX2_adler_25 ?_
          refine lv_iload_n hx hb dX2_adler_28 rfl (lv_at hl 1 rfl) ?_
          refine cs_iald hx hb hK hP 8 0 cs_R8 rfl (k := r) (hr4) (by decide) dX2_adler_29 ?_
          refine lv_icmp_ge (tgt := 65) hx hb dX2_adler_30 (by decide) (fun c_30 => ?_) (fun c_30 => ?_)
          · exact absurd c_30 (nI_ge (a := i) (b := cs_ln S r) (by omega) (by omega))
          · refine lv_iload_n hx hb dX2_adler_33 rfl (lv_at hl 2 rfl) ?_
            refine lv_aload_n hx hb dX2_adler_34 rfl (lv_at hl 0 rfl) ?_
            refine va_get (D := D) (ci := 2) (v := .ref (bd 7)) (C := RX2) (T := TX2) (N := 10) hx hb hts hinX2 hown hK hP 0 cs_R0 rfl 7 (by decide) (hts (.fieldLink RX2 29 "ChecksumLabModel" "bytes" "[I") (by decide +kernel)) (fun _ h9 => h9) rfl dX2_adler_35 ?_
            refine lv_sipush (v := 256) hx hb dX2_adler_38 (by decide) ?_
            refine lv_iload_n hx hb dX2_adler_41 rfl (lv_at hl 1 rfl) ?_
            refine lv_imul hx hb dX2_adler_42 ?_
            refine lv_iload hx hb dX2_adler_43 (lv_at hl 5 rfl) ?_
            refine lv_iadd hx hb dX2_adler_45 ?_
            refine cs_top (y := nI (256 * r + i)) (cs_256 r i) ?_
            refine cs_iald hx hb hK hP 7 0 cs_R7 rfl (k := 256 * r + i) (by omega) (by decide) dX2_adler_46 ?_
            refine cs_top (y := nI (cs_by S r i)) (congrArg nI (cs_byE (by omega))) ?_
            refine lv_iadd hx hb dX2_adler_47 ?_
            refine lv_ldc (v := 65521) hx hb hown (hts (.constant RX2 113 65521) (by decide +kernel)) dX2_adler_48 ?_
            refine lv_irem hx hb dX2_adler_50 (by decide) ?_
            refine cs_top (y := cs_rem (((cs_ra 65521 1 (cs_by S r) i).1) + (nI (cs_by S r i))) 65521) (rfl) ?_
            refine lv_istore_n (lv' := [(2, .int (cs_rem (((cs_ra 65521 1 (cs_by S r) i).1) + (nI (cs_by S r i))) 65521)), (0, .ref (bd 0)), (1, .int (nI r)), (3, .int ((cs_ra 65521 1 (cs_by S r) i).2)), (4, .int (cs_z (cs_in (nI r) 0 3))), (5, .int (nI i))]) hx hb dX2_adler_51 rfl hl (by decide) rfl (fun ls hl => ?_)
            refine lv_iload_n hx hb dX2_adler_52 rfl (lv_at hl 3 rfl) ?_
            refine lv_iload_n hx hb dX2_adler_53 rfl (lv_at hl 0 rfl) ?_
            refine lv_iadd hx hb dX2_adler_54 ?_
            refine lv_ldc (v := 65521) hx hb hown (hts (.constant RX2 113 65521) (by decide +kernel)) dX2_adler_55 ?_
            refine lv_irem hx hb dX2_adler_57 (by decide) ?_
            refine cs_top (y := cs_rem (((cs_ra 65521 1 (cs_by S r) i).2) + (cs_rem (((cs_ra 65521 1 (cs_by S r) i).1) + (nI (cs_by S r i))) 65521)) 65521) (rfl) ?_
            refine lv_istore_n (lv' := [(3, .int (cs_rem (((cs_ra 65521 1 (cs_by S r) i).2) + (cs_rem (((cs_ra 65521 1 (cs_by S r) i).1) + (nI (cs_by S r i))) 65521)) 65521)), (2, .int (cs_rem (((cs_ra 65521 1 (cs_by S r) i).1) + (nI (cs_by S r i))) 65521)), (0, .ref (bd 0)), (1, .int (nI r)), (4, .int (cs_z (cs_in (nI r) 0 3))), (5, .int (nI i))]) hx hb dX2_adler_58 rfl hl (by decide) rfl (fun ls hl => ?_)
            refine lv_iinc (v := nI (i + 1)) (lv' := [(5, .int (nI (i + 1))), (3, .int (cs_rem (((cs_ra 65521 1 (cs_by S r) i).2) + (cs_rem (((cs_ra 65521 1 (cs_by S r) i).1) + (nI (cs_by S r i))) 65521)) 65521)), (2, .int (cs_rem (((cs_ra 65521 1 (cs_by S r) i).1) + (nI (cs_by S r i))) 65521)), (0, .ref (bd 0)), (1, .int (nI r)), (4, .int (cs_z (cs_in (nI r) 0 3)))]) hx hb dX2_adler_59 hl (k := 5) rfl (cs_inc1 i) (by decide) rfl (fun ls hl => ?_)
            refine lv_goto (tgt := 17) hx hb dX2_adler_62 (by decide) ?_
            exact ih (i + 1) (by omega) ls (lv_sub hl [3, 4, 2, 1, 5, 0] rfl)
    exact loop (cs_ln S r) 0 (by omega) ls (lv_sub hl [4, 5, 3, 2, 1, 0] rfl)
  · refine lv_iload hx hb dX2_adler_17 (lv_at hl 1 rfl) ?_
    refine cs_ifeq (tgt := 65) hx hb dX2_adler_19 (by decide) (fun c_19 => ?_) (fun c_19 => ?_)
    · refine lv_iload hx hb dX2_adler_65 (lv_at hl 1 rfl) ?_
      refine cs_ifeq (tgt := 79) hx hb dX2_adler_67 (by decide) (fun c_67 => ?_) (fun c_67 => ?_)
      · refine lv_iconst (v := 0) hx hb dX2_adler_79 (by decide) ?_
        exact W.iret (v := 0) hx hb hr (fun t ht _ => ⟨0, (), rfl, fun z => absurd (cs_k1_0.mp z) (by rw [hB]; decide), by rw [ht]; exact hP, by exact hD, hS9.F ht⟩) hS9.2.2 dX2_adler_80
      · exact absurd (c_67.symm.trans hB) (by decide)
    · exact absurd (c_19.symm.trans hB) (by decide)
