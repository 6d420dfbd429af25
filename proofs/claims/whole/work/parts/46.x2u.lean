set_option maxHeartbeats 4000000 in
set_option maxRecDepth 100000 in
theorem k_X2_puts (l : Launch) (D : va_G) (S : cs_St) (th : Int32) (bd : Nat → Nat) (cy : Nat → ClassId) (sz : Nat) (r b : Nat) (hr4 : r < 4) (hlr : cs_ln S r < 256) : cs_Mv l yX2_puts wsX2_puts ({ frames := 0, cells := 0, slots := 0, locals := 0 }) D (cs_tys cy) (cs_R S th bd cy) sz [.ref (bd 0), .int (nI r), .int (nI b)] (fun (_ : Unit) => cs_R (cs_put S r (cs_ln S r + 1) (va_up (cs_by S r) (cs_ln S r) b)) th bd cy) (fun _ => True) := by
  refine Met.ofW (cc := cX2_puts) (maxL := 3) (ret := none) (by decide) rfl ?_
  intro pg e s m args below meth c s₁ B hml hv
  obtain ⟨rfl, hsz, hE, hP, hK, hD0⟩ := hv
  subst hsz
  have hD := hD0.self (sz := s.heap.size)
  have hA : ∀ q : Nat, s.heap.size ≤ q → va_A (cs_R S th bd cy) s.heap.size q := fun q h => Or.inr h
  have hS9 : va_S (va_A (cs_R S th bd cy) s.heap.size) s.heap s.heap [] := va_S.rf
  have hx := B.exec
  have hb := B.bytes
  have hr := B.returns
  have hts := atoms_spec (ws := wsX2_puts) B.pre
  have hown : s.vm.findClass RX2 = some m.cls := findClass_of_methodNamed B.named
  have hlocks := B.notSynchronized
  have hl := lv_entry ([.ref (bd 0), .int (nI r), .int (nI b)]) (n := 3) (Nat.le_of_ble_eq_true rfl)
  rw [lg_entry_eq]
  generalize (lg_sl ([.ref (bd 0), .int (nI r), .int (nI b)]) ++ List.replicate (3 - (lg_sl ([.ref (bd 0), .int (nI r), .int (nI b)])).length) Slot.unset).toArray = ls at hl ⊢
  have hl : lv_has ls 3 [(0, .ref (bd 0)), (1, .int (nI r)), (2, .int (nI b))] := hl
  have hinX2 : ∀ w ∈ wsX20, w ∈ wsX2_puts := fun _ h => by unfold wsX2_puts; exact List.mem_cons_of_mem _ (List.mem_append_right _ h)
  refine lv_aload_n hx hb dX2_puts_0 rfl (lv_at hl 0 rfl) ?_
  refine va_get (D := D) (ci := 2) (v := .ref (bd 7)) (C := RX2) (T := TX2) (N := 10) hx hb hts hinX2 hown hK hP 0 cs_R0 rfl 7 (by decide) (hts (.fieldLink RX2 29 "ChecksumLabModel" "bytes" "[I") (by decide +kernel)) (fun _ h9 => h9) rfl dX2_puts_1 ?_
  refine lv_sipush (v := 256) hx hb dX2_puts_4 (by decide) ?_
  refine lv_iload_n hx hb dX2_puts_7 rfl (lv_at hl 1 rfl) ?_
  refine lv_imul hx hb dX2_puts_8 ?_
  refine lv_aload_n hx hb dX2_puts_9 rfl (lv_at hl 0 rfl) ?_
  refine va_get (D := D) (ci := 2) (v := .ref (bd 8)) (C := RX2) (T := TX2) (N := 10) hx hb hts hinX2 hown hK hP 0 cs_R0 rfl 8 (by decide) (hts (.fieldLink RX2 32 "ChecksumLabModel" "length" "[I") (by decide +kernel)) (fun _ h9 => h9) rfl dX2_puts_10 ?_
  refine lv_iload_n hx hb dX2_puts_13 rfl (lv_at hl 1 rfl) ?_
  refine cs_iald hx hb hK hP 8 0 cs_R8 rfl (k := r) (hr4) (by decide) dX2_puts_14 ?_
  refine lv_iadd hx hb dX2_puts_15 ?_
  refine cs_top (y := nI (256 * r + cs_ln S r)) (cs_256 r _) ?_
  refine lv_iload_n hx hb dX2_puts_16 rfl (lv_at hl 2 rfl) ?_
  refine cs_iast hx hb hK hP hD hS9 7 0 cs_R7 rfl (k := 256 * r + cs_ln S r) (by omega) (by decide) dX2_puts_17 (fun H locs hP hD hS9 => ?_)
  rw [cs_setB hlr] at hP hD
  have hP : va_P D vwCl (cs_R (cs_put S r (cs_ln S r) (va_up (cs_by S r) (cs_ln S r) b)) th bd cy) H := hP
  have hD : va_D (va_A (cs_R S th bd cy) s.heap.size) (cs_R (cs_put S r (cs_ln S r) (va_up (cs_by S r) (cs_ln S r) b)) th bd cy) := hD
  refine lv_aload_n hx hb dX2_puts_18 rfl (lv_at hl 0 rfl) ?_
  refine va_get (D := D) (ci := 2) (v := .ref (bd 8)) (C := RX2) (T := TX2) (N := 10) hx hb hts hinX2 hown hK hP 0 cs_R0 rfl 8 (by decide) (hts (.fieldLink RX2 32 "ChecksumLabModel" "length" "[I") (by decide +kernel)) (fun _ h9 => h9) rfl dX2_puts_19 ?_
  refine lv_iload_n hx hb dX2_puts_22 rfl (lv_at hl 1 rfl) ?_
  refine lv_dup2_11 hx hb dX2_puts_23 rfl rfl ?_
  refine cs_iald hx hb hK hP 8 0 cs_R8 rfl (k := r) (hr4) (by decide) dX2_puts_24 ?_
  refine cs_top (y := nI (cs_ln S r)) (congrArg nI cs_put_ln) ?_
  refine lv_iconst (v := 1) hx hb dX2_puts_25 (by decide) ?_
  refine lv_iadd hx hb dX2_puts_26 ?_
  refine cs_top (y := nI (cs_ln S r + 1)) (nI_1 _) ?_
  refine cs_iast hx hb hK hP hD hS9 8 0 cs_R8 rfl (k := r) (hr4) (by decide) dX2_puts_27 (fun H locs hP hD hS9 => ?_)
  rw [cs_setL, cs_put_put, cs_put_by] at hP hD
  have hP : va_P D vwCl (cs_R (cs_put S r (cs_ln S r + 1) (va_up (cs_by S r) (cs_ln S r) b)) th bd cy) H := hP
  have hD : va_D (va_A (cs_R S th bd cy) s.heap.size) (cs_R (cs_put S r (cs_ln S r + 1) (va_up (cs_by S r) (cs_ln S r) b)) th bd cy) := hD
  exact W.vret hx hb hr (fun t ht _ => ⟨(), rfl, trivial, by rw [ht]; exact hP, by exact hD, hS9.F ht⟩) hS9.2.2 dX2_puts_28
set_option maxHeartbeats 4000000 in
set_option maxRecDepth 100000 in
theorem k_X2_append (l : Launch) (D : va_G) (S : cs_St) (th : Int32) (bd : Nat → Nat) (cy : Nat → ClassId) (sz : Nat) (hS : cs_ok S) (v u : Int32) : cs_Mw l yX2_append wsX2_append ({ frames := 2, cells := 0, slots := 0, locals := 42 }) D (cs_tys cy) (cs_R S th bd cy) sz [.ref (bd 0), .int v, .int u] (fun (_ : Unit) => cs_R (cs_sApp S v u) (cs_kApp S v u) bd cy) (fun rr _ => cs_kApp S v u = 0 → rr = cs_vApp S v) := by
  refine Met.ofW (cc := cX2_append) (maxL := 3) (ret := (some .int)) (by decide) rfl ?_
  intro pg e s m args below meth c s₁ B hml hv
  obtain ⟨rfl, hsz, hE, hP, hK, hD0⟩ := hv
  subst hsz
  have hD := hD0.self (sz := s.heap.size)
  have hA : ∀ q : Nat, s.heap.size ≤ q → va_A (cs_R S th bd cy) s.heap.size q := fun q h => Or.inr h
  have hS9 : va_S (va_A (cs_R S th bd cy) s.heap.size) s.heap s.heap [] := va_S.rf
  have hx := B.exec
  have hb := B.bytes
  have hr := B.returns
  have hts := atoms_spec (ws := wsX2_append) B.pre
  have hown : s.vm.findClass RX2 = some m.cls := findClass_of_methodNamed B.named
  have hlocks := B.notSynchronized
  have hl := lv_entry ([.ref (bd 0), .int v, .int u]) (n := 3) (Nat.le_of_ble_eq_true rfl)
  rw [lg_entry_eq]
  generalize (lg_sl ([.ref (bd 0), .int v, .int u]) ++ List.replicate (3 - (lg_sl ([.ref (bd 0), .int v, .int u])).length) Slot.unset).toArray = ls at hl ⊢
  have hl : lv_has ls 3 [(0, .ref (bd 0)), (1, .int v), (2, .int u)] := hl
  have hinX2 : ∀ w ∈ wsX20, w ∈ wsX2_append := fun _ h => by unfold wsX2_append; exact List.mem_cons_of_mem _ (List.mem_append_right _ h)
  refine lv_aload_n hx hb dX2_append_0 rfl (lv_at hl 0 rfl) ?_
  refine lv_iload_n hx hb dX2_append_1 rfl (lv_at hl 1 rfl) ?_
  refine vp_callSi (W.runS (As := [.int v]) (rest := [.ref (bd 0)]) ⟨hx, hb, hml, hown, hts⟩ (k_X2_isRow l D S th bd cy  v) (va_cwS 1 hts gX2_append_X2_isRow rfl rfl rfl (by decide +kernel) ⟨Nat.le_of_ble_eq_true rfl, Nat.le_of_ble_eq_true rfl⟩) ⟨cs_B.blind, cs_B.at hE cs_none hK⟩ rfl rfl hl.1 rfl (lv_room (Nat.le_of_ble_eq_true rfl)) dX2_append_2 ⟨Nat.le_of_ble_eq_true rfl, Nat.le_of_ble_eq_true rfl⟩) (fun r_2 e_2 => ?_)
  subst e_2
  refine cs_ifne (tgt := 12) hx hb dX2_append_5 (by decide) (fun c_5 => ?_) (fun c_5 => ?_)
  · have hrw := c_5
    obtain ⟨r, hr4, rfl⟩ := cs_row_of c_5
    have r31 : r < 2 ^ 31 := by omega
    refine lv_iload_n hx hb dX2_append_12 rfl (lv_at hl 2 rfl) ?_
    refine vp_callSi (W.runS (As := [.int u]) (rest := [.ref (bd 0)]) ⟨hx, hb, hml, hown, hts⟩ (k_X2_isByte l D S th bd cy  u) (va_cwS 1 hts gX2_append_X2_isByte rfl rfl rfl (by decide +kernel) ⟨Nat.le_of_ble_eq_true rfl, Nat.le_of_ble_eq_true rfl⟩) ⟨cs_B.blind, cs_B.at hE cs_none hK⟩ rfl rfl hl.1 rfl (lv_room (Nat.le_of_ble_eq_true rfl)) dX2_append_13 ⟨Nat.le_of_ble_eq_true rfl, Nat.le_of_ble_eq_true rfl⟩) (fun r_13 e_13 => ?_)
    subst e_13
    refine cs_ifne (tgt := 23) hx hb dX2_append_16 (by decide) (fun c_16 => ?_) (fun c_16 => ?_)
    · have hbt := c_16
      obtain ⟨b, hb256, rfl⟩ := cs_byte_of c_16
      have b31 : b < 2 ^ 31 := by omega
      refine lv_aload_n hx hb dX2_append_23 rfl (lv_at hl 0 rfl) ?_
      refine va_get (D := D) (ci := 2) (v := .ref (bd 8)) (C := RX2) (T := TX2) (N := 10) hx hb hts hinX2 hown hK hP 0 cs_R0 rfl 8 (by decide) (hts (.fieldLink RX2 32 "ChecksumLabModel" "length" "[I") (by decide +kernel)) (fun _ h9 => h9) rfl dX2_append_24 ?_
      refine lv_iload_n hx hb dX2_append_27 rfl (lv_at hl 1 rfl) ?_
      refine cs_iald hx hb hK hP 8 0 cs_R8 rfl (k := r) (hr4) (by decide) dX2_append_28 ?_
      refine lv_sipush (v := 256) hx hb dX2_append_29 (by decide) ?_
      refine lv_icmp_ne (tgt := 39) hx hb dX2_append_32 (by decide) (fun c_32 => ?_) (fun c_32 => ?_)
      · refine lv_iconst (v := 0) hx hb dX2_append_39 (by decide) ?_
        refine va_put (D := D) (ci := 2) (v := .int 0) (ty := .int) (C := RX2) (T := TX2) (N := 10) hx hb hts hinX2 tyX2 tyX2_ok nmX2 hown hK hP hD hS9 0 cs_R0 rfl 9 (by decide) (hts (.fieldLink RX2 35 "ChecksumLabModel" "thrown" "I") (by decide +kernel)) (fun _ h9 => h9) rfl (by decide +kernel) rfl rfl (Nat.le_of_ble_eq_true rfl) dX2_append_40 (fun H locs hP hD hS9 => ?_)
        have hP : va_P D vwCl (cs_R S 0 bd cy) H := hP
        have hD : va_D (va_A (cs_R S th bd cy) s.heap.size) (cs_R S 0 bd cy) := hD
        have hl9 : cs_ln S r < 256 := by have := hS.2.2.1 r; have h2 : cs_ln S r ≠ 256 := fun h => c_32 (by rw [h]; rfl); omega
        have ek : cs_kApp S (nI r) (nI b) = 0 := by unfold cs_kApp; rw [if_pos hrw, if_pos hbt, cs_cI r31, if_neg (by omega)]
        have es : cs_sApp S (nI r) (nI b) = cs_put S r (cs_ln S r + 1) (va_up (cs_by S r) (cs_ln S r) b) := by unfold cs_sApp; rw [if_pos ek, cs_cI r31, cs_cI b31]
        refine lv_aload_n hx hb dX2_append_43 rfl (lv_at hl 0 rfl) ?_
        refine va_get (D := D) (ci := 2) (v := .int 0) (C := RX2) (T := TX2) (N := 10) hx hb hts hinX2 hown hK hP 0 cs_R0 rfl 9 (by decide) (hts (.fieldLink RX2 35 "ChecksumLabModel" "thrown" "I") (by decide +kernel)) (fun _ h9 => h9) rfl dX2_append_44 ?_
        refine lv_if_le (tgt := 52) hx hb dX2_append_47 (by decide) (fun c_47 => ?_) (fun c_47 => ?_)
        · refine lv_aload_n hx hb dX2_append_52 rfl (lv_at hl 0 rfl) ?_
          refine lv_iload_n hx hb dX2_append_53 rfl (lv_at hl 1 rfl) ?_
          refine lv_iload_n hx hb dX2_append_54 rfl (lv_at hl 2 rfl) ?_
          have hF := cs_inW hD hS9 hA
          refine cs_wcallv (va_runV (As := [.int (nI r), .int (nI b)]) (rest := []) ⟨hx, hb, hml, hown, hts⟩ (k_X2_puts l D S 0 bd cy H.size r b hr4 hl9) (cwV 2 hts gX2_append_X2_puts rfl rfl rfl (by decide +kernel) ⟨Nat.le_of_ble_eq_true rfl, Nat.le_of_ble_eq_true rfl⟩) ⟨cs_Bw.blind, va_recv hK hP (ci := 2) (q0 := 0) rfl rfl, cs_Bw.at hE hP hK hD⟩ rfl rfl hl.1 rfl (lv_room (Nat.le_of_ble_eq_true rfl)) dX2_append_55 ⟨Nat.le_of_ble_eq_true rfl, Nat.le_of_ble_eq_true rfl⟩) hS9 hF (fun u9 H locs hp hP hD1 hz hk1 hS9 => ?_)
          have hP : va_P D vwCl (cs_R (cs_put S r (cs_ln S r + 1) (va_up (cs_by S r) (cs_ln S r) b)) 0 bd cy) H := hP
          have hD : va_D (va_A (cs_R S th bd cy) s.heap.size) (cs_R (cs_put S r (cs_ln S r + 1) (va_up (cs_by S r) (cs_ln S r) b)) 0 bd cy) := hD1.weaken (fun k q _ h => hF q.1 h)
          refine lv_aload_n hx hb dX2_append_58 rfl (lv_at hl 0 rfl) ?_
          refine va_get (D := D) (ci := 2) (v := .ref (bd 8)) (C := RX2) (T := TX2) (N := 10) hx hb hts hinX2 hown hK hP 0 cs_R0 rfl 8 (by decide) (hts (.fieldLink RX2 32 "ChecksumLabModel" "length" "[I") (by decide +kernel)) (fun _ h9 => h9) rfl dX2_append_59 ?_
          refine lv_iload_n hx hb dX2_append_62 rfl (lv_at hl 1 rfl) ?_
          refine cs_iald hx hb hK hP 8 0 cs_R8 rfl (k := r) (hr4) (by decide) dX2_append_63 ?_
          refine cs_top (y := nI (cs_ln S r + 1)) (congrArg nI cs_put_ln) ?_
          exact W.iret (v := nI (cs_ln S r + 1)) hx hb hr (fun t ht _ => ⟨nI (cs_ln S r + 1), (), rfl, fun _ => by unfold cs_vApp; rw [cs_cI r31], by rw [ht, ek, es]; exact hP, by rw [ek, es]; exact hD, hS9.F ht⟩) hS9.2.2 dX2_append_64
        · exact absurd (by decide) c_47
      · refine lv_iconst (v := 3) hx hb dX2_append_35 (by decide) ?_
        refine lv_goto (tgt := 40) hx hb dX2_append_36 (by decide) ?_
        refine va_put (D := D) (ci := 2) (v := .int 3) (ty := .int) (C := RX2) (T := TX2) (N := 10) hx hb hts hinX2 tyX2 tyX2_ok nmX2 hown hK hP hD hS9 0 cs_R0 rfl 9 (by decide) (hts (.fieldLink RX2 35 "ChecksumLabModel" "thrown" "I") (by decide +kernel)) (fun _ h9 => h9) rfl (by decide +kernel) rfl rfl (Nat.le_of_ble_eq_true rfl) dX2_append_40 (fun H locs hP hD hS9 => ?_)
        have hP : va_P D vwCl (cs_R S 3 bd cy) H := hP
        have hD : va_D (va_A (cs_R S th bd cy) s.heap.size) (cs_R S 3 bd cy) := hD
        have ek : cs_kApp S (nI r) (nI b) = 3 := by unfold cs_kApp; rw [if_pos hrw, if_pos hbt, cs_cI r31, if_pos ((nI_eq (b := 256) (by have := hS.2.2.1 r; omega) (by decide)).mp c_32)]
        have es : cs_sApp S (nI r) (nI b) = S := if_neg (by rw [ek]; decide)
        refine lv_aload_n hx hb dX2_append_43 rfl (lv_at hl 0 rfl) ?_
        refine va_get (D := D) (ci := 2) (v := .int 3) (C := RX2) (T := TX2) (N := 10) hx hb hts hinX2 hown hK hP 0 cs_R0 rfl 9 (by decide) (hts (.fieldLink RX2 35 "ChecksumLabModel" "thrown" "I") (by decide +kernel)) (fun _ h9 => h9) rfl dX2_append_44 ?_
        refine lv_if_le (tgt := 52) hx hb dX2_append_47 (by decide) (fun c_47 => ?_) (fun c_47 => ?_)
        · exact absurd c_47 (by decide)
        · refine lv_iconst (v := 0) hx hb dX2_append_50 (by decide) ?_
          exact W.iret (v := 0) hx hb hr (fun t ht _ => ⟨0, (), rfl, fun z => absurd (ek.symm.trans z) (by decide), by rw [ht, ek, es]; exact hP, by rw [ek, es]; exact hD, hS9.F ht⟩) hS9.2.2 dX2_append_51
    · refine lv_iconst (v := 2) hx hb dX2_append_19 (by decide) ?_
      refine lv_goto (tgt := 40) hx hb dX2_append_20 (by decide) ?_
      refine va_put (D := D) (ci := 2) (v := .int 2) (ty := .int) (C := RX2) (T := TX2) (N := 10) hx hb hts hinX2 tyX2 tyX2_ok nmX2 hown hK hP hD hS9 0 cs_R0 rfl 9 (by decide) (hts (.fieldLink RX2 35 "ChecksumLabModel" "thrown" "I") (by decide +kernel)) (fun _ h9 => h9) rfl (by decide +kernel) rfl rfl (Nat.le_of_ble_eq_true rfl) dX2_append_40 (fun H locs hP hD hS9 => ?_)
      have hP : va_P D vwCl (cs_R S 2 bd cy) H := hP
      have hD : va_D (va_A (cs_R S th bd cy) s.heap.size) (cs_R S 2 bd cy) := hD
      have ek : cs_kApp S (nI r) u = 2 := by unfold cs_kApp; rw [if_pos hrw, if_neg (by rw [c_16]; decide)]
      have es : cs_sApp S (nI r) u = S := if_neg (by rw [ek]; decide)
      refine lv_aload_n hx hb dX2_append_43 rfl (lv_at hl 0 rfl) ?_
      refine va_get (D := D) (ci := 2) (v := .int 2) (C := RX2) (T := TX2) (N := 10) hx hb hts hinX2 hown hK hP 0 cs_R0 rfl 9 (by decide) (hts (.fieldLink RX2 35 "ChecksumLabModel" "thrown" "I") (by decide +kernel)) (fun _ h9 => h9) rfl dX2_append_44 ?_
      refine lv_if_le (tgt := 52) hx hb dX2_append_47 (by decide) (fun c_47 => ?_) (fun c_47 => ?_)
      · exact absurd c_47 (by decide)
      · refine lv_iconst (v := 0) hx hb dX2_append_50 (by decide) ?_
        exact W.iret (v := 0) hx hb hr (fun t ht _ => ⟨0, (), rfl, fun z => absurd (ek.symm.trans z) (by decide), by rw [ht, ek, es]; exact hP, by rw [ek, es]; exact hD, hS9.F ht⟩) hS9.2.2 dX2_append_51
  · refine lv_iconst (v := 1) hx hb dX2_append_8 (by decide) ?_
    refine lv_goto (tgt := 40) hx hb dX2_append_9 (by decide) ?_
    refine va_put (D := D) (ci := 2) (v := .int 1) (ty := .int) (C := RX2) (T := TX2) (N := 10) hx hb hts hinX2 tyX2 tyX2_ok nmX2 hown hK hP hD hS9 0 cs_R0 rfl 9 (by decide) (hts (.fieldLink RX2 35 "ChecksumLabModel" "thrown" "I") (by decide +kernel)) (fun _ h9 => h9) rfl (by decide +kernel) rfl rfl (Nat.le_of_ble_eq_true rfl) dX2_append_40 (fun H locs hP hD hS9 => ?_)
    have hP : va_P D vwCl (cs_R S 1 bd cy) H := hP
    have hD : va_D (va_A (cs_R S th bd cy) s.heap.size) (cs_R S 1 bd cy) := hD
    have ek : cs_kApp S v u = 1 := by unfold cs_kApp; rw [if_neg (by rw [c_5]; decide)]
    have es : cs_sApp S v u = S := if_neg (by rw [ek]; decide)
    refine lv_aload_n hx hb dX2_append_43 rfl (lv_at hl 0 rfl) ?_
    refine va_get (D := D) (ci := 2) (v := .int 1) (C := RX2) (T := TX2) (N := 10) hx hb hts hinX2 hown hK hP 0 cs_R0 rfl 9 (by decide) (hts (.fieldLink RX2 35 "ChecksumLabModel" "thrown" "I") (by decide +kernel)) (fun _ h9 => h9) rfl dX2_append_44 ?_
    refine lv_if_le (tgt := 52) hx hb dX2_append_47 (by decide) (fun c_47 => ?_) (fun c_47 => ?_)
    · exact absurd c_47 (by decide)
    · refine lv_iconst (v := 0) hx hb dX2_append_50 (by decide) ?_
      exact W.iret (v := 0) hx hb hr (fun t ht _ => ⟨0, (), rfl, fun z => absurd (ek.symm.trans z) (by decide), by rw [ht, ek, es]; exact hP, by rw [ek, es]; exact hD, hS9.F ht⟩) hS9.2.2 dX2_append_51
set_option maxHeartbeats 4000000 in
set_option maxRecDepth 100000 in
theorem k_X2_setByte (l : Launch) (D : va_G) (S : cs_St) (th : Int32) (bd : Nat → Nat) (cy : Nat → ClassId) (sz : Nat) (hS : cs_ok S) (v u d : Int32) : cs_Mw l yX2_setByte wsX2_setByte ({ frames := 3, cells := 0, slots := 0, locals := 64 }) D (cs_tys cy) (cs_R S th bd cy) sz [.ref (bd 0), .int v, .int u, .int d] (fun (_ : Unit) => cs_R (cs_sSet S v u d) (cs_kSet S v u d) bd cy) (fun rr _ => cs_kSet S v u d = 0 → rr = cs_vByt S v u) := by
  refine Met.ofW (cc := cX2_setByte) (maxL := 5) (ret := (some .int)) (by decide) rfl ?_
  intro pg e s m args below meth c s₁ B hml hv
  obtain ⟨rfl, hsz, hE, hP, hK, hD0⟩ := hv
  subst hsz
  have hD := hD0.self (sz := s.heap.size)
  have hA : ∀ q : Nat, s.heap.size ≤ q → va_A (cs_R S th bd cy) s.heap.size q := fun q h => Or.inr h
  have hS9 : va_S (va_A (cs_R S th bd cy) s.heap.size) s.heap s.heap [] := va_S.rf
  have hx := B.exec
  have hb := B.bytes
  have hr := B.returns
  have hts := atoms_spec (ws := wsX2_setByte) B.pre
  have hown : s.vm.findClass RX2 = some m.cls := findClass_of_methodNamed B.named
  have hlocks := B.notSynchronized
  have hl := lv_entry ([.ref (bd 0), .int v, .int u, .int d]) (n := 5) (Nat.le_of_ble_eq_true rfl)
  rw [lg_entry_eq]
  generalize (lg_sl ([.ref (bd 0), .int v, .int u, .int d]) ++ List.replicate (5 - (lg_sl ([.ref (bd 0), .int v, .int u, .int d])).length) Slot.unset).toArray = ls at hl ⊢
  have hl : lv_has ls 5 [(0, .ref (bd 0)), (1, .int v), (2, .int u), (3, .int d)] := hl
  have hinX2 : ∀ w ∈ wsX20, w ∈ wsX2_setByte := fun _ h => by unfold wsX2_setByte; exact List.mem_cons_of_mem _ (List.mem_append_right _ h)
  refine lv_aload_n hx hb dX2_setByte_0 rfl (lv_at hl 0 rfl) ?_
  refine lv_aload_n hx hb dX2_setByte_1 rfl (lv_at hl 0 rfl) ?_
  refine lv_iload_n hx hb dX2_setByte_2 rfl (lv_at hl 1 rfl) ?_
  refine lv_iload_n hx hb dX2_setByte_3 rfl (lv_at hl 2 rfl) ?_
  refine vp_callSi (W.runV (As := [.int v, .int u]) (rest := [.ref (bd 0)]) ⟨hx, hb, hml, hown, hts⟩ (k_X2_isPlace l D S th bd cy  v u) (cwV 2 hts gX2_setByte_X2_isPlace rfl rfl rfl (by decide +kernel) ⟨Nat.le_of_ble_eq_true rfl, Nat.le_of_ble_eq_true rfl⟩) ⟨cs_B.blind, va_recv hK hP (ci := 2) (q0 := 0) rfl rfl, cs_B.at hE hP hK⟩ rfl rfl hl.1 rfl (lv_room (Nat.le_of_ble_eq_true rfl)) dX2_setByte_4 ⟨Nat.le_of_ble_eq_true rfl, Nat.le_of_ble_eq_true rfl⟩) (fun r_4 e_4 => ?_)
  subst e_4
  refine lv_iload_n hx hb dX2_setByte_7 rfl (lv_at hl 3 rfl) ?_
  refine vp_callSi (W.runS (As := [.int d]) (rest := [.int (cs_z (cs_pl S v u)), .ref (bd 0)]) ⟨hx, hb, hml, hown, hts⟩ (k_X2_isByte l D S th bd cy  d) (va_cwS 1 hts gX2_setByte_X2_isByte rfl rfl rfl (by decide +kernel) ⟨Nat.le_of_ble_eq_true rfl, Nat.le_of_ble_eq_true rfl⟩) ⟨cs_B.blind, cs_B.at hE cs_none hK⟩ rfl rfl hl.1 rfl (lv_room (Nat.le_of_ble_eq_true rfl)) dX2_setByte_8 ⟨Nat.le_of_ble_eq_true rfl, Nat.le_of_ble_eq_true rfl⟩) (fun r_8 e_8 => ?_)
  subst e_8
  have hF := cs_inW hD hS9 hA
  refine cs_wcalli (va_runV (As := [.int (cs_z (cs_pl S v u)), .int (cs_z (cs_in d 0 255))]) (rest := []) ⟨hx, hb, hml, hown, hts⟩ (k_X2_asked_ l D S th bd cy s.heap.size (cs_pl S v u) (cs_in d 0 255)) (cwV 2 hts gX2_setByte_X2_asked_ rfl rfl rfl (by decide +kernel) ⟨Nat.le_of_ble_eq_true rfl, Nat.le_of_ble_eq_true rfl⟩) ⟨cs_Bw.blind, va_recv hK hP (ci := 2) (q0 := 0) rfl rfl, cs_Bw.at hE hP hK hD⟩ rfl rfl hl.1 rfl (lv_room (Nat.le_of_ble_eq_true rfl)) dX2_setByte_11 ⟨Nat.le_of_ble_eq_true rfl, Nat.le_of_ble_eq_true rfl⟩) hS9 hF (fun r_11 u9 H locs hp hP hD1 hz hk1 hS9 => ?_)
  have hP : va_P D vwCl (cs_R S (cs_k2 (cs_pl S v u) (cs_in d 0 255)) bd cy) H := hP
  have hD : va_D (va_A (cs_R S th bd cy) s.heap.size) (cs_R S (cs_k2 (cs_pl S v u) (cs_in d 0 255)) bd cy) := hD1.weaken (fun k q _ h => hF q.1 h)
  subst hp
  refine cs_ifne (tgt := 19) hx hb dX2_setByte_14 (by decide) (fun c_14 => ?_) (fun c_14 => ?_)
  · obtain ⟨hp9, hbt⟩ := cs_and c_14
    have ek : cs_kSet S v u d = 0 := cs_k2_0.mpr c_14
    have es : cs_sSet S v u d = cs_put S (cs_c v) (cs_ln S (cs_c v)) (va_up (cs_by S (cs_c v)) (cs_c u) (cs_c d)) := if_pos ek
    obtain ⟨r, j, hr4, hj, rfl, rfl⟩ := cs_pl_of hS hp9
    have r31 : r < 2 ^ 31 := by omega
    have hl8 := hS.2.2.1 r
    have j31 : j < 2 ^ 31 := by omega
    obtain ⟨b, hb256, rfl⟩ := cs_byte_of hbt
    have b31 : b < 2 ^ 31 := by omega
    rw [cs_cI r31, cs_cI j31, cs_cI b31] at es
    refine lv_aload_n hx hb dX2_setByte_19 rfl (lv_at hl 0 rfl) ?_
    refine va_get (D := D) (ci := 2) (v := .ref (bd 7)) (C := RX2) (T := TX2) (N := 10) hx hb hts hinX2 hown hK hP 0 cs_R0 rfl 7 (by decide) (hts (.fieldLink RX2 29 "ChecksumLabModel" "bytes" "[I") (by decide +kernel)) (fun _ h9 => h9) rfl dX2_setByte_20 ?_
    refine lv_sipush (v := 256) hx hb dX2_setByte_23 (by decide) ?_
    refine lv_iload_n hx hb dX2_setByte_26 rfl (lv_at hl 1 rfl) ?_
    refine lv_imul hx hb dX2_setByte_27 ?_
    refine lv_iload_n hx hb dX2_setByte_28 rfl (lv_at hl 2 rfl) ?_
    refine lv_iadd hx hb dX2_setByte_29 ?_
    refine cs_top (y := nI (256 * r + j)) (cs_256 r j) ?_
    refine cs_iald hx hb hK hP 7 0 cs_R7 rfl (k := 256 * r + j) (by omega) (by decide) dX2_setByte_30 ?_
    refine cs_top (y := nI (cs_by S r j)) (congrArg nI (cs_byE (by omega))) ?_
    refine lv_istore (lv' := [(4, .int (nI (cs_by S r j))), (0, .ref (bd 0)), (1, .int (nI r)), (2, .int (nI j)), (3, .int (nI b))]) hx hb dX2_setByte_31 hl (by decide) rfl (fun ls hl => ?_)
    refine lv_aload_n hx hb dX2_setByte_33 rfl (lv_at hl 1 rfl) ?_
    refine va_get (D := D) (ci := 2) (v := .ref (bd 7)) (C := RX2) (T := TX2) (N := 10) hx hb hts hinX2 hown hK hP 0 cs_R0 rfl 7 (by decide) (hts (.fieldLink RX2 29 "ChecksumLabModel" "bytes" "[I") (by decide +kernel)) (fun _ h9 => h9) rfl dX2_setByte_34 ?_
    refine lv_sipush (v := 256) hx hb dX2_setByte_37 (by decide) ?_
    refine lv_iload_n hx hb dX2_setByte_40 rfl (lv_at hl 2 rfl) ?_
    refine lv_imul hx hb dX2_setByte_41 ?_
    refine lv_iload_n hx hb dX2_setByte_42 rfl (lv_at hl 3 rfl) ?_
    refine lv_iadd hx hb dX2_setByte_43 ?_
    refine cs_top (y := nI (256 * r + j)) (cs_256 r j) ?_
    refine lv_iload_n hx hb dX2_setByte_44 rfl (lv_at hl 4 rfl) ?_
    refine cs_iast hx hb hK hP hD hS9 7 0 cs_R7 rfl (k := 256 * r + j) (by omega) (by decide) dX2_setByte_45 (fun H locs hP hD hS9 => ?_)
    rw [cs_setB (by omega)] at hP hD
    have hP : va_P D vwCl (cs_R (cs_put S r (cs_ln S r) (va_up (cs_by S r) j b)) (cs_k2 (cs_pl S (nI r) (nI j)) (cs_in (nI b) 0 255)) bd cy) H := hP
    have hD : va_D (va_A (cs_R S th bd cy) s.heap.size) (cs_R (cs_put S r (cs_ln S r) (va_up (cs_by S r) j b)) (cs_k2 (cs_pl S (nI r) (nI j)) (cs_in (nI b) 0 255)) bd cy) := hD
    refine lv_iload hx hb dX2_setByte_46 (lv_at hl 0 rfl) ?_
    exact W.iret (v := nI (cs_by S r j)) hx hb hr (fun t ht _ => ⟨nI (cs_by S r j), (), rfl, fun _ => by unfold cs_vByt; rw [cs_cI r31, cs_cI j31], by rw [ht, es]; exact hP, by rw [es]; exact hD, hS9.F ht⟩) hS9.2.2 dX2_setByte_48
  · have es : cs_sSet S v u d = S := if_neg (fun z => absurd (cs_k2_0.mp z) (by rw [c_14]; decide))
    refine lv_iconst (v := 0) hx hb dX2_setByte_17 (by decide) ?_
    exact W.iret (v := 0) hx hb hr (fun t ht _ => ⟨0, (), rfl, fun z => absurd (cs_k2_0.mp z) (by rw [c_14]; decide), by rw [ht, es]; exact hP, by rw [es]; exact hD, hS9.F ht⟩) hS9.2.2 dX2_setByte_18
set_option maxHeartbeats 4000000 in
set_option maxRecDepth 100000 in
theorem k_X2_truncate (l : Launch) (D : va_G) (S : cs_St) (th : Int32) (bd : Nat → Nat) (cy : Nat → ClassId) (sz : Nat) (hS : cs_ok S) (v u : Int32) : cs_Mw l yX2_truncate wsX2_truncate ({ frames := 2, cells := 0, slots := 0, locals := 42 }) D (cs_tys cy) (cs_R S th bd cy) sz [.ref (bd 0), .int v, .int u] (fun (_ : Unit) => cs_R (cs_sTru S v u) (cs_kTru S v u) bd cy) (fun rr _ => cs_kTru S v u = 0 → rr = cs_vTru S v u) := by
  refine Met.ofW (cc := cX2_truncate) (maxL := 5) (ret := (some .int)) (by decide) rfl ?_
  intro pg e s m args below meth c s₁ B hml hv
  obtain ⟨rfl, hsz, hE, hP, hK, hD0⟩ := hv
  subst hsz
  have hD := hD0.self (sz := s.heap.size)
  have hA : ∀ q : Nat, s.heap.size ≤ q → va_A (cs_R S th bd cy) s.heap.size q := fun q h => Or.inr h
  have hS9 : va_S (va_A (cs_R S th bd cy) s.heap.size) s.heap s.heap [] := va_S.rf
  have hx := B.exec
  have hb := B.bytes
  have hr := B.returns
  have hts := atoms_spec (ws := wsX2_truncate) B.pre
  have hown : s.vm.findClass RX2 = some m.cls := findClass_of_methodNamed B.named
  have hlocks := B.notSynchronized
  have hl := lv_entry ([.ref (bd 0), .int v, .int u]) (n := 5) (Nat.le_of_ble_eq_true rfl)
  rw [lg_entry_eq]
  generalize (lg_sl ([.ref (bd 0), .int v, .int u]) ++ List.replicate (5 - (lg_sl ([.ref (bd 0), .int v, .int u])).length) Slot.unset).toArray = ls at hl ⊢
  have hl : lv_has ls 5 [(0, .ref (bd 0)), (1, .int v), (2, .int u)] := hl
  have hinX2 : ∀ w ∈ wsX20, w ∈ wsX2_truncate := fun _ h => by unfold wsX2_truncate; exact List.mem_cons_of_mem _ (List.mem_append_right _ h)
  refine lv_iload_n hx hb dX2_truncate_0 rfl (lv_at hl 1 rfl) ?_
  refine vp_callSi (W.runS (As := [.int v]) (rest := []) ⟨hx, hb, hml, hown, hts⟩ (k_X2_isRow l D S th bd cy  v) (va_cwS 1 hts gX2_truncate_X2_isRow rfl rfl rfl (by decide +kernel) ⟨Nat.le_of_ble_eq_true rfl, Nat.le_of_ble_eq_true rfl⟩) ⟨cs_B.blind, cs_B.at hE cs_none hK⟩ rfl rfl hl.1 rfl (lv_room (Nat.le_of_ble_eq_true rfl)) dX2_truncate_1 ⟨Nat.le_of_ble_eq_true rfl, Nat.le_of_ble_eq_true rfl⟩) (fun r_1 e_1 => ?_)
  subst e_1
  refine lv_istore_n (lv' := [(3, .int (cs_z (cs_in v 0 3))), (0, .ref (bd 0)), (1, .int v), (2, .int u)]) hx hb dX2_truncate_4 rfl hl (by decide) rfl (fun ls hl => ?_)
  have j30 : W pg l e (headSpec wsX2_truncate ({ frames := 2, cells := 0, slots := 0, locals := 42 })).room s m [Value.ref (bd 0), Value.int v, Value.int u].toArray below meth c s.heap [] 0 0 (MQ below (cs_Qw D (cs_R S th bd cy) (fun (_ : Unit) => cs_R (cs_sTru S v u) (cs_kTru S v u) bd cy) (fun rr _ => cs_kTru S v u = 0 → rr = cs_vTru S v u)) [Value.ref (bd 0), Value.int v, Value.int u].toArray s 0 0 (va_A (cs_R S th bd cy) s.heap.size)) (F0 m 30 ls [.int (cs_z (cs_in v 0 3 && cs_in u 0 (nI (cs_ln S (cs_c v))))), .int (cs_z (cs_in v 0 3)), .ref (bd 0)]) := by
    have hF := cs_inW hD hS9 hA
    refine cs_wcalli (va_runV (As := [.int (cs_z (cs_in v 0 3)), .int (cs_z (cs_in v 0 3 && cs_in u 0 (nI (cs_ln S (cs_c v)))))]) (rest := []) ⟨hx, hb, hml, hown, hts⟩ (k_X2_asked_ l D S th bd cy s.heap.size (cs_in v 0 3) (cs_in v 0 3 && cs_in u 0 (nI (cs_ln S (cs_c v))))) (cwV 2 hts gX2_truncate_X2_asked_ rfl rfl rfl (by decide +kernel) ⟨Nat.le_of_ble_eq_true rfl, Nat.le_of_ble_eq_true rfl⟩) ⟨cs_Bw.blind, va_recv hK hP (ci := 2) (q0 := 0) rfl rfl, cs_Bw.at hE hP hK hD⟩ rfl rfl hl.1 rfl (lv_room (Nat.le_of_ble_eq_true rfl)) dX2_truncate_30 ⟨Nat.le_of_ble_eq_true rfl, Nat.le_of_ble_eq_true rfl⟩) hS9 hF (fun r_30 u9 H locs hp hP hD1 hz hk1 hS9 => ?_)
    have hP : va_P D vwCl (cs_R S (cs_k2 (cs_in v 0 3) (cs_in v 0 3 && cs_in u 0 (nI (cs_ln S (cs_c v))))) bd cy) H := hP
    have hD : va_D (va_A (cs_R S th bd cy) s.heap.size) (cs_R S (cs_k2 (cs_in v 0 3) (cs_in v 0 3 && cs_in u 0 (nI (cs_ln S (cs_c v))))) bd cy) := hD1.weaken (fun k q _ h => hF q.1 h)
    subst hp
    refine cs_ifne (tgt := 38) hx hb dX2_truncate_33 (by decide) (fun c_33 => ?_) (fun c_33 => ?_)
    · have ek : cs_kTru S v u = 0 := cs_k2_0.mpr c_33
      have es : cs_sTru S v u = cs_put S (cs_c v) (cs_c u) (cs_by S (cs_c v)) := if_pos ek
      obtain ⟨hr9, hu9⟩ := cs_and (cs_and c_33).2
      obtain ⟨r, hr4, rfl⟩ := cs_row_of hr9
      have r31 : r < 2 ^ 31 := by omega
      rw [cs_cI r31] at hu9
      have hl8 := hS.2.2.1 r
      obtain ⟨t0, ht9, rfl⟩ := cs_in_of (by omega) hu9
      have t31 : t0 < 2 ^ 31 := by omega
      rw [cs_cI r31, cs_cI t31] at es
      refine lv_aload_n hx hb dX2_truncate_38 rfl (lv_at hl 1 rfl) ?_
      refine va_get (D := D) (ci := 2) (v := .ref (bd 8)) (C := RX2) (T := TX2) (N := 10) hx hb hts hinX2 hown hK hP 0 cs_R0 rfl 8 (by decide) (hts (.fieldLink RX2 32 "ChecksumLabModel" "length" "[I") (by decide +kernel)) (fun _ h9 => h9) rfl dX2_truncate_39 ?_
      refine lv_iload_n hx hb dX2_truncate_42 rfl (lv_at hl 2 rfl) ?_
      refine cs_iald hx hb hK hP 8 0 cs_R8 rfl (k := r) (hr4) (by decide) dX2_truncate_43 ?_
      refine lv_iload_n hx hb dX2_truncate_44 rfl (lv_at hl 3 rfl) ?_
      refine lv_isub hx hb dX2_truncate_45 ?_
      refine lv_istore (lv' := [(4, .int ((nI (cs_ln S r)) - (nI t0))), (3, .int (cs_z (cs_in (nI r) 0 3))), (0, .ref (bd 0)), (1, .int (nI r)), (2, .int (nI t0))]) hx hb dX2_truncate_46 hl (by decide) rfl (fun ls hl => ?_)
      refine lv_aload_n hx hb dX2_truncate_48 rfl (lv_at hl 2 rfl) ?_
      refine va_get (D := D) (ci := 2) (v := .ref (bd 8)) (C := RX2) (T := TX2) (N := 10) hx hb hts hinX2 hown hK hP 0 cs_R0 rfl 8 (by decide) (hts (.fieldLink RX2 32 "ChecksumLabModel" "length" "[I") (by decide +kernel)) (fun _ h9 => h9) rfl dX2_truncate_49 ?_
      refine lv_iload_n hx hb dX2_truncate_52 rfl (lv_at hl 3 rfl) ?_
      refine lv_iload_n hx hb dX2_truncate_53 rfl (lv_at hl 4 rfl) ?_
      refine cs_iast hx hb hK hP hD hS9 8 0 cs_R8 rfl (k := r) (hr4) (by decide) dX2_truncate_54 (fun H locs hP hD hS9 => ?_)
      rw [cs_setL] at hP hD
      have hP : va_P D vwCl (cs_R (cs_put S r t0 (cs_by S r)) (cs_k2 (cs_in (nI r) 0 3) (cs_in (nI r) 0 3 && cs_in (nI t0) 0 (nI (cs_ln S (cs_c (nI r)))))) bd cy) H := hP
      have hD : va_D (va_A (cs_R S th bd cy) s.heap.size) (cs_R (cs_put S r t0 (cs_by S r)) (cs_k2 (cs_in (nI r) 0 3) (cs_in (nI r) 0 3 && cs_in (nI t0) 0 (nI (cs_ln S (cs_c (nI r)))))) bd cy) := hD
      refine lv_iload hx hb dX2_truncate_55 (lv_at hl 0 rfl) ?_
      exact W.iret (v := (nI (cs_ln S r)) - (nI t0)) hx hb hr (fun t ht _ => ⟨(nI (cs_ln S r)) - (nI t0), (), rfl, fun _ => by unfold cs_vTru; rw [cs_cI r31], by rw [ht, es]; exact hP, by rw [es]; exact hD, hS9.F ht⟩) hS9.2.2 dX2_truncate_57
    · have es : cs_sTru S v u = S := if_neg (fun z => absurd (cs_k2_0.mp z) (by rw [c_33]; decide))
      refine lv_iconst (v := 0) hx hb dX2_truncate_36 (by decide) ?_
      exact W.iret (v := 0) hx hb hr (fun t ht _ => ⟨0, (), rfl, fun z => absurd (cs_k2_0.mp z) (by rw [c_33]; decide), by rw [ht, es]; exact hP, by rw [es]; exact hD, hS9.F ht⟩) hS9.2.2 dX2_truncate_37
  refine lv_aload_n hx hb dX2_truncate_5 rfl (lv_at hl 1 rfl) ?_
  refine lv_iload_n hx hb dX2_truncate_6 rfl (lv_at hl 0 rfl) ?_
  refine lv_iload_n hx hb dX2_truncate_7 rfl (lv_at hl 0 rfl) ?_
  refine cs_ifeq (tgt := 29) hx hb dX2_truncate_8 (by decide) (fun c_8 => ?_) (fun c_8 => ?_)
  · refine lv_iconst (v := 0) hx hb dX2_truncate_29 (by decide) ?_
    refine cs_top (y := cs_z (cs_in v 0 3 && cs_in u 0 (nI (cs_ln S (cs_c v))))) (by simp [cs_z, cs_nS, c_8]) ?_
    exact j30
  · obtain ⟨r, hr4, rfl⟩ := cs_row_of c_8
    have r31 : r < 2 ^ 31 := by omega
    refine lv_iload_n hx hb dX2_truncate_11 rfl (lv_at hl 3 rfl) ?_
    refine lv_iconst (v := 0) hx hb dX2_truncate_12 (by decide) ?_
    refine lv_aload_n hx hb dX2_truncate_13 rfl (lv_at hl 1 rfl) ?_
    refine va_get (D := D) (ci := 2) (v := .ref (bd 8)) (C := RX2) (T := TX2) (N := 10) hx hb hts hinX2 hown hK hP 0 cs_R0 rfl 8 (by decide) (hts (.fieldLink RX2 32 "ChecksumLabModel" "length" "[I") (by decide +kernel)) (fun _ h9 => h9) rfl dX2_truncate_14 ?_
    refine lv_iload_n hx hb dX2_truncate_17 rfl (lv_at hl 2 rfl) ?_
    refine cs_iald hx hb hK hP 8 0 cs_R8 rfl (k := r) (hr4) (by decide) dX2_truncate_18 ?_
    refine vp_callSi (W.runS (As := [.int u, .int 0, .int (nI (cs_ln S r))]) (rest := [.int (cs_z (cs_in (nI r) 0 3)), .ref (bd 0)]) ⟨hx, hb, hml, hown, hts⟩ (k_X2_in l D S th bd cy  u 0 (nI (cs_ln S r))) (va_cwS 3 hts gX2_truncate_X2_in rfl rfl rfl (by decide +kernel) ⟨Nat.le_of_ble_eq_true rfl, Nat.le_of_ble_eq_true rfl⟩) ⟨cs_B.blind, cs_B.at hE cs_none hK⟩ rfl rfl hl.1 rfl (lv_room (Nat.le_of_ble_eq_true rfl)) dX2_truncate_19 ⟨Nat.le_of_ble_eq_true rfl, Nat.le_of_ble_eq_true rfl⟩) (fun r_19 e_19 => ?_)
    subst e_19
    refine cs_ifeq (tgt := 29) hx hb dX2_truncate_22 (by decide) (fun c_22 => ?_) (fun c_22 => ?_)
    · refine lv_iconst (v := 0) hx hb dX2_truncate_29 (by decide) ?_
      refine cs_top (y := cs_z (cs_in (nI r) 0 3 && cs_in u 0 (nI (cs_ln S (cs_c (nI r)))))) (by simp [cs_z, cs_nS, cs_cI r31, c_8, c_22]) ?_
      exact j30
    · refine lv_iconst (v := 1) hx hb dX2_truncate_25 (by decide) ?_
      refine lv_goto (tgt := 30) hx hb dX2_truncate_26 (by decide) ?_
      refine cs_top (y := cs_z (cs_in (nI r) 0 3 && cs_in u 0 (nI (cs_ln S (cs_c (nI r)))))) (by simp [cs_z, cs_nS, cs_cI r31, c_8, c_22]) ?_
      exact j30
set_option maxHeartbeats 4000000 in
set_option maxRecDepth 100000 in
theorem k_X2_appendSeries (l : Launch) (D : va_G) (S : cs_St) (th : Int32) (bd : Nat → Nat) (cy : Nat → ClassId) (sz : Nat) (hS : cs_ok S) (v a b n : Int32) : cs_Mw l yX2_appendSeries wsX2_appendSeries ({ frames := 2, cells := 0, slots := 0, locals := 42 }) D (cs_tys cy) (cs_R S th bd cy) sz [.ref (bd 0), .int v, .int a, .int b, .int n] (fun (_ : Unit) => cs_R (cs_sSer S v a b n) (cs_kSer S v a b n) bd cy) (fun rr _ => cs_kSer S v a b n = 0 → rr = cs_vSer S v n) := by
  refine Met.ofW (cc := cX2_appendSeries) (maxL := 7) (ret := (some .int)) (by decide) rfl ?_
  intro pg e s m args below meth c s₁ B hml hv
  obtain ⟨rfl, hsz, hE, hP, hK, hD0⟩ := hv
  subst hsz
  have hD := hD0.self (sz := s.heap.size)
  have hA : ∀ q : Nat, s.heap.size ≤ q → va_A (cs_R S th bd cy) s.heap.size q := fun q h => Or.inr h
  have hS9 : va_S (va_A (cs_R S th bd cy) s.heap.size) s.heap s.heap [] := va_S.rf
  have hx := B.exec
  have hb := B.bytes
  have hr := B.returns
  have hts := atoms_spec (ws := wsX2_appendSeries) B.pre
  have hown : s.vm.findClass RX2 = some m.cls := findClass_of_methodNamed B.named
  have hlocks := B.notSynchronized
  have hl := lv_entry ([.ref (bd 0), .int v, .int a, .int b, .int n]) (n := 7) (Nat.le_of_ble_eq_true rfl)
  rw [lg_entry_eq]
  generalize (lg_sl ([.ref (bd 0), .int v, .int a, .int b, .int n]) ++ List.replicate (7 - (lg_sl ([.ref (bd 0), .int v, .int a, .int b, .int n])).length) Slot.unset).toArray = ls at hl ⊢
  have hl : lv_has ls 7 [(0, .ref (bd 0)), (1, .int v), (2, .int a), (3, .int b), (4, .int n)] := hl
  have hinX2 : ∀ w ∈ wsX20, w ∈ wsX2_appendSeries := fun _ h => by unfold wsX2_appendSeries; exact List.mem_cons_of_mem _ (List.mem_append_right _ h)
  refine lv_iload_n hx hb dX2_appendSeries_0 rfl (lv_at hl 2 rfl) ?_
  refine vp_callSi (W.runS (As := [.int a]) (rest := []) ⟨hx, hb, hml, hown, hts⟩ (k_X2_isByte l D S th bd cy  a) (va_cwS 1 hts gX2_appendSeries_X2_isByte rfl rfl rfl (by decide +kernel) ⟨Nat.le_of_ble_eq_true rfl, Nat.le_of_ble_eq_true rfl⟩) ⟨cs_B.blind, cs_B.at hE cs_none hK⟩ rfl rfl hl.1 rfl (lv_room (Nat.le_of_ble_eq_true rfl)) dX2_appendSeries_1 ⟨Nat.le_of_ble_eq_true rfl, Nat.le_of_ble_eq_true rfl⟩) (fun r_1 e_1 => ?_)
  subst e_1
  have j31 : W pg l e (headSpec wsX2_appendSeries ({ frames := 2, cells := 0, slots := 0, locals := 42 })).room s m [Value.ref (bd 0), Value.int v, Value.int a, Value.int b, Value.int n].toArray below meth c s.heap [] 0 0 (MQ below (cs_Qw D (cs_R S th bd cy) (fun (_ : Unit) => cs_R (cs_sSer S v a b n) (cs_kSer S v a b n) bd cy) (fun rr _ => cs_kSer S v a b n = 0 → rr = cs_vSer S v n)) [Value.ref (bd 0), Value.int v, Value.int a, Value.int b, Value.int n].toArray s 0 0 (va_A (cs_R S th bd cy) s.heap.size)) (F0 m 31 ls [.int (cs_z (cs_in a 0 255 && cs_in b 0 255 && cs_in n 1 256))]) := by
    refine lv_istore (lv' := [(5, .int (cs_z (cs_in a 0 255 && cs_in b 0 255 && cs_in n 1 256))), (0, .ref (bd 0)), (1, .int v), (2, .int a), (3, .int b), (4, .int n)]) hx hb dX2_appendSeries_31 hl (by decide) rfl (fun ls hl => ?_)
    refine lv_aload_n hx hb dX2_appendSeries_33 rfl (lv_at hl 1 rfl) ?_
    refine lv_iload_n hx hb dX2_appendSeries_34 rfl (lv_at hl 2 rfl) ?_
    refine vp_callSi (W.runS (As := [.int v]) (rest := [.ref (bd 0)]) ⟨hx, hb, hml, hown, hts⟩ (k_X2_isRow l D S th bd cy  v) (va_cwS 1 hts gX2_appendSeries_X2_isRow rfl rfl rfl (by decide +kernel) ⟨Nat.le_of_ble_eq_true rfl, Nat.le_of_ble_eq_true rfl⟩) ⟨cs_B.blind, cs_B.at hE cs_none hK⟩ rfl rfl hl.1 rfl (lv_room (Nat.le_of_ble_eq_true rfl)) dX2_appendSeries_35 ⟨Nat.le_of_ble_eq_true rfl, Nat.le_of_ble_eq_true rfl⟩) (fun r_35 e_35 => ?_)
    subst e_35
    refine cs_ifne (tgt := 45) hx hb dX2_appendSeries_38 (by decide) (fun c_38 => ?_) (fun c_38 => ?_)
    · have hrw := c_38
      obtain ⟨r, hr4, rfl⟩ := cs_row_of c_38
      have r31 : r < 2 ^ 31 := by omega
      refine lv_iload hx hb dX2_appendSeries_45 (lv_at hl 0 rfl) ?_
      refine cs_ifne (tgt := 54) hx hb dX2_appendSeries_47 (by decide) (fun c_47 => ?_) (fun c_47 => ?_)
      · have hbs := c_47
        obtain ⟨h12, hn9⟩ := cs_and c_47
        obtain ⟨ha9, hb9⟩ := cs_and h12
        obtain ⟨a0, ha0, rfl⟩ := cs_byte_of ha9
        have a031 : a0 < 2 ^ 31 := by omega
        obtain ⟨b0, hb0, rfl⟩ := cs_byte_of hb9
        have b031 : b0 < 2 ^ 31 := by omega
        obtain ⟨n0, hn1, hn2, rfl⟩ := cs_in1_of (n := 256) (by decide) hn9
        have n31 : n0 < 2 ^ 31 := by omega
        have hl8 := hS.2.2.1 r
        refine lv_aload_n hx hb dX2_appendSeries_54 rfl (lv_at hl 1 rfl) ?_
        refine va_get (D := D) (ci := 2) (v := .ref (bd 8)) (C := RX2) (T := TX2) (N := 10) hx hb hts hinX2 hown hK hP 0 cs_R0 rfl 8 (by decide) (hts (.fieldLink RX2 32 "ChecksumLabModel" "length" "[I") (by decide +kernel)) (fun _ h9 => h9) rfl dX2_appendSeries_55 ?_
        refine lv_iload_n hx hb dX2_appendSeries_58 rfl (lv_at hl 2 rfl) ?_
        refine cs_iald hx hb hK hP 8 0 cs_R8 rfl (k := r) (hr4) (by decide) dX2_appendSeries_59 ?_
        refine lv_iload hx hb dX2_appendSeries_60 (lv_at hl 5 rfl) ?_
        refine lv_iadd hx hb dX2_appendSeries_62 ?_
        refine cs_top (y := nI (cs_ln S r + n0)) (nI_add _ _) ?_
        refine lv_sipush (v := 256) hx hb dX2_appendSeries_63 (by decide) ?_
        refine lv_icmp_le (tgt := 73) hx hb dX2_appendSeries_66 (by decide) (fun c_66 => ?_) (fun c_66 => ?_)
        · refine lv_iconst (v := 0) hx hb dX2_appendSeries_73 (by decide) ?_
          refine va_put (D := D) (ci := 2) (v := .int 0) (ty := .int) (C := RX2) (T := TX2) (N := 10) hx hb hts hinX2 tyX2 tyX2_ok nmX2 hown hK hP hD hS9 0 cs_R0 rfl 9 (by decide) (hts (.fieldLink RX2 35 "ChecksumLabModel" "thrown" "I") (by decide +kernel)) (fun _ h9 => h9) rfl (by decide +kernel) rfl rfl (Nat.le_of_ble_eq_true rfl) dX2_appendSeries_74 (fun H locs hP hD hS9 => ?_)
          have hP : va_P D vwCl (cs_R S 0 bd cy) H := hP
          have hD : va_D (va_A (cs_R S th bd cy) s.heap.size) (cs_R S 0 bd cy) := hD
          have hl9 : cs_ln S r + n0 ≤ 256 := (nI_leI (b := 256) (by omega) (by decide)).mp c_66
          have ek : cs_kSer S (nI r) (nI a0) (nI b0) (nI n0) = 0 := by unfold cs_kSer cs_bSer; rw [if_pos hrw, if_pos hbs, cs_cI r31, cs_cI n31, if_neg (by omega)]
          have es : cs_sSer S (nI r) (nI a0) (nI b0) (nI n0) = cs_put S r (cs_ln S r + n0) (cs_fil (cs_by S r) (cs_gSer (nI a0) (nI b0)) (cs_ln S r) n0) := by unfold cs_sSer; rw [if_pos ek, cs_cI r31, cs_cI n31]
          refine lv_aload_n hx hb dX2_appendSeries_77 rfl (lv_at hl 1 rfl) ?_
          refine va_get (D := D) (ci := 2) (v := .int 0) (C := RX2) (T := TX2) (N := 10) hx hb hts hinX2 hown hK hP 0 cs_R0 rfl 9 (by decide) (hts (.fieldLink RX2 35 "ChecksumLabModel" "thrown" "I") (by decide +kernel)) (fun _ h9 => h9) rfl dX2_appendSeries_78 ?_
          refine lv_if_le (tgt := 86) hx hb dX2_appendSeries_81 (by decide) (fun c_81 => ?_) (fun c_81 => ?_)
          · refine lv_iconst (v := 0) hx hb dX2_appendSeries_86 (by decide) ?_
            refine lv_istore (lv' := [(6, .int 0), (5, .int (cs_z (cs_in (nI a0) 0 255 && cs_in (nI b0) 0 255 && cs_in (nI n0) 1 256))), (0, .ref (bd 0)), (1, .int (nI r)), (2, .int (nI a0)), (3, .int (nI b0)), (4, .int (nI n0))]) hx hb dX2_appendSeries_87 hl (by decide) rfl (fun ls hl => ?_)
            have loop : ∀ (n i : Nat), i + n = n0 → ∀ (H : Heap) (locs : List Loc), va_P D vwCl (cs_R (cs_put S r (cs_ln S r + i) (cs_fil (cs_by S r) (cs_gSer (nI a0) (nI b0)) (cs_ln S r) i)) 0 bd cy) H → va_D (va_A (cs_R S th bd cy) s.heap.size) (cs_R (cs_put S r (cs_ln S r + i) (cs_fil (cs_by S r) (cs_gSer (nI a0) (nI b0)) (cs_ln S r) i)) 0 bd cy) → va_S (va_A (cs_R S th bd cy) s.heap.size) s.heap H locs → ∀ ls : Array Slot, lv_has ls 7 [(0, .ref (bd 0)), (1, .int (nI r)), (2, .int (nI a0)), (3, .int (nI b0)), (4, .int (nI n0)), (6, .int (nI i))] → W pg l e (headSpec wsX2_appendSeries ({ frames := 2, cells := 0, slots := 0, locals := 42 })).room s m [Value.ref (bd 0), Value.int (nI r), Value.int (nI a0), Value.int (nI b0), Value.int (nI n0)].toArray below meth c H locs 0 0 (MQ below (cs_Qw D (cs_R S th bd cy) (fun (_ : Unit) => cs_R (cs_sSer S (nI r) (nI a0) (nI b0) (nI n0)) (cs_kSer S (nI r) (nI a0) (nI b0) (nI n0)) bd cy) (fun rr _ => cs_kSer S (nI r) (nI a0) (nI b0) (nI n0) = 0 → rr = cs_vSer S (nI r) (nI n0))) [Value.ref (bd 0), Value.int (nI r), Value.int (nI a0), Value.int (nI b0), Value.int (nI n0)].toArray s 0 0 (va_A (cs_R S th bd cy) s.heap.size)) (F0 m 89 ls []) := by
              intro n
              induction n with
              | zero =>
                intro i hi H locs hP hD hS9 ls hl
                refine lv_iload hx hb dX2_appendSeries_89 (lv_at hl 5 rfl) ?_
                refine lv_iload hx hb dX2_appendSeries_91 (lv_at hl 4 rfl) ?_
                refine lv_icmp_ge (tgt := 117) hx hb dX2_appendSeries_93 (by decide) (fun c_93 => ?_) (fun c_93 => ?_)
                · have hi0 : i = n0 := by omega
                  subst hi0
                  refine lv_aload_n hx hb dX2_appendSeries_117 rfl (lv_at hl 0 rfl) ?_
                  refine va_get (D := D) (ci := 2) (v := .ref (bd 8)) (C := RX2) (T := TX2) (N := 10) hx hb hts hinX2 hown hK hP 0 cs_R0 rfl 8 (by decide) (hts (.fieldLink RX2 32 "ChecksumLabModel" "length" "[I") (by decide +kernel)) (fun _ h9 => h9) rfl dX2_appendSeries_118 ?_
                  refine lv_iload_n hx hb dX2_appendSeries_121 rfl (lv_at hl 1 rfl) ?_
                  refine cs_iald hx hb hK hP 8 0 cs_R8 rfl (k := r) (hr4) (by decide) dX2_appendSeries_122 ?_
                  refine cs_top (y := nI (cs_ln S r + i)) (congrArg nI cs_put_ln) ?_
                  exact W.iret (v := nI (cs_ln S r + i)) hx hb hr (fun t ht _ => ⟨nI (cs_ln S r + i), (), rfl, fun _ => by unfold cs_vSer; rw [cs_cI r31, cs_cI n31], by rw [ht, ek, es]; exact hP, by rw [ek, es]; exact hD, hS9.F ht⟩) hS9.2.2 dX2_appendSeries_123
                · exact absurd (nI_le (a := n0) (b := i) (by omega) (by omega)) c_93
              | succ n ih =>
                intro i hi H locs hP hD hS9 ls hl
                refine lv_iload hx hb dX2_appendSeries_89 (lv_at hl 5 rfl) ?_
                refine lv_iload hx hb dX2_appendSeries_91 (lv_at hl 4 rfl) ?_
                refine lv_icmp_ge (tgt := 117) hx hb dX2_appendSeries_93 (by decide) (fun c_93 => ?_) (fun c_93 => ?_)
                · exact absurd c_93 (nI_ge (a := i) (b := n0) (by omega) (by omega))
                · refine lv_aload_n hx hb dX2_appendSeries_96 rfl (lv_at hl 0 rfl) ?_
                  refine lv_iload_n hx hb dX2_appendSeries_97 rfl (lv_at hl 1 rfl) ?_
                  refine lv_iload_n hx hb dX2_appendSeries_98 rfl (lv_at hl 2 rfl) ?_
                  refine lv_iload_n hx hb dX2_appendSeries_99 rfl (lv_at hl 3 rfl) ?_
                  refine lv_iload hx hb dX2_appendSeries_100 (lv_at hl 5 rfl) ?_
                  refine lv_imul hx hb dX2_appendSeries_102 ?_
                  refine lv_iadd hx hb dX2_appendSeries_103 ?_
                  refine lv_sipush (v := 256) hx hb dX2_appendSeries_104 (by decide) ?_
                  refine lv_irem hx hb dX2_appendSeries_107 (by decide) ?_
                  refine cs_top (y := cs_rem ((nI a0) + ((nI b0) * (nI i))) 256) (rfl) ?_
                  refine cs_top (y := nI (cs_gSer (nI a0) (nI b0) i)) (by unfold cs_gSer; rw [cs_cI a031, cs_cI b031]; exact cs_serR ha0 hb0 (by omega)) ?_
                  have hF := cs_inW hD hS9 hA
                  refine cs_wcallv (va_runV (As := [.int (nI r), .int (nI (cs_gSer (nI a0) (nI b0) i))]) (rest := []) ⟨hx, hb, hml, hown, hts⟩ (k_X2_puts l D (cs_put S r (cs_ln S r + i) (cs_fil (cs_by S r) (cs_gSer (nI a0) (nI b0)) (cs_ln S r) i)) 0 bd cy H.size r ((cs_gSer (nI a0) (nI b0)) i) hr4 (by rw [cs_put_ln]; omega)) (cwV 2 hts gX2_appendSeries_X2_puts rfl rfl rfl (by decide +kernel) ⟨Nat.le_of_ble_eq_true rfl, Nat.le_of_ble_eq_true rfl⟩) ⟨cs_Bw.blind, va_recv hK hP (ci := 2) (q0 := 0) rfl rfl, cs_Bw.at hE hP hK hD⟩ rfl rfl hl.1 rfl (lv_room (Nat.le_of_ble_eq_true rfl)) dX2_appendSeries_108 ⟨Nat.le_of_ble_eq_true rfl, Nat.le_of_ble_eq_true rfl⟩) hS9 hF (fun u9 H locs hp hP hD1 hz hk1 hS9 => ?_)
                  have hP : va_P D vwCl (cs_R (cs_put (cs_put S r (cs_ln S r + i) (cs_fil (cs_by S r) (cs_gSer (nI a0) (nI b0)) (cs_ln S r) i)) r (cs_ln (cs_put S r (cs_ln S r + i) (cs_fil (cs_by S r) (cs_gSer (nI a0) (nI b0)) (cs_ln S r) i)) r + 1) (va_up (cs_by (cs_put S r (cs_ln S r + i) (cs_fil (cs_by S r) (cs_gSer (nI a0) (nI b0)) (cs_ln S r) i)) r) (cs_ln (cs_put S r (cs_ln S r + i) (cs_fil (cs_by S r) (cs_gSer (nI a0) (nI b0)) (cs_ln S r) i)) r) ((cs_gSer (nI a0) (nI b0)) i))) 0 bd cy) H := hP
                  have hD : va_D (va_A (cs_R S th bd cy) s.heap.size) (cs_R (cs_put (cs_put S r (cs_ln S r + i) (cs_fil (cs_by S r) (cs_gSer (nI a0) (nI b0)) (cs_ln S r) i)) r (cs_ln (cs_put S r (cs_ln S r + i) (cs_fil (cs_by S r) (cs_gSer (nI a0) (nI b0)) (cs_ln S r) i)) r + 1) (va_up (cs_by (cs_put S r (cs_ln S r + i) (cs_fil (cs_by S r) (cs_gSer (nI a0) (nI b0)) (cs_ln S r) i)) r) (cs_ln (cs_put S r (cs_ln S r + i) (cs_fil (cs_by S r) (cs_gSer (nI a0) (nI b0)) (cs_ln S r) i)) r) ((cs_gSer (nI a0) (nI b0)) i))) 0 bd cy) := hD1.weaken (fun k q _ h => hF q.1 h)
                  rw [cs_put_ln, cs_put_put, cs_put_by] at hP hD
                  have hP : va_P D vwCl (cs_R (cs_put S r (cs_ln S r + (i + 1)) (cs_fil (cs_by S r) (cs_gSer (nI a0) (nI b0)) (cs_ln S r) (i + 1))) 0 bd cy) H := hP
                  have hD : va_D (va_A (cs_R S th bd cy) s.heap.size) (cs_R (cs_put S r (cs_ln S r + (i + 1)) (cs_fil (cs_by S r) (cs_gSer (nI a0) (nI b0)) (cs_ln S r) (i + 1))) 0 bd cy) := hD
                  refine lv_iinc (v := nI (i + 1)) (lv' := [(6, .int (nI (i + 1))), (0, .ref (bd 0)), (1, .int (nI r)), (2, .int (nI a0)), (3, .int (nI b0)), (4, .int (nI n0))]) hx hb dX2_appendSeries_111 hl (k := 5) rfl (cs_inc1 i) (by decide) rfl (fun ls hl => ?_)
                  refine lv_goto (tgt := 89) hx hb dX2_appendSeries_114 (by decide) ?_
                  exact ih (i + 1) (by omega) H locs hP hD hS9 ls (lv_sub hl [1, 2, 3, 4, 5, 0] rfl)
            have e0 : (cs_put S r (cs_ln S r + 0) (cs_fil (cs_by S r) (cs_gSer (nI a0) (nI b0)) (cs_ln S r) 0)) = S := cs_put_id
            exact loop n0 0 (by omega) H locs (by rw [e0]; exact hP) (by rw [e0]; exact hD) hS9 ls (lv_sub hl [2, 3, 4, 5, 6, 0] rfl)
          · exact absurd (by decide) c_81
        · refine lv_iconst (v := 3) hx hb dX2_appendSeries_69 (by decide) ?_
          refine lv_goto (tgt := 74) hx hb dX2_appendSeries_70 (by decide) ?_
          refine va_put (D := D) (ci := 2) (v := .int 3) (ty := .int) (C := RX2) (T := TX2) (N := 10) hx hb hts hinX2 tyX2 tyX2_ok nmX2 hown hK hP hD hS9 0 cs_R0 rfl 9 (by decide) (hts (.fieldLink RX2 35 "ChecksumLabModel" "thrown" "I") (by decide +kernel)) (fun _ h9 => h9) rfl (by decide +kernel) rfl rfl (Nat.le_of_ble_eq_true rfl) dX2_appendSeries_74 (fun H locs hP hD hS9 => ?_)
          have hP : va_P D vwCl (cs_R S 3 bd cy) H := hP
          have hD : va_D (va_A (cs_R S th bd cy) s.heap.size) (cs_R S 3 bd cy) := hD
          have ek : cs_kSer S (nI r) (nI a0) (nI b0) (nI n0) = 3 := by unfold cs_kSer cs_bSer; rw [if_pos hrw, if_pos hbs, cs_cI r31, cs_cI n31, if_pos (Nat.lt_of_not_le (fun h => c_66 ((nI_leI (b := 256) (by omega) (by decide)).mpr h)))]
          have es : cs_sSer S (nI r) (nI a0) (nI b0) (nI n0) = S := if_neg (by rw [ek]; decide)
          refine lv_aload_n hx hb dX2_appendSeries_77 rfl (lv_at hl 1 rfl) ?_
          refine va_get (D := D) (ci := 2) (v := .int 3) (C := RX2) (T := TX2) (N := 10) hx hb hts hinX2 hown hK hP 0 cs_R0 rfl 9 (by decide) (hts (.fieldLink RX2 35 "ChecksumLabModel" "thrown" "I") (by decide +kernel)) (fun _ h9 => h9) rfl dX2_appendSeries_78 ?_
          refine lv_if_le (tgt := 86) hx hb dX2_appendSeries_81 (by decide) (fun c_81 => ?_) (fun c_81 => ?_)
          · exact absurd c_81 (by decide)
          · refine lv_iconst (v := 0) hx hb dX2_appendSeries_84 (by decide) ?_
            exact W.iret (v := 0) hx hb hr (fun t ht _ => ⟨0, (), rfl, fun z => absurd (ek.symm.trans z) (by decide), by rw [ht, ek, es]; exact hP, by rw [ek, es]; exact hD, hS9.F ht⟩) hS9.2.2 dX2_appendSeries_85
      · refine lv_iconst (v := 2) hx hb dX2_appendSeries_50 (by decide) ?_
        refine lv_goto (tgt := 74) hx hb dX2_appendSeries_51 (by decide) ?_
        refine va_put (D := D) (ci := 2) (v := .int 2) (ty := .int) (C := RX2) (T := TX2) (N := 10) hx hb hts hinX2 tyX2 tyX2_ok nmX2 hown hK hP hD hS9 0 cs_R0 rfl 9 (by decide) (hts (.fieldLink RX2 35 "ChecksumLabModel" "thrown" "I") (by decide +kernel)) (fun _ h9 => h9) rfl (by decide +kernel) rfl rfl (Nat.le_of_ble_eq_true rfl) dX2_appendSeries_74 (fun H locs hP hD hS9 => ?_)
        have hP : va_P D vwCl (cs_R S 2 bd cy) H := hP
        have hD : va_D (va_A (cs_R S th bd cy) s.heap.size) (cs_R S 2 bd cy) := hD
        have ek : cs_kSer S (nI r) a b n = 2 := by unfold cs_kSer cs_bSer; rw [if_pos hrw, if_neg (by rw [c_47]; decide)]
        have es : cs_sSer S (nI r) a b n = S := if_neg (by rw [ek]; decide)
        refine lv_aload_n hx hb dX2_appendSeries_77 rfl (lv_at hl 1 rfl) ?_
        refine va_get (D := D) (ci := 2) (v := .int 2) (C := RX2) (T := TX2) (N := 10) hx hb hts hinX2 hown hK hP 0 cs_R0 rfl 9 (by decide) (hts (.fieldLink RX2 35 "ChecksumLabModel" "thrown" "I") (by decide +kernel)) (fun _ h9 => h9) rfl dX2_appendSeries_78 ?_
        refine lv_if_le (tgt := 86) hx hb dX2_appendSeries_81 (by decide) (fun c_81 => ?_) (fun c_81 => ?_)
        · exact absurd c_81 (by decide)
        · refine lv_iconst (v := 0) hx hb dX2_appendSeries_84 (by decide) ?_
          exact W.iret (v := 0) hx hb hr (fun t ht _ => ⟨0, (), rfl, fun z => absurd (ek.symm.trans z) (by decide), by rw [ht, ek, es]; exact hP, by rw [ek, es]; exact hD, hS9.F ht⟩) hS9.2.2 dX2_appendSeries_85
    · refine lv_iconst (v := 1) hx hb dX2_appendSeries_41 (by decide) ?_
      refine lv_goto (tgt := 74) hx hb dX2_appendSeries_42 (by decide) ?_
      refine va_put (D := D) (ci := 2) (v := .int 1) (ty := .int) (C := RX2) (T := TX2) (N := 10) hx hb hts hinX2 tyX2 tyX2_ok nmX2 hown hK hP hD hS9 0 cs_R0 rfl 9 (by decide) (hts (.fieldLink RX2 35 "ChecksumLabModel" "thrown" "I") (by decide +kernel)) (fun _ h9 => h9) rfl (by decide +kernel) rfl rfl (Nat.le_of_ble_eq_true rfl) dX2_appendSeries_74 (fun H locs hP hD hS9 => ?_)
      have hP : va_P D vwCl (cs_R S 1 bd cy) H := hP
      have hD : va_D (va_A (cs_R S th bd cy) s.heap.size) (cs_R S 1 bd cy) := hD
      have ek : cs_kSer S v a b n = 1 := by unfold cs_kSer; rw [if_neg (by rw [c_38]; decide)]
      have es : cs_sSer S v a b n = S := if_neg (by rw [ek]; decide)
      refine lv_aload_n hx hb dX2_appendSeries_77 rfl (lv_at hl 1 rfl) ?_
      refine va_get (D := D) (ci := 2) (v := .int 1) (C := RX2) (T := TX2) (N := 10) hx hb hts hinX2 hown hK hP 0 cs_R0 rfl 9 (by decide) (hts (.fieldLink RX2 35 "ChecksumLabModel" "thrown" "I") (by decide +kernel)) (fun _ h9 => h9) rfl dX2_appendSeries_78 ?_
      refine lv_if_le (tgt := 86) hx hb dX2_appendSeries_81 (by decide) (fun c_81 => ?_) (fun c_81 => ?_)
      · exact absurd c_81 (by decide)
      · refine lv_iconst (v := 0) hx hb dX2_appendSeries_84 (by decide) ?_
        exact W.iret (v := 0) hx hb hr (fun t ht _ => ⟨0, (), rfl, fun z => absurd (ek.symm.trans z) (by decide), by rw [ht, ek, es]; exact hP, by rw [ek, es]; exact hD, hS9.F ht⟩) hS9.2.2 dX2_appendSeries_85
  refine cs_ifeq (tgt := 30) hx hb dX2_appendSeries_4 (by decide) (fun c_4 => ?_) (fun c_4 => ?_)
  · refine lv_iconst (v := 0) hx hb dX2_appendSeries_30 (by decide) ?_
    refine cs_top (y := cs_z (cs_in a 0 255 && cs_in b 0 255 && cs_in n 1 256)) (by simp [cs_z, cs_nS, c_4]) ?_
    exact j31
  · refine lv_iload_n hx hb dX2_appendSeries_7 rfl (lv_at hl 3 rfl) ?_
    refine vp_callSi (W.runS (As := [.int b]) (rest := []) ⟨hx, hb, hml, hown, hts⟩ (k_X2_isByte l D S th bd cy  b) (va_cwS 1 hts gX2_appendSeries_X2_isByte rfl rfl rfl (by decide +kernel) ⟨Nat.le_of_ble_eq_true rfl, Nat.le_of_ble_eq_true rfl⟩) ⟨cs_B.blind, cs_B.at hE cs_none hK⟩ rfl rfl hl.1 rfl (lv_room (Nat.le_of_ble_eq_true rfl)) dX2_appendSeries_8 ⟨Nat.le_of_ble_eq_true rfl, Nat.le_of_ble_eq_true rfl⟩) (fun r_8 e_8 => ?_)
    subst e_8
    refine cs_ifeq (tgt := 30) hx hb dX2_appendSeries_11 (by decide) (fun c_11 => ?_) (fun c_11 => ?_)
    · refine lv_iconst (v := 0) hx hb dX2_appendSeries_30 (by decide) ?_
      refine cs_top (y := cs_z (cs_in a 0 255 && cs_in b 0 255 && cs_in n 1 256)) (by simp [cs_z, cs_nS, c_4, c_11]) ?_
      exact j31
    · refine lv_iload hx hb dX2_appendSeries_14 (lv_at hl 4 rfl) ?_
      refine lv_iconst (v := 1) hx hb dX2_appendSeries_16 (by decide) ?_
      refine lv_sipush (v := 256) hx hb dX2_appendSeries_17 (by decide) ?_
      refine vp_callSi (W.runS (As := [.int n, .int 1, .int 256]) (rest := []) ⟨hx, hb, hml, hown, hts⟩ (k_X2_in l D S th bd cy  n 1 256) (va_cwS 3 hts gX2_appendSeries_X2_in rfl rfl rfl (by decide +kernel) ⟨Nat.le_of_ble_eq_true rfl, Nat.le_of_ble_eq_true rfl⟩) ⟨cs_B.blind, cs_B.at hE cs_none hK⟩ rfl rfl hl.1 rfl (lv_room (Nat.le_of_ble_eq_true rfl)) dX2_appendSeries_20 ⟨Nat.le_of_ble_eq_true rfl, Nat.le_of_ble_eq_true rfl⟩) (fun r_20 e_20 => ?_)
      subst e_20
      refine cs_ifeq (tgt := 30) hx hb dX2_appendSeries_23 (by decide) (fun c_23 => ?_) (fun c_23 => ?_)
      · refine lv_iconst (v := 0) hx hb dX2_appendSeries_30 (by decide) ?_
        refine cs_top (y := cs_z (cs_in a 0 255 && cs_in b 0 255 && cs_in n 1 256)) (by simp [cs_z, cs_nS, c_4, c_11, c_23]) ?_
        exact j31
      · refine lv_iconst (v := 1) hx hb dX2_appendSeries_26 (by decide) ?_
        refine lv_goto (tgt := 31) hx hb dX2_appendSeries_27 (by decide) ?_
        refine cs_top (y := cs_z (cs_in a 0 255 && cs_in b 0 255 && cs_in n 1 256)) (by simp [cs_z, cs_nS, c_4, c_11, c_23]) ?_
        exact j31
set_option maxHeartbeats 4000000 in
set_option maxRecDepth 100000 in
theorem k_X2_appendRow (l : Launch) (D : va_G) (S : cs_St) (th : Int32) (bd : Nat → Nat) (cy : Nat → ClassId) (sz : Nat) (hS : cs_ok S) (v u : Int32) : cs_Mw l yX2_appendRow wsX2_appendRow ({ frames := 2, cells := 0, slots := 0, locals := 42 }) D (cs_tys cy) (cs_R S th bd cy) sz [.ref (bd 0), .int v, .int u] (fun (_ : Unit) => cs_R (cs_sRow S v u) (cs_kRow S v u) bd cy) (fun rr _ => cs_kRow S v u = 0 → rr = cs_vRow S v u) := by
  refine Met.ofW (cc := cX2_appendRow) (maxL := 6) (ret := (some .int)) (by decide) rfl ?_
  intro pg e s m args below meth c s₁ B hml hv
  obtain ⟨rfl, hsz, hE, hP, hK, hD0⟩ := hv
  subst hsz
  have hD := hD0.self (sz := s.heap.size)
  have hA : ∀ q : Nat, s.heap.size ≤ q → va_A (cs_R S th bd cy) s.heap.size q := fun q h => Or.inr h
  have hS9 : va_S (va_A (cs_R S th bd cy) s.heap.size) s.heap s.heap [] := va_S.rf
  have hx := B.exec
  have hb := B.bytes
  have hr := B.returns
  have hts := atoms_spec (ws := wsX2_appendRow) B.pre
  have hown : s.vm.findClass RX2 = some m.cls := findClass_of_methodNamed B.named
  have hlocks := B.notSynchronized
  have hl := lv_entry ([.ref (bd 0), .int v, .int u]) (n := 6) (Nat.le_of_ble_eq_true rfl)
  rw [lg_entry_eq]
  generalize (lg_sl ([.ref (bd 0), .int v, .int u]) ++ List.replicate (6 - (lg_sl ([.ref (bd 0), .int v, .int u])).length) Slot.unset).toArray = ls at hl ⊢
  have hl : lv_has ls 6 [(0, .ref (bd 0)), (1, .int v), (2, .int u)] := hl
  have hinX2 : ∀ w ∈ wsX20, w ∈ wsX2_appendRow := fun _ h => by unfold wsX2_appendRow; exact List.mem_cons_of_mem _ (List.mem_append_right _ h)
  refine lv_iload_n hx hb dX2_appendRow_0 rfl (lv_at hl 1 rfl) ?_
  refine vp_callSi (W.runS (As := [.int v]) (rest := []) ⟨hx, hb, hml, hown, hts⟩ (k_X2_isRow l D S th bd cy  v) (va_cwS 1 hts gX2_appendRow_X2_isRow rfl rfl rfl (by decide +kernel) ⟨Nat.le_of_ble_eq_true rfl, Nat.le_of_ble_eq_true rfl⟩) ⟨cs_B.blind, cs_B.at hE cs_none hK⟩ rfl rfl hl.1 rfl (lv_room (Nat.le_of_ble_eq_true rfl)) dX2_appendRow_1 ⟨Nat.le_of_ble_eq_true rfl, Nat.le_of_ble_eq_true rfl⟩) (fun r_1 e_1 => ?_)
  subst e_1
  have j19 : W pg l e (headSpec wsX2_appendRow ({ frames := 2, cells := 0, slots := 0, locals := 42 })).room s m [Value.ref (bd 0), Value.int v, Value.int u].toArray below meth c s.heap [] 0 0 (MQ below (cs_Qw D (cs_R S th bd cy) (fun (_ : Unit) => cs_R (cs_sRow S v u) (cs_kRow S v u) bd cy) (fun rr _ => cs_kRow S v u = 0 → rr = cs_vRow S v u)) [Value.ref (bd 0), Value.int v, Value.int u].toArray s 0 0 (va_A (cs_R S th bd cy) s.heap.size)) (F0 m 19 ls [.int (cs_z (cs_in v 0 3 && cs_in u 0 3))]) := by
    refine cs_top (y := cs_z (cs_bRow v u)) rfl ?_
    refine lv_istore_n (lv' := [(3, .int (cs_z (cs_bRow v u))), (0, .ref (bd 0)), (1, .int v), (2, .int u)]) hx hb dX2_appendRow_19 rfl hl (by decide) rfl (fun ls hl => ?_)
    have j50 : W pg l e (headSpec wsX2_appendRow ({ frames := 2, cells := 0, slots := 0, locals := 42 })).room s m [Value.ref (bd 0), Value.int v, Value.int u].toArray below meth c s.heap [] 0 0 (MQ below (cs_Qw D (cs_R S th bd cy) (fun (_ : Unit) => cs_R (cs_sRow S v u) (cs_kRow S v u) bd cy) (fun rr _ => cs_kRow S v u = 0 → rr = cs_vRow S v u)) [Value.ref (bd 0), Value.int v, Value.int u].toArray s 0 0 (va_A (cs_R S th bd cy) s.heap.size)) (F0 m 50 ls [.int (cs_z (cs_bRow v u && decide (cs_ln S (cs_c v) + cs_ln S (cs_c u) ≤ 256))), .int (cs_z (cs_bRow v u)), .ref (bd 0)]) := by
      have hF := cs_inW hD hS9 hA
      refine cs_wcalli (va_runV (As := [.int (cs_z (cs_bRow v u)), .int (cs_z (cs_bRow v u && decide (cs_ln S (cs_c v) + cs_ln S (cs_c u) ≤ 256)))]) (rest := []) ⟨hx, hb, hml, hown, hts⟩ (k_X2_asked_ l D S th bd cy s.heap.size (cs_bRow v u) (cs_bRow v u && decide (cs_ln S (cs_c v) + cs_ln S (cs_c u) ≤ 256))) (cwV 2 hts gX2_appendRow_X2_asked_ rfl rfl rfl (by decide +kernel) ⟨Nat.le_of_ble_eq_true rfl, Nat.le_of_ble_eq_true rfl⟩) ⟨cs_Bw.blind, va_recv hK hP (ci := 2) (q0 := 0) rfl rfl, cs_Bw.at hE hP hK hD⟩ rfl rfl hl.1 rfl (lv_room (Nat.le_of_ble_eq_true rfl)) dX2_appendRow_50 ⟨Nat.le_of_ble_eq_true rfl, Nat.le_of_ble_eq_true rfl⟩) hS9 hF (fun r_50 u9 H locs hp hP hD1 hz hk1 hS9 => ?_)
      have hP : va_P D vwCl (cs_R S (cs_k2 (cs_bRow v u) (cs_bRow v u && decide (cs_ln S (cs_c v) + cs_ln S (cs_c u) ≤ 256))) bd cy) H := hP
      have hD : va_D (va_A (cs_R S th bd cy) s.heap.size) (cs_R S (cs_k2 (cs_bRow v u) (cs_bRow v u && decide (cs_ln S (cs_c v) + cs_ln S (cs_c u) ≤ 256))) bd cy) := hD1.weaken (fun k q _ h => hF q.1 h)
      subst hp
      refine cs_ifne (tgt := 58) hx hb dX2_appendRow_53 (by decide) (fun c_53 => ?_) (fun c_53 => ?_)
      · have ek : cs_kRow S v u = 0 := cs_k2_0.mpr c_53
        have es : cs_sRow S v u = cs_put S (cs_c v) (cs_ln S (cs_c v) + cs_ln S (cs_c u)) (cs_fil (cs_by S (cs_c v)) (cs_by S (cs_c u)) (cs_ln S (cs_c v)) (cs_ln S (cs_c u))) := if_pos ek
        obtain ⟨hb1, hb2⟩ := cs_and (cs_and c_53).2
        obtain ⟨hr9, hu9⟩ := cs_and hb1
        rw [decide_eq_true_eq] at hb2
        obtain ⟨r, hr4, rfl⟩ := cs_row_of hr9
        have r31 : r < 2 ^ 31 := by omega
        obtain ⟨o, ho4, rfl⟩ := cs_row_of hu9
        have o31 : o < 2 ^ 31 := by omega
        rw [cs_cI r31, cs_cI o31] at es hb2
        have hl8 := hS.2.2.1 o
        refine lv_aload_n hx hb dX2_appendRow_58 rfl (lv_at hl 1 rfl) ?_
        refine va_get (D := D) (ci := 2) (v := .ref (bd 8)) (C := RX2) (T := TX2) (N := 10) hx hb hts hinX2 hown hK hP 0 cs_R0 rfl 8 (by decide) (hts (.fieldLink RX2 32 "ChecksumLabModel" "length" "[I") (by decide +kernel)) (fun _ h9 => h9) rfl dX2_appendRow_59 ?_
        refine lv_iload_n hx hb dX2_appendRow_62 rfl (lv_at hl 3 rfl) ?_
        refine cs_iald hx hb hK hP 8 0 cs_R8 rfl (k := o) (ho4) (by decide) dX2_appendRow_63 ?_
        refine lv_istore (lv' := [(4, .int (nI (cs_ln S o))), (3, .int (cs_z (cs_bRow (nI r) (nI o)))), (0, .ref (bd 0)), (1, .int (nI r)), (2, .int (nI o))]) hx hb dX2_appendRow_64 hl (by decide) rfl (fun ls hl => ?_)
        refine lv_iconst (v := 0) hx hb dX2_appendRow_66 (by decide) ?_
        refine lv_istore (lv' := [(5, .int 0), (4, .int (nI (cs_ln S o))), (3, .int (cs_z (cs_bRow (nI r) (nI o)))), (0, .ref (bd 0)), (1, .int (nI r)), (2, .int (nI o))]) hx hb dX2_appendRow_67 hl (by decide) rfl (fun ls hl => ?_)
        have loop : ∀ (n i : Nat), i + n = (cs_ln S o) → ∀ (H : Heap) (locs : List Loc), va_P D vwCl (cs_R (cs_put S r (cs_ln S r + i) (cs_fil (cs_by S r) (cs_by S o) (cs_ln S r) i)) (cs_k2 (cs_bRow (nI r) (nI o)) (cs_bRow (nI r) (nI o) && decide (cs_ln S (cs_c (nI r)) + cs_ln S (cs_c (nI o)) ≤ 256))) bd cy) H → va_D (va_A (cs_R S th bd cy) s.heap.size) (cs_R (cs_put S r (cs_ln S r + i) (cs_fil (cs_by S r) (cs_by S o) (cs_ln S r) i)) (cs_k2 (cs_bRow (nI r) (nI o)) (cs_bRow (nI r) (nI o) && decide (cs_ln S (cs_c (nI r)) + cs_ln S (cs_c (nI o)) ≤ 256))) bd cy) → va_S (va_A (cs_R S th bd cy) s.heap.size) s.heap H locs → ∀ ls : Array Slot, lv_has ls 6 [(0, .ref (bd 0)), (1, .int (nI r)), (2, .int (nI o)), (4, .int (nI (cs_ln S o))), (5, .int (nI i))] → W pg l e (headSpec wsX2_appendRow ({ frames := 2, cells := 0, slots := 0, locals := 42 })).room s m [Value.ref (bd 0), Value.int (nI r), Value.int (nI o)].toArray below meth c H locs 0 0 (MQ below (cs_Qw D (cs_R S th bd cy) (fun (_ : Unit) => cs_R (cs_sRow S (nI r) (nI o)) (cs_kRow S (nI r) (nI o)) bd cy) (fun rr _ => cs_kRow S (nI r) (nI o) = 0 → rr = cs_vRow S (nI r) (nI o))) [Value.ref (bd 0), Value.int (nI r), Value.int (nI o)].toArray s 0 0 (va_A (cs_R S th bd cy) s.heap.size)) (F0 m 69 ls []) := by
          intro n
          induction n with
          | zero =>
            intro i hi H locs hP hD hS9 ls hl
            refine lv_iload hx hb dX2_appendRow_69 (lv_at hl 4 rfl) ?_
            refine lv_iload hx hb dX2_appendRow_71 (lv_at hl 3 rfl) ?_
            refine lv_icmp_ge (tgt := 100) hx hb dX2_appendRow_73 (by decide) (fun c_73 => ?_) (fun c_73 => ?_)
            · have hi0 : i = cs_ln S o := by omega
              subst hi0
              refine lv_aload_n hx hb dX2_appendRow_100 rfl (lv_at hl 0 rfl) ?_
              refine va_get (D := D) (ci := 2) (v := .ref (bd 8)) (C := RX2) (T := TX2) (N := 10) hx hb hts hinX2 hown hK hP 0 cs_R0 rfl 8 (by decide) (hts (.fieldLink RX2 32 "ChecksumLabModel" "length" "[I") (by decide +kernel)) (fun _ h9 => h9) rfl dX2_appendRow_101 ?_
              refine lv_iload_n hx hb dX2_appendRow_104 rfl (lv_at hl 1 rfl) ?_
              refine cs_iald hx hb hK hP 8 0 cs_R8 rfl (k := r) (hr4) (by decide) dX2_appendRow_105 ?_
              refine cs_top (y := nI (cs_ln S r + cs_ln S o)) (congrArg nI cs_put_ln) ?_
              exact W.iret (v := nI (cs_ln S r + cs_ln S o)) hx hb hr (fun t ht _ => ⟨nI (cs_ln S r + cs_ln S o), (), rfl, fun _ => by unfold cs_vRow; rw [cs_cI r31, cs_cI o31], by rw [ht, es]; exact hP, by rw [es]; exact hD, hS9.F ht⟩) hS9.2.2 dX2_appendRow_106
            · exact absurd (nI_le (a := (cs_ln S o)) (b := i) (by omega) (by omega)) c_73
          | succ n ih =>
            intro i hi H locs hP hD hS9 ls hl
            refine lv_iload hx hb dX2_appendRow_69 (lv_at hl 4 rfl) ?_
            refine lv_iload hx hb dX2_appendRow_71 (lv_at hl 3 rfl) ?_
            refine lv_icmp_ge (tgt := 100) hx hb dX2_appendRow_73 (by decide) (fun c_73 => ?_) (fun c_73 => ?_)
            · exact absurd c_73 (nI_ge (a := i) (b := (cs_ln S o)) (by omega) (by omega))
            · refine lv_aload_n hx hb dX2_appendRow_76 rfl (lv_at hl 0 rfl) ?_
              refine lv_iload_n hx hb dX2_appendRow_77 rfl (lv_at hl 1 rfl) ?_
              refine lv_aload_n hx hb dX2_appendRow_78 rfl (lv_at hl 0 rfl) ?_
              refine va_get (D := D) (ci := 2) (v := .ref (bd 7)) (C := RX2) (T := TX2) (N := 10) hx hb hts hinX2 hown hK hP 0 cs_R0 rfl 7 (by decide) (hts (.fieldLink RX2 29 "ChecksumLabModel" "bytes" "[I") (by decide +kernel)) (fun _ h9 => h9) rfl dX2_appendRow_79 ?_
              refine lv_sipush (v := 256) hx hb dX2_appendRow_82 (by decide) ?_
              refine lv_iload_n hx hb dX2_appendRow_85 rfl (lv_at hl 2 rfl) ?_
              refine lv_imul hx hb dX2_appendRow_86 ?_
              refine lv_iload hx hb dX2_appendRow_87 (lv_at hl 4 rfl) ?_
              refine lv_iadd hx hb dX2_appendRow_89 ?_
              refine cs_top (y := nI (256 * o + i)) (cs_256 o i) ?_
              refine cs_iald hx hb hK hP 7 0 cs_R7 rfl (k := 256 * o + i) (by omega) (by decide) dX2_appendRow_90 ?_
              refine cs_top (y := nI (cs_by S o i)) (congrArg nI (cs_rowE (S := S) (r := r) (o := o) (i := i) (by omega) (by omega))) ?_
              have hF := cs_inW hD hS9 hA
              refine cs_wcallv (va_runV (As := [.int (nI r), .int (nI (cs_by S o i))]) (rest := []) ⟨hx, hb, hml, hown, hts⟩ (k_X2_puts l D (cs_put S r (cs_ln S r + i) (cs_fil (cs_by S r) (cs_by S o) (cs_ln S r) i)) (cs_k2 (cs_bRow (nI r) (nI o)) (cs_bRow (nI r) (nI o) && decide (cs_ln S (cs_c (nI r)) + cs_ln S (cs_c (nI o)) ≤ 256))) bd cy H.size r ((cs_by S o) i) hr4 (by rw [cs_put_ln]; omega)) (cwV 2 hts gX2_appendRow_X2_puts rfl rfl rfl (by decide +kernel) ⟨Nat.le_of_ble_eq_true rfl, Nat.le_of_ble_eq_true rfl⟩) ⟨cs_Bw.blind, va_recv hK hP (ci := 2) (q0 := 0) rfl rfl, cs_Bw.at hE hP hK hD⟩ rfl rfl hl.1 rfl (lv_room (Nat.le_of_ble_eq_true rfl)) dX2_appendRow_91 ⟨Nat.le_of_ble_eq_true rfl, Nat.le_of_ble_eq_true rfl⟩) hS9 hF (fun u9 H locs hp hP hD1 hz hk1 hS9 => ?_)
              have hP : va_P D vwCl (cs_R (cs_put (cs_put S r (cs_ln S r + i) (cs_fil (cs_by S r) (cs_by S o) (cs_ln S r) i)) r (cs_ln (cs_put S r (cs_ln S r + i) (cs_fil (cs_by S r) (cs_by S o) (cs_ln S r) i)) r + 1) (va_up (cs_by (cs_put S r (cs_ln S r + i) (cs_fil (cs_by S r) (cs_by S o) (cs_ln S r) i)) r) (cs_ln (cs_put S r (cs_ln S r + i) (cs_fil (cs_by S r) (cs_by S o) (cs_ln S r) i)) r) ((cs_by S o) i))) (cs_k2 (cs_bRow (nI r) (nI o)) (cs_bRow (nI r) (nI o) && decide (cs_ln S (cs_c (nI r)) + cs_ln S (cs_c (nI o)) ≤ 256))) bd cy) H := hP
              have hD : va_D (va_A (cs_R S th bd cy) s.heap.size) (cs_R (cs_put (cs_put S r (cs_ln S r + i) (cs_fil (cs_by S r) (cs_by S o) (cs_ln S r) i)) r (cs_ln (cs_put S r (cs_ln S r + i) (cs_fil (cs_by S r) (cs_by S o) (cs_ln S r) i)) r + 1) (va_up (cs_by (cs_put S r (cs_ln S r + i) (cs_fil (cs_by S r) (cs_by S o) (cs_ln S r) i)) r) (cs_ln (cs_put S r (cs_ln S r + i) (cs_fil (cs_by S r) (cs_by S o) (cs_ln S r) i)) r) ((cs_by S o) i))) (cs_k2 (cs_bRow (nI r) (nI o)) (cs_bRow (nI r) (nI o) && decide (cs_ln S (cs_c (nI r)) + cs_ln S (cs_c (nI o)) ≤ 256))) bd cy) := hD1.weaken (fun k q _ h => hF q.1 h)
              rw [cs_put_ln, cs_put_put, cs_put_by] at hP hD
              have hP : va_P D vwCl (cs_R (cs_put S r (cs_ln S r + (i + 1)) (cs_fil (cs_by S r) (cs_by S o) (cs_ln S r) (i + 1))) (cs_k2 (cs_bRow (nI r) (nI o)) (cs_bRow (nI r) (nI o) && decide (cs_ln S (cs_c (nI r)) + cs_ln S (cs_c (nI o)) ≤ 256))) bd cy) H := hP
              have hD : va_D (va_A (cs_R S th bd cy) s.heap.size) (cs_R (cs_put S r (cs_ln S r + (i + 1)) (cs_fil (cs_by S r) (cs_by S o) (cs_ln S r) (i + 1))) (cs_k2 (cs_bRow (nI r) (nI o)) (cs_bRow (nI r) (nI o) && decide (cs_ln S (cs_c (nI r)) + cs_ln S (cs_c (nI o)) ≤ 256))) bd cy) := hD
              refine lv_iinc (v := nI (i + 1)) (lv' := [(5, .int (nI (i + 1))), (0, .ref (bd 0)), (1, .int (nI r)), (2, .int (nI o)), (4, .int (nI (cs_ln S o)))]) hx hb dX2_appendRow_94 hl (k := 4) rfl (cs_inc1 i) (by decide) rfl (fun ls hl => ?_)
              refine lv_goto (tgt := 69) hx hb dX2_appendRow_97 (by decide) ?_
              exact ih (i + 1) (by omega) H locs hP hD hS9 ls (lv_sub hl [1, 2, 3, 4, 0] rfl)
        have e0 : (cs_put S r (cs_ln S r + 0) (cs_fil (cs_by S r) (cs_by S o) (cs_ln S r) 0)) = S := cs_put_id
        exact loop (cs_ln S o) 0 (by omega) H locs (by rw [e0]; exact hP) (by rw [e0]; exact hD) hS9 ls (lv_sub hl [3, 4, 5, 1, 0] rfl)
      · have es : cs_sRow S v u = S := if_neg (fun z => absurd (cs_k2_0.mp z) (by rw [c_53]; decide))
        refine lv_iconst (v := 0) hx hb dX2_appendRow_56 (by decide) ?_
        exact W.iret (v := 0) hx hb hr (fun t ht _ => ⟨0, (), rfl, fun z => absurd (cs_k2_0.mp z) (by rw [c_53]; decide), by rw [ht, es]; exact hP, by rw [es]; exact hD, hS9.F ht⟩) hS9.2.2 dX2_appendRow_57
    refine lv_aload_n hx hb dX2_appendRow_20 rfl (lv_at hl 1 rfl) ?_
    refine lv_iload_n hx hb dX2_appendRow_21 rfl (lv_at hl 0 rfl) ?_
    refine lv_iload_n hx hb dX2_appendRow_22 rfl (lv_at hl 0 rfl) ?_
    refine cs_ifeq (tgt := 49) hx hb dX2_appendRow_23 (by decide) (fun c_23 => ?_) (fun c_23 => ?_)
    · refine lv_iconst (v := 0) hx hb dX2_appendRow_49 (by decide) ?_
      refine cs_top (y := cs_z (cs_bRow v u && decide (cs_ln S (cs_c v) + cs_ln S (cs_c u) ≤ 256))) (by simp [cs_z, cs_nS, c_23]) ?_
      exact j50
    · obtain ⟨hr9, hu9⟩ := cs_and c_23
      obtain ⟨r, hr4, rfl⟩ := cs_row_of hr9
      have r31 : r < 2 ^ 31 := by omega
      obtain ⟨o, ho4, rfl⟩ := cs_row_of hu9
      have o31 : o < 2 ^ 31 := by omega
      have hla := hS.2.2.1 r
      have hlb := hS.2.2.1 o
      refine lv_aload_n hx hb dX2_appendRow_26 rfl (lv_at hl 1 rfl) ?_
      refine va_get (D := D) (ci := 2) (v := .ref (bd 8)) (C := RX2) (T := TX2) (N := 10) hx hb hts hinX2 hown hK hP 0 cs_R0 rfl 8 (by decide) (hts (.fieldLink RX2 32 "ChecksumLabModel" "length" "[I") (by decide +kernel)) (fun _ h9 => h9) rfl dX2_appendRow_27 ?_
      refine lv_iload_n hx hb dX2_appendRow_30 rfl (lv_at hl 2 rfl) ?_
      refine cs_iald hx hb hK hP 8 0 cs_R8 rfl (k := r) (hr4) (by decide) dX2_appendRow_31 ?_
      refine lv_aload_n hx hb dX2_appendRow_32 rfl (lv_at hl 1 rfl) ?_
      refine va_get (D := D) (ci := 2) (v := .ref (bd 8)) (C := RX2) (T := TX2) (N := 10) hx hb hts hinX2 hown hK hP 0 cs_R0 rfl 8 (by decide) (hts (.fieldLink RX2 32 "ChecksumLabModel" "length" "[I") (by decide +kernel)) (fun _ h9 => h9) rfl dX2_appendRow_33 ?_
      refine lv_iload_n hx hb dX2_appendRow_36 rfl (lv_at hl 3 rfl) ?_
      refine cs_iald hx hb hK hP 8 0 cs_R8 rfl (k := o) (ho4) (by decide) dX2_appendRow_37 ?_
      refine lv_iadd hx hb dX2_appendRow_38 ?_
      refine cs_top (y := nI (cs_ln S r + cs_ln S o)) (nI_add _ _) ?_
      refine lv_sipush (v := 256) hx hb dX2_appendRow_39 (by decide) ?_
      refine lv_icmp_gt (tgt := 49) hx hb dX2_appendRow_42 (by decide) (fun c_42 => ?_) (fun c_42 => ?_)
      · refine lv_iconst (v := 0) hx hb dX2_appendRow_49 (by decide) ?_
        refine cs_top (y := cs_z (cs_bRow (nI r) (nI o) && decide (cs_ln S (cs_c (nI r)) + cs_ln S (cs_c (nI o)) ≤ 256))) (by simp [cs_z, cs_nS, cs_cI r31, cs_cI o31, c_23, show ¬ cs_ln S r + cs_ln S o ≤ 256 from fun h => absurd c_42 (nI_nlt (a := 256) (b := cs_ln S r + cs_ln S o) h (by decide))]) ?_
        exact j50
      · refine lv_iconst (v := 1) hx hb dX2_appendRow_45 (by decide) ?_
        refine lv_goto (tgt := 50) hx hb dX2_appendRow_46 (by decide) ?_
        refine cs_top (y := cs_z (cs_bRow (nI r) (nI o) && decide (cs_ln S (cs_c (nI r)) + cs_ln S (cs_c (nI o)) ≤ 256))) (by simp [cs_z, cs_nS, cs_cI r31, cs_cI o31, c_23, show cs_ln S r + cs_ln S o ≤ 256 from Nat.le_of_not_lt (fun h => c_42 (nI_lt (a := 256) (b := cs_ln S r + cs_ln S o) h (by omega)))]) ?_
        exact j50
  refine cs_ifeq (tgt := 18) hx hb dX2_appendRow_4 (by decide) (fun c_4 => ?_) (fun c_4 => ?_)
  · refine lv_iconst (v := 0) hx hb dX2_appendRow_18 (by decide) ?_
    refine cs_top (y := cs_z (cs_in v 0 3 && cs_in u 0 3)) (by simp [cs_z, cs_nS, c_4]) ?_
    exact j19
  · refine lv_iload_n hx hb dX2_appendRow_7 rfl (lv_at hl 2 rfl) ?_
    refine vp_callSi (W.runS (As := [.int u]) (rest := []) ⟨hx, hb, hml, hown, hts⟩ (k_X2_isRow l D S th bd cy  u) (va_cwS 1 hts gX2_appendRow_X2_isRow rfl rfl rfl (by decide +kernel) ⟨Nat.le_of_ble_eq_true rfl, Nat.le_of_ble_eq_true rfl⟩) ⟨cs_B.blind, cs_B.at hE cs_none hK⟩ rfl rfl hl.1 rfl (lv_room (Nat.le_of_ble_eq_true rfl)) dX2_appendRow_8 ⟨Nat.le_of_ble_eq_true rfl, Nat.le_of_ble_eq_true rfl⟩) (fun r_8 e_8 => ?_)
    subst e_8
    refine cs_ifeq (tgt := 18) hx hb dX2_appendRow_11 (by decide) (fun c_11 => ?_) (fun c_11 => ?_)
    · refine lv_iconst (v := 0) hx hb dX2_appendRow_18 (by decide) ?_
      refine cs_top (y := cs_z (cs_in v 0 3 && cs_in u 0 3)) (by simp [cs_z, cs_nS, c_4, c_11]) ?_
      exact j19
    · refine lv_iconst (v := 1) hx hb dX2_appendRow_14 (by decide) ?_
      refine lv_goto (tgt := 19) hx hb dX2_appendRow_15 (by decide) ?_
      refine cs_top (y := cs_z (cs_in v 0 3 && cs_in u 0 3)) (by simp [cs_z, cs_nS, c_4, c_11]) ?_
      exact j19
set_option maxHeartbeats 4000000 in
set_option maxRecDepth 100000 in
theorem k_X2_define (l : Launch) (D : va_G) (S : cs_St) (th : Int32) (bd : Nat → Nat) (cy : Nat → ClassId) (sz : Nat) (hS : cs_ok S) (v a b : Int32) (q t9 : Bool) (d : Int32) : cs_Mw l yX2_define wsX2_define ({ frames := 1, cells := 0, slots := 0, locals := 22 }) D (cs_tys cy) (cs_R S th bd cy) sz [.ref (bd 0), .int v, .int a, .int b, .int (cs_z q), .int (cs_z t9), .int d] (fun (_ : Unit) => cs_R (cs_sDef S v a b q t9 d) (cs_kDef S v a b d) bd cy) (fun rr _ => cs_kDef S v a b d = 0 → rr = nI (cs_n S)) := by
  refine Met.ofW (cc := cX2_define) (maxL := 8) (ret := (some .int)) (by decide) rfl ?_
  intro pg e s m args below meth c s₁ B hml hv
  obtain ⟨rfl, hsz, hE, hP, hK, hD0⟩ := hv
  subst hsz
  have hD := hD0.self (sz := s.heap.size)
  have hA : ∀ q : Nat, s.heap.size ≤ q → va_A (cs_R S th bd cy) s.heap.size q := fun q h => Or.inr h
  have hS9 : va_S (va_A (cs_R S th bd cy) s.heap.size) s.heap s.heap [] := va_S.rf
  have hx := B.exec
  have hb := B.bytes
  have hr := B.returns
  have hts := atoms_spec (ws := wsX2_define) B.pre
  have hown : s.vm.findClass RX2 = some m.cls := findClass_of_methodNamed B.named
  have hlocks := B.notSynchronized
  have hl := lv_entry ([.ref (bd 0), .int v, .int a, .int b, .int (cs_z q), .int (cs_z t9), .int d]) (n := 8) (Nat.le_of_ble_eq_true rfl)
  rw [lg_entry_eq]
  generalize (lg_sl ([.ref (bd 0), .int v, .int a, .int b, .int (cs_z q), .int (cs_z t9), .int d]) ++ List.replicate (8 - (lg_sl ([.ref (bd 0), .int v, .int a, .int b, .int (cs_z q), .int (cs_z t9), .int d])).length) Slot.unset).toArray = ls at hl ⊢
  have hl : lv_has ls 8 [(0, .ref (bd 0)), (1, .int v), (2, .int a), (3, .int b), (4, .int (cs_z q)), (5, .int (cs_z t9)), (6, .int d)] := hl
  have hinX2 : ∀ w ∈ wsX20, w ∈ wsX2_define := fun _ h => by unfold wsX2_define; exact List.mem_cons_of_mem _ (List.mem_append_right _ h)
  have h6 := hS.1
  refine lv_iload_n hx hb dX2_define_0 rfl (lv_at hl 1 rfl) ?_
  refine lv_iconst (v := 1) hx hb dX2_define_1 (by decide) ?_
  refine lv_bipush (v := 32) hx hb dX2_define_2 (by decide) ?_
  refine vp_callSi (W.runS (As := [.int v, .int 1, .int 32]) (rest := []) ⟨hx, hb, hml, hown, hts⟩ (k_X2_in l D S th bd cy  v 1 32) (va_cwS 3 hts gX2_define_X2_in rfl rfl rfl (by decide +kernel) ⟨Nat.le_of_ble_eq_true rfl, Nat.le_of_ble_eq_true rfl⟩) ⟨cs_B.blind, cs_B.at hE cs_none hK⟩ rfl rfl hl.1 rfl (lv_room (Nat.le_of_ble_eq_true rfl)) dX2_define_4 ⟨Nat.le_of_ble_eq_true rfl, Nat.le_of_ble_eq_true rfl⟩) (fun r_4 e_4 => ?_)
  subst e_4
  have j40 : W pg l e (headSpec wsX2_define ({ frames := 1, cells := 0, slots := 0, locals := 22 })).room s m [Value.ref (bd 0), Value.int v, Value.int a, Value.int b, Value.int (cs_z q), Value.int (cs_z t9), Value.int d].toArray below meth c s.heap [] 0 0 (MQ below (cs_Qw D (cs_R S th bd cy) (fun (_ : Unit) => cs_R (cs_sDef S v a b q t9 d) (cs_kDef S v a b d) bd cy) (fun rr _ => cs_kDef S v a b d = 0 → rr = nI (cs_n S))) [Value.ref (bd 0), Value.int v, Value.int a, Value.int b, Value.int (cs_z q), Value.int (cs_z t9), Value.int d].toArray s 0 0 (va_A (cs_R S th bd cy) s.heap.size)) (F0 m 40 ls [.int (cs_z (cs_in v 1 32 && cs_nb a v && cs_nb b v && cs_nb d v))]) := by
    refine cs_top (y := cs_z (cs_bDef v a b d)) rfl ?_
    refine lv_istore (lv' := [(7, .int (cs_z (cs_bDef v a b d))), (0, .ref (bd 0)), (1, .int v), (2, .int a), (3, .int b), (4, .int (cs_z q)), (5, .int (cs_z t9)), (6, .int d)]) hx hb dX2_define_40 hl (by decide) rfl (fun ls hl => ?_)
    have j59 : W pg l e (headSpec wsX2_define ({ frames := 1, cells := 0, slots := 0, locals := 22 })).room s m [Value.ref (bd 0), Value.int v, Value.int a, Value.int b, Value.int (cs_z q), Value.int (cs_z t9), Value.int d].toArray below meth c s.heap [] 0 0 (MQ below (cs_Qw D (cs_R S th bd cy) (fun (_ : Unit) => cs_R (cs_sDef S v a b q t9 d) (cs_kDef S v a b d) bd cy) (fun rr _ => cs_kDef S v a b d = 0 → rr = nI (cs_n S))) [Value.ref (bd 0), Value.int v, Value.int a, Value.int b, Value.int (cs_z q), Value.int (cs_z t9), Value.int d].toArray s 0 0 (va_A (cs_R S th bd cy) s.heap.size)) (F0 m 59 ls [.int (cs_z (decide (cs_n S < 6))), .int (cs_z (cs_bDef v a b d)), .ref (bd 0)]) := by
      have hF := cs_inW hD hS9 hA
      refine cs_wcalli (va_runV (As := [.int (cs_z (cs_bDef v a b d)), .int (cs_z (decide (cs_n S < 6)))]) (rest := []) ⟨hx, hb, hml, hown, hts⟩ (k_X2_asked_ l D S th bd cy s.heap.size (cs_bDef v a b d) (decide (cs_n S < 6))) (cwV 2 hts gX2_define_X2_asked_ rfl rfl rfl (by decide +kernel) ⟨Nat.le_of_ble_eq_true rfl, Nat.le_of_ble_eq_true rfl⟩) ⟨cs_Bw.blind, va_recv hK hP (ci := 2) (q0 := 0) rfl rfl, cs_Bw.at hE hP hK hD⟩ rfl rfl hl.1 rfl (lv_room (Nat.le_of_ble_eq_true rfl)) dX2_define_59 ⟨Nat.le_of_ble_eq_true rfl, Nat.le_of_ble_eq_true rfl⟩) hS9 hF (fun r_59 u9 H locs hp hP hD1 hz hk1 hS9 => ?_)
      have hP : va_P D vwCl (cs_R S (cs_k2 (cs_bDef v a b d) (decide (cs_n S < 6))) bd cy) H := hP
      have hD : va_D (va_A (cs_R S th bd cy) s.heap.size) (cs_R S (cs_k2 (cs_bDef v a b d) (decide (cs_n S < 6))) bd cy) := hD1.weaken (fun k q _ h => hF q.1 h)
      subst hp
      refine cs_ifne (tgt := 67) hx hb dX2_define_62 (by decide) (fun c_62 => ?_) (fun c_62 => ?_)
      · have ek : cs_kDef S v a b d = 0 := cs_k2_0.mpr c_62
        have es : cs_sDef S v a b q t9 d = cs_def S (cs_c v) a b q t9 d := if_pos ek
        obtain ⟨hbd, hn6⟩ := cs_and c_62
        rw [decide_eq_true_eq] at hn6
        obtain ⟨wd, hw1, hw2, rfl⟩ := cs_in1_of (n := 32) (by decide) (cs_and (cs_and (cs_and hbd).1).1).1
        have w31 : wd < 2 ^ 31 := by omega
        rw [cs_cI w31] at es
        refine lv_aload_n hx hb dX2_define_67 rfl (lv_at hl 1 rfl) ?_
        refine va_get (D := D) (ci := 2) (v := .ref (bd 1)) (C := RX2) (T := TX2) (N := 10) hx hb hts hinX2 hown hK hP 0 rfl rfl 0 (by decide) (hts (.fieldLink RX2 7 "ChecksumLabModel" "width" "[I") (by decide +kernel)) (fun _ h9 => h9) rfl dX2_define_68 ?_
        refine lv_aload_n hx hb dX2_define_71 rfl (lv_at hl 1 rfl) ?_
        refine va_get (D := D) (ci := 2) (v := .int (nI (cs_n S))) (C := RX2) (T := TX2) (N := 10) hx hb hts hinX2 hown hK hP 0 rfl rfl 6 (by decide) (hts (.fieldLink RX2 39 "ChecksumLabModel" "models" "I") (by decide +kernel)) (fun _ h9 => h9) rfl dX2_define_72 ?_
        refine lv_iload_n hx hb dX2_define_75 rfl (lv_at hl 2 rfl) ?_
        refine cs_iast hx hb hK hP hD hS9 1 0 rfl rfl (k := cs_n S) (hn6) (by decide) dX2_define_76 (fun H locs hP hD hS9 => ?_)
        refine lv_aload_n hx hb dX2_define_77 rfl (lv_at hl 1 rfl) ?_
        refine va_get (D := D) (ci := 2) (v := .ref (bd 2)) (C := RX2) (T := TX2) (N := 10) hx hb hts hinX2 hown hK hP 0 rfl rfl 1 (by decide) (hts (.fieldLink RX2 13 "ChecksumLabModel" "poly" "[I") (by decide +kernel)) (fun _ h9 => h9) rfl dX2_define_78 ?_
        refine lv_aload_n hx hb dX2_define_81 rfl (lv_at hl 1 rfl) ?_
        refine va_get (D := D) (ci := 2) (v := .int (nI (cs_n S))) (C := RX2) (T := TX2) (N := 10) hx hb hts hinX2 hown hK hP 0 rfl rfl 6 (by decide) (hts (.fieldLink RX2 39 "ChecksumLabModel" "models" "I") (by decide +kernel)) (fun _ h9 => h9) rfl dX2_define_82 ?_
        refine lv_iload_n hx hb dX2_define_85 rfl (lv_at hl 3 rfl) ?_
        refine cs_iast hx hb hK hP hD hS9 2 0 rfl rfl (k := cs_n S) (hn6) (by decide) dX2_define_86 (fun H locs hP hD hS9 => ?_)
        refine lv_aload_n hx hb dX2_define_87 rfl (lv_at hl 1 rfl) ?_
        refine va_get (D := D) (ci := 2) (v := .ref (bd 3)) (C := RX2) (T := TX2) (N := 10) hx hb hts hinX2 hown hK hP 0 rfl rfl 2 (by decide) (hts (.fieldLink RX2 16 "ChecksumLabModel" "init" "[I") (by decide +kernel)) (fun _ h9 => h9) rfl dX2_define_88 ?_
        refine lv_aload_n hx hb dX2_define_91 rfl (lv_at hl 1 rfl) ?_
        refine va_get (D := D) (ci := 2) (v := .int (nI (cs_n S))) (C := RX2) (T := TX2) (N := 10) hx hb hts hinX2 hown hK hP 0 rfl rfl 6 (by decide) (hts (.fieldLink RX2 39 "ChecksumLabModel" "models" "I") (by decide +kernel)) (fun _ h9 => h9) rfl dX2_define_92 ?_
        refine lv_iload_n hx hb dX2_define_95 rfl (lv_at hl 4 rfl) ?_
        refine cs_iast hx hb hK hP hD hS9 3 0 rfl rfl (k := cs_n S) (hn6) (by decide) dX2_define_96 (fun H locs hP hD hS9 => ?_)
        refine lv_aload_n hx hb dX2_define_97 rfl (lv_at hl 1 rfl) ?_
        refine va_get (D := D) (ci := 2) (v := .ref (bd 4)) (C := RX2) (T := TX2) (N := 10) hx hb hts hinX2 hown hK hP 0 rfl rfl 3 (by decide) (hts (.fieldLink RX2 19 "ChecksumLabModel" "xorOut" "[I") (by decide +kernel)) (fun _ h9 => h9) rfl dX2_define_98 ?_
        refine lv_aload_n hx hb dX2_define_101 rfl (lv_at hl 1 rfl) ?_
        refine va_get (D := D) (ci := 2) (v := .int (nI (cs_n S))) (C := RX2) (T := TX2) (N := 10) hx hb hts hinX2 hown hK hP 0 rfl rfl 6 (by decide) (hts (.fieldLink RX2 39 "ChecksumLabModel" "models" "I") (by decide +kernel)) (fun _ h9 => h9) rfl dX2_define_102 ?_
        refine lv_iload hx hb dX2_define_105 (lv_at hl 7 rfl) ?_
        refine cs_iast hx hb hK hP hD hS9 4 0 rfl rfl (k := cs_n S) (hn6) (by decide) dX2_define_107 (fun H locs hP hD hS9 => ?_)
        refine lv_aload_n hx hb dX2_define_108 rfl (lv_at hl 1 rfl) ?_
        refine va_get (D := D) (ci := 2) (v := .ref (bd 5)) (C := RX2) (T := TX2) (N := 10) hx hb hts hinX2 hown hK hP 0 rfl rfl 4 (by decide) (hts (.fieldLink RX2 22 "ChecksumLabModel" "reflectIn" "[Z") (by decide +kernel)) (fun _ h9 => h9) rfl dX2_define_109 ?_
        refine lv_aload_n hx hb dX2_define_112 rfl (lv_at hl 1 rfl) ?_
        refine va_get (D := D) (ci := 2) (v := .int (nI (cs_n S))) (C := RX2) (T := TX2) (N := 10) hx hb hts hinX2 hown hK hP 0 rfl rfl 6 (by decide) (hts (.fieldLink RX2 39 "ChecksumLabModel" "models" "I") (by decide +kernel)) (fun _ h9 => h9) rfl dX2_define_113 ?_
        refine lv_iload hx hb dX2_define_116 (lv_at hl 5 rfl) ?_
        refine cs_zast hx hb hK hP hD hS9 5 1 rfl rfl (k := cs_n S) (hn6) (by decide) dX2_define_118 (fun H locs hP hD hS9 => ?_)
        refine lv_aload_n hx hb dX2_define_119 rfl (lv_at hl 1 rfl) ?_
        refine va_get (D := D) (ci := 2) (v := .ref (bd 6)) (C := RX2) (T := TX2) (N := 10) hx hb hts hinX2 hown hK hP 0 rfl rfl 5 (by decide) (hts (.fieldLink RX2 26 "ChecksumLabModel" "reflectOut" "[Z") (by decide +kernel)) (fun _ h9 => h9) rfl dX2_define_120 ?_
        refine lv_aload_n hx hb dX2_define_123 rfl (lv_at hl 1 rfl) ?_
        refine va_get (D := D) (ci := 2) (v := .int (nI (cs_n S))) (C := RX2) (T := TX2) (N := 10) hx hb hts hinX2 hown hK hP 0 rfl rfl 6 (by decide) (hts (.fieldLink RX2 39 "ChecksumLabModel" "models" "I") (by decide +kernel)) (fun _ h9 => h9) rfl dX2_define_124 ?_
        refine lv_iload hx hb dX2_define_127 (lv_at hl 6 rfl) ?_
        refine cs_zast hx hb hK hP hD hS9 6 1 rfl rfl (k := cs_n S) (hn6) (by decide) dX2_define_129 (fun H locs hP hD hS9 => ?_)
        refine lv_aload_n hx hb dX2_define_130 rfl (lv_at hl 1 rfl) ?_
        refine lv_dup hx hb dX2_define_131 rfl ?_
        refine va_get (D := D) (ci := 2) (v := .int (nI (cs_n S))) (C := RX2) (T := TX2) (N := 10) hx hb hts hinX2 hown hK hP 0 rfl rfl 6 (by decide) (hts (.fieldLink RX2 39 "ChecksumLabModel" "models" "I") (by decide +kernel)) (fun _ h9 => h9) rfl dX2_define_132 ?_
        refine lv_iconst (v := 1) hx hb dX2_define_135 (by decide) ?_
        refine lv_iadd hx hb dX2_define_136 ?_
        refine cs_top (y := nI (cs_n S + 1)) (nI_1 _) ?_
        refine va_put (D := D) (ci := 2) (v := .int (nI (cs_n S + 1))) (ty := .int) (C := RX2) (T := TX2) (N := 10) hx hb hts hinX2 tyX2 tyX2_ok nmX2 hown hK hP hD hS9 0 rfl rfl 6 (by decide) (hts (.fieldLink RX2 39 "ChecksumLabModel" "models" "I") (by decide +kernel)) (fun _ h9 => h9) rfl (by decide +kernel) rfl rfl (Nat.le_of_ble_eq_true rfl) dX2_define_137 (fun H locs hP hD hS9 => ?_)
        have e9 := cs_defE (S := S) (th := cs_k2 (cs_bDef (nI wd) a b d) (decide (cs_n S < 6))) (bd := bd) (cy := cy) (wd := wd) (po := a) (ini := b) (ri := q) (ro := t9) (xo := d)
        have hP : va_P D vwCl (cs_R (cs_def S wd a b q t9 d) (cs_k2 (cs_bDef (nI wd) a b d) (decide (cs_n S < 6))) bd cy) H := by rw [← e9]; exact hP
        have hD : va_D (va_A (cs_R S th bd cy) s.heap.size) (cs_R (cs_def S wd a b q t9 d) (cs_k2 (cs_bDef (nI wd) a b d) (decide (cs_n S < 6))) bd cy) := by rw [← e9]; exact hD
        refine lv_aload_n hx hb dX2_define_140 rfl (lv_at hl 1 rfl) ?_
        refine va_get (D := D) (ci := 2) (v := .int (nI (cs_n (cs_def S wd a b q t9 d)))) (C := RX2) (T := TX2) (N := 10) hx hb hts hinX2 hown hK hP 0 cs_R0 rfl 6 (by decide) (hts (.fieldLink RX2 39 "ChecksumLabModel" "models" "I") (by decide +kernel)) (fun _ h9 => h9) rfl dX2_define_141 ?_
        refine lv_iconst (v := 1) hx hb dX2_define_144 (by decide) ?_
        refine lv_isub hx hb dX2_define_145 ?_
        refine cs_top (y := nI (cs_n S)) (nI_pred _) ?_
        exact W.iret (v := nI (cs_n S)) hx hb hr (fun t ht _ => ⟨nI (cs_n S), (), rfl, fun _ => rfl, by rw [ht, es]; exact hP, by rw [es]; exact hD, hS9.F ht⟩) hS9.2.2 dX2_define_146
      · have es : cs_sDef S v a b q t9 d = S := if_neg (fun z => absurd (cs_k2_0.mp z) (by rw [c_62]; decide))
        refine lv_iconst (v := 0) hx hb dX2_define_65 (by decide) ?_
        exact W.iret (v := 0) hx hb hr (fun t ht _ => ⟨0, (), rfl, fun z => absurd (cs_k2_0.mp z) (by rw [c_62]; decide), by rw [ht, es]; exact hP, by rw [es]; exact hD, hS9.F ht⟩) hS9.2.2 dX2_define_66
    refine lv_aload_n hx hb dX2_define_42 rfl (lv_at hl 1 rfl) ?_
    refine lv_iload hx hb dX2_define_43 (lv_at hl 0 rfl) ?_
    refine lv_aload_n hx hb dX2_define_45 rfl (lv_at hl 1 rfl) ?_
    refine va_get (D := D) (ci := 2) (v := .int (nI (cs_n S))) (C := RX2) (T := TX2) (N := 10) hx hb hts hinX2 hown hK hP 0 cs_R0 rfl 6 (by decide) (hts (.fieldLink RX2 39 "ChecksumLabModel" "models" "I") (by decide +kernel)) (fun _ h9 => h9) rfl dX2_define_46 ?_
    refine lv_bipush (v := 6) hx hb dX2_define_49 (by decide) ?_
    refine lv_icmp_ge (tgt := 58) hx hb dX2_define_51 (by decide) (fun c_51 => ?_) (fun c_51 => ?_)
    · refine lv_iconst (v := 0) hx hb dX2_define_58 (by decide) ?_
      refine cs_top (y := cs_z (decide (cs_n S < 6))) (by simp [cs_z, cs_nS, show ¬ cs_n S < 6 from fun h => absurd c_51 (nI_ge (a := cs_n S) (b := 6) h (by decide))]) ?_
      exact j59
    · refine lv_iconst (v := 1) hx hb dX2_define_54 (by decide) ?_
      refine lv_goto (tgt := 59) hx hb dX2_define_55 (by decide) ?_
      refine cs_top (y := cs_z (decide (cs_n S < 6))) (by simp [cs_z, cs_nS, show cs_n S < 6 from Nat.lt_of_not_le (fun h => c_51 (nI_le (a := 6) (b := cs_n S) h (by omega)))]) ?_
      exact j59
  refine cs_ifeq (tgt := 39) hx hb dX2_define_7 (by decide) (fun c_7 => ?_) (fun c_7 => ?_)
  · refine lv_iconst (v := 0) hx hb dX2_define_39 (by decide) ?_
    refine cs_top (y := cs_z (cs_in v 1 32 && cs_nb a v && cs_nb b v && cs_nb d v)) (by simp [cs_z, cs_nS, c_7]) ?_
    exact j40
  · refine lv_iload_n hx hb dX2_define_10 rfl (lv_at hl 2 rfl) ?_
    refine lv_iload_n hx hb dX2_define_11 rfl (lv_at hl 1 rfl) ?_
    refine vp_callSi (W.runS (As := [.int a, .int v]) (rest := []) ⟨hx, hb, hml, hown, hts⟩ (k_X2_hasBits l D S th bd cy  a v) (va_cwS 2 hts gX2_define_X2_hasBits rfl rfl rfl (by decide +kernel) ⟨Nat.le_of_ble_eq_true rfl, Nat.le_of_ble_eq_true rfl⟩) ⟨cs_B.blind, cs_B.at hE cs_none hK⟩ rfl rfl hl.1 rfl (lv_room (Nat.le_of_ble_eq_true rfl)) dX2_define_12 ⟨Nat.le_of_ble_eq_true rfl, Nat.le_of_ble_eq_true rfl⟩) (fun r_12 e_12 => ?_)
    subst e_12
    refine cs_ifeq (tgt := 39) hx hb dX2_define_15 (by decide) (fun c_15 => ?_) (fun c_15 => ?_)
    · refine lv_iconst (v := 0) hx hb dX2_define_39 (by decide) ?_
      refine cs_top (y := cs_z (cs_in v 1 32 && cs_nb a v && cs_nb b v && cs_nb d v)) (by simp [cs_z, cs_nS, c_7, c_15]) ?_
      exact j40
    · refine lv_iload_n hx hb dX2_define_18 rfl (lv_at hl 3 rfl) ?_
      refine lv_iload_n hx hb dX2_define_19 rfl (lv_at hl 1 rfl) ?_
      refine vp_callSi (W.runS (As := [.int b, .int v]) (rest := []) ⟨hx, hb, hml, hown, hts⟩ (k_X2_hasBits l D S th bd cy  b v) (va_cwS 2 hts gX2_define_X2_hasBits rfl rfl rfl (by decide +kernel) ⟨Nat.le_of_ble_eq_true rfl, Nat.le_of_ble_eq_true rfl⟩) ⟨cs_B.blind, cs_B.at hE cs_none hK⟩ rfl rfl hl.1 rfl (lv_room (Nat.le_of_ble_eq_true rfl)) dX2_define_20 ⟨Nat.le_of_ble_eq_true rfl, Nat.le_of_ble_eq_true rfl⟩) (fun r_20 e_20 => ?_)
      subst e_20
      refine cs_ifeq (tgt := 39) hx hb dX2_define_23 (by decide) (fun c_23 => ?_) (fun c_23 => ?_)
      · refine lv_iconst (v := 0) hx hb dX2_define_39 (by decide) ?_
        refine cs_top (y := cs_z (cs_in v 1 32 && cs_nb a v && cs_nb b v && cs_nb d v)) (by simp [cs_z, cs_nS, c_7, c_15, c_23]) ?_
        exact j40
      · refine lv_iload hx hb dX2_define_26 (lv_at hl 6 rfl) ?_
        refine lv_iload_n hx hb dX2_define_28 rfl (lv_at hl 1 rfl) ?_
        refine vp_callSi (W.runS (As := [.int d, .int v]) (rest := []) ⟨hx, hb, hml, hown, hts⟩ (k_X2_hasBits l D S th bd cy  d v) (va_cwS 2 hts gX2_define_X2_hasBits rfl rfl rfl (by decide +kernel) ⟨Nat.le_of_ble_eq_true rfl, Nat.le_of_ble_eq_true rfl⟩) ⟨cs_B.blind, cs_B.at hE cs_none hK⟩ rfl rfl hl.1 rfl (lv_room (Nat.le_of_ble_eq_true rfl)) dX2_define_29 ⟨Nat.le_of_ble_eq_true rfl, Nat.le_of_ble_eq_true rfl⟩) (fun r_29 e_29 => ?_)
        subst e_29
        refine cs_ifeq (tgt := 39) hx hb dX2_define_32 (by decide) (fun c_32 => ?_) (fun c_32 => ?_)
        · refine lv_iconst (v := 0) hx hb dX2_define_39 (by decide) ?_
          refine cs_top (y := cs_z (cs_in v 1 32 && cs_nb a v && cs_nb b v && cs_nb d v)) (by simp [cs_z, cs_nS, c_7, c_15, c_23, c_32]) ?_
          exact j40
        · refine lv_iconst (v := 1) hx hb dX2_define_35 (by decide) ?_
          refine lv_goto (tgt := 40) hx hb dX2_define_36 (by decide) ?_
          refine cs_top (y := cs_z (cs_in v 1 32 && cs_nb a v && cs_nb b v && cs_nb d v)) (by simp [cs_z, cs_nS, c_7, c_15, c_23, c_32]) ?_
          exact j40
