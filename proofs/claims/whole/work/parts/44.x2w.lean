set_option maxHeartbeats 4000000 in
set_option maxRecDepth 100000 in
theorem k_X2_asked (l : Launch) (D : va_G) (S : cs_St) (th : Int32) (bd : Nat → Nat) (cy : Nat → ClassId) (sz : Nat) (b : Bool) : cs_Mw l yX2_asked wsX2_asked ({ frames := 0, cells := 0, slots := 0, locals := 0 }) D (cs_tys cy) (cs_R S th bd cy) sz [.ref (bd 0), .int (cs_z b)] (fun (_ : Unit) => cs_R S (cs_k1 b) bd cy) (fun rr _ => rr = cs_z b) := by
  refine Met.ofW (cc := cX2_asked) (maxL := 2) (ret := (some .boolean)) (by decide) rfl ?_
  intro pg e s m args below meth c s₁ B hml hv
  obtain ⟨rfl, hsz, hE, hP, hK, hD0⟩ := hv
  subst hsz
  have hD := hD0.self (sz := s.heap.size)
  have hA : ∀ q : Nat, s.heap.size ≤ q → va_A (cs_R S th bd cy) s.heap.size q := fun q h => Or.inr h
  have hS9 : va_S (va_A (cs_R S th bd cy) s.heap.size) s.heap s.heap [] := va_S.rf
  have hx := B.exec
  have hb := B.bytes
  have hr := B.returns
  have hts := atoms_spec (ws := wsX2_asked) B.pre
  have hown : s.vm.findClass RX2 = some m.cls := findClass_of_methodNamed B.named
  have hlocks := B.notSynchronized
  have hl := lv_entry ([.ref (bd 0), .int (cs_z b)]) (n := 2) (Nat.le_of_ble_eq_true rfl)
  rw [lg_entry_eq]
  generalize (lg_sl ([.ref (bd 0), .int (cs_z b)]) ++ List.replicate (2 - (lg_sl ([.ref (bd 0), .int (cs_z b)])).length) Slot.unset).toArray = ls at hl ⊢
  have hl : lv_has ls 2 [(0, .ref (bd 0)), (1, .int (cs_z b))] := hl
  have hinX2 : ∀ w ∈ wsX20, w ∈ wsX2_asked := fun _ h => by unfold wsX2_asked; exact List.mem_cons_of_mem _ (List.mem_append_right _ h)
  refine lv_aload_n hx hb dX2_asked_0 rfl (lv_at hl 0 rfl) ?_
  refine lv_iload_n hx hb dX2_asked_1 rfl (lv_at hl 1 rfl) ?_
  refine cs_ifeq (tgt := 9) hx hb dX2_asked_2 (by decide) (fun c_2 => ?_) (fun c_2 => ?_)
  · refine lv_iconst (v := 1) hx hb dX2_asked_9 (by decide) ?_
    refine cs_top (y := cs_k1 b) (by rw [c_2]; rfl) ?_
    refine va_put (D := D) (ci := 2) (v := .int (cs_k1 b)) (ty := .int) (C := RX2) (T := TX2) (N := 10) hx hb hts hinX2 tyX2 tyX2_ok nmX2 hown hK hP hD hS9 0 cs_R0 rfl 9 (by decide) (hts (.fieldLink RX2 35 "ChecksumLabModel" "thrown" "I") (by decide +kernel)) (fun _ h9 => h9) rfl (by decide +kernel) rfl rfl (Nat.le_of_ble_eq_true rfl) dX2_asked_10 (fun H locs hP hD hS9 => ?_)
    have hP : va_P D vwCl (cs_R S (cs_k1 b) bd cy) H := hP
    have hD : va_D (va_A (cs_R S th bd cy) s.heap.size) (cs_R S (cs_k1 b) bd cy) := hD
    refine lv_iload_n hx hb dX2_asked_13 rfl (lv_at hl 1 rfl) ?_
    exact W.zret (ty := .boolean) (v := cs_z b) hx hb hr (cs_z_nar _) (fun t ht _ => ⟨cs_z b, (), rfl, rfl, by rw [ht]; exact hP, by exact hD, hS9.F ht⟩) hS9.2.2 dX2_asked_14
  · refine lv_iconst (v := 0) hx hb dX2_asked_5 (by decide) ?_
    refine lv_goto (tgt := 10) hx hb dX2_asked_6 (by decide) ?_
    refine cs_top (y := cs_k1 b) (by rw [c_2]; rfl) ?_
    refine va_put (D := D) (ci := 2) (v := .int (cs_k1 b)) (ty := .int) (C := RX2) (T := TX2) (N := 10) hx hb hts hinX2 tyX2 tyX2_ok nmX2 hown hK hP hD hS9 0 cs_R0 rfl 9 (by decide) (hts (.fieldLink RX2 35 "ChecksumLabModel" "thrown" "I") (by decide +kernel)) (fun _ h9 => h9) rfl (by decide +kernel) rfl rfl (Nat.le_of_ble_eq_true rfl) dX2_asked_10 (fun H locs hP hD hS9 => ?_)
    have hP : va_P D vwCl (cs_R S (cs_k1 b) bd cy) H := hP
    have hD : va_D (va_A (cs_R S th bd cy) s.heap.size) (cs_R S (cs_k1 b) bd cy) := hD
    refine lv_iload_n hx hb dX2_asked_13 rfl (lv_at hl 1 rfl) ?_
    exact W.zret (ty := .boolean) (v := cs_z b) hx hb hr (cs_z_nar _) (fun t ht _ => ⟨cs_z b, (), rfl, rfl, by rw [ht]; exact hP, by exact hD, hS9.F ht⟩) hS9.2.2 dX2_asked_14
set_option maxHeartbeats 4000000 in
set_option maxRecDepth 100000 in
theorem k_X2_asked_ (l : Launch) (D : va_G) (S : cs_St) (th : Int32) (bd : Nat → Nat) (cy : Nat → ClassId) (sz : Nat) (b b2 : Bool) : cs_Mw l yX2_asked_ wsX2_asked_ ({ frames := 0, cells := 0, slots := 0, locals := 0 }) D (cs_tys cy) (cs_R S th bd cy) sz [.ref (bd 0), .int (cs_z b), .int (cs_z b2)] (fun (_ : Unit) => cs_R S (cs_k2 b b2) bd cy) (fun rr _ => rr = cs_z (b && b2)) := by
  refine Met.ofW (cc := cX2_asked_) (maxL := 3) (ret := (some .boolean)) (by decide) rfl ?_
  intro pg e s m args below meth c s₁ B hml hv
  obtain ⟨rfl, hsz, hE, hP, hK, hD0⟩ := hv
  subst hsz
  have hD := hD0.self (sz := s.heap.size)
  have hA : ∀ q : Nat, s.heap.size ≤ q → va_A (cs_R S th bd cy) s.heap.size q := fun q h => Or.inr h
  have hS9 : va_S (va_A (cs_R S th bd cy) s.heap.size) s.heap s.heap [] := va_S.rf
  have hx := B.exec
  have hb := B.bytes
  have hr := B.returns
  have hts := atoms_spec (ws := wsX2_asked_) B.pre
  have hown : s.vm.findClass RX2 = some m.cls := findClass_of_methodNamed B.named
  have hlocks := B.notSynchronized
  have hl := lv_entry ([.ref (bd 0), .int (cs_z b), .int (cs_z b2)]) (n := 3) (Nat.le_of_ble_eq_true rfl)
  rw [lg_entry_eq]
  generalize (lg_sl ([.ref (bd 0), .int (cs_z b), .int (cs_z b2)]) ++ List.replicate (3 - (lg_sl ([.ref (bd 0), .int (cs_z b), .int (cs_z b2)])).length) Slot.unset).toArray = ls at hl ⊢
  have hl : lv_has ls 3 [(0, .ref (bd 0)), (1, .int (cs_z b)), (2, .int (cs_z b2))] := hl
  have hinX2 : ∀ w ∈ wsX20, w ∈ wsX2_asked_ := fun _ h => by unfold wsX2_asked_; exact List.mem_cons_of_mem _ (List.mem_append_right _ h)
  refine lv_aload_n hx hb dX2_asked__0 rfl (lv_at hl 0 rfl) ?_
  refine lv_iload_n hx hb dX2_asked__1 rfl (lv_at hl 1 rfl) ?_
  refine cs_ifne (tgt := 9) hx hb dX2_asked__2 (by decide) (fun c_2 => ?_) (fun c_2 => ?_)
  · refine lv_iload_n hx hb dX2_asked__9 rfl (lv_at hl 2 rfl) ?_
    refine cs_ifeq (tgt := 17) hx hb dX2_asked__10 (by decide) (fun c_10 => ?_) (fun c_10 => ?_)
    · refine lv_iconst (v := 2) hx hb dX2_asked__17 (by decide) ?_
      refine cs_top (y := cs_k2 b b2) (by rw [c_2, c_10]; rfl) ?_
      refine va_put (D := D) (ci := 2) (v := .int (cs_k2 b b2)) (ty := .int) (C := RX2) (T := TX2) (N := 10) hx hb hts hinX2 tyX2 tyX2_ok nmX2 hown hK hP hD hS9 0 cs_R0 rfl 9 (by decide) (hts (.fieldLink RX2 35 "ChecksumLabModel" "thrown" "I") (by decide +kernel)) (fun _ h9 => h9) rfl (by decide +kernel) rfl rfl (Nat.le_of_ble_eq_true rfl) dX2_asked__18 (fun H locs hP hD hS9 => ?_)
      have hP : va_P D vwCl (cs_R S (cs_k2 b b2) bd cy) H := hP
      have hD : va_D (va_A (cs_R S th bd cy) s.heap.size) (cs_R S (cs_k2 b b2) bd cy) := hD
      refine lv_aload_n hx hb dX2_asked__21 rfl (lv_at hl 0 rfl) ?_
      refine va_get (D := D) (ci := 2) (v := .int (cs_k2 b b2)) (C := RX2) (T := TX2) (N := 10) hx hb hts hinX2 hown hK hP 0 cs_R0 rfl 9 (by decide) (hts (.fieldLink RX2 35 "ChecksumLabModel" "thrown" "I") (by decide +kernel)) (fun _ h9 => h9) rfl dX2_asked__22 ?_
      refine lv_if_ne (tgt := 32) hx hb dX2_asked__25 (by decide) (fun c_25 => ?_) (fun c_25 => ?_)
      · refine lv_iconst (v := 0) hx hb dX2_asked__32 (by decide) ?_
        refine cs_top (y := cs_z (b && b2)) (by rw [c_2, c_10]; rfl) ?_
        exact W.zret (ty := .boolean) (v := cs_z (b && b2)) hx hb hr (cs_z_nar _) (fun t ht _ => ⟨cs_z (b && b2), (), rfl, rfl, by rw [ht]; exact hP, by exact hD, hS9.F ht⟩) hS9.2.2 dX2_asked__33
      · exact absurd c_25 (by rw [c_2, c_10]; decide)
    · refine lv_iconst (v := 0) hx hb dX2_asked__13 (by decide) ?_
      refine lv_goto (tgt := 18) hx hb dX2_asked__14 (by decide) ?_
      refine cs_top (y := cs_k2 b b2) (by rw [c_2, c_10]; rfl) ?_
      refine va_put (D := D) (ci := 2) (v := .int (cs_k2 b b2)) (ty := .int) (C := RX2) (T := TX2) (N := 10) hx hb hts hinX2 tyX2 tyX2_ok nmX2 hown hK hP hD hS9 0 cs_R0 rfl 9 (by decide) (hts (.fieldLink RX2 35 "ChecksumLabModel" "thrown" "I") (by decide +kernel)) (fun _ h9 => h9) rfl (by decide +kernel) rfl rfl (Nat.le_of_ble_eq_true rfl) dX2_asked__18 (fun H locs hP hD hS9 => ?_)
      have hP : va_P D vwCl (cs_R S (cs_k2 b b2) bd cy) H := hP
      have hD : va_D (va_A (cs_R S th bd cy) s.heap.size) (cs_R S (cs_k2 b b2) bd cy) := hD
      refine lv_aload_n hx hb dX2_asked__21 rfl (lv_at hl 0 rfl) ?_
      refine va_get (D := D) (ci := 2) (v := .int (cs_k2 b b2)) (C := RX2) (T := TX2) (N := 10) hx hb hts hinX2 hown hK hP 0 cs_R0 rfl 9 (by decide) (hts (.fieldLink RX2 35 "ChecksumLabModel" "thrown" "I") (by decide +kernel)) (fun _ h9 => h9) rfl dX2_asked__22 ?_
      refine lv_if_ne (tgt := 32) hx hb dX2_asked__25 (by decide) (fun c_25 => ?_) (fun c_25 => ?_)
      · exact absurd (by rw [c_2, c_10]; decide) c_25
      · refine lv_iconst (v := 1) hx hb dX2_asked__28 (by decide) ?_
        refine lv_goto (tgt := 33) hx hb dX2_asked__29 (by decide) ?_
        refine cs_top (y := cs_z (b && b2)) (by rw [c_2, c_10]; rfl) ?_
        exact W.zret (ty := .boolean) (v := cs_z (b && b2)) hx hb hr (cs_z_nar _) (fun t ht _ => ⟨cs_z (b && b2), (), rfl, rfl, by rw [ht]; exact hP, by exact hD, hS9.F ht⟩) hS9.2.2 dX2_asked__33
  · refine lv_iconst (v := 1) hx hb dX2_asked__5 (by decide) ?_
    refine lv_goto (tgt := 18) hx hb dX2_asked__6 (by decide) ?_
    refine cs_top (y := cs_k2 b b2) (by rw [c_2]; rfl) ?_
    refine va_put (D := D) (ci := 2) (v := .int (cs_k2 b b2)) (ty := .int) (C := RX2) (T := TX2) (N := 10) hx hb hts hinX2 tyX2 tyX2_ok nmX2 hown hK hP hD hS9 0 cs_R0 rfl 9 (by decide) (hts (.fieldLink RX2 35 "ChecksumLabModel" "thrown" "I") (by decide +kernel)) (fun _ h9 => h9) rfl (by decide +kernel) rfl rfl (Nat.le_of_ble_eq_true rfl) dX2_asked__18 (fun H locs hP hD hS9 => ?_)
    have hP : va_P D vwCl (cs_R S (cs_k2 b b2) bd cy) H := hP
    have hD : va_D (va_A (cs_R S th bd cy) s.heap.size) (cs_R S (cs_k2 b b2) bd cy) := hD
    refine lv_aload_n hx hb dX2_asked__21 rfl (lv_at hl 0 rfl) ?_
    refine va_get (D := D) (ci := 2) (v := .int (cs_k2 b b2)) (C := RX2) (T := TX2) (N := 10) hx hb hts hinX2 hown hK hP 0 cs_R0 rfl 9 (by decide) (hts (.fieldLink RX2 35 "ChecksumLabModel" "thrown" "I") (by decide +kernel)) (fun _ h9 => h9) rfl dX2_asked__22 ?_
    refine lv_if_ne (tgt := 32) hx hb dX2_asked__25 (by decide) (fun c_25 => ?_) (fun c_25 => ?_)
    · refine lv_iconst (v := 0) hx hb dX2_asked__32 (by decide) ?_
      refine cs_top (y := cs_z (b && b2)) (by rw [c_2]; rfl) ?_
      exact W.zret (ty := .boolean) (v := cs_z (b && b2)) hx hb hr (cs_z_nar _) (fun t ht _ => ⟨cs_z (b && b2), (), rfl, rfl, by rw [ht]; exact hP, by exact hD, hS9.F ht⟩) hS9.2.2 dX2_asked__33
    · exact absurd c_25 (by rw [c_2]; cases b2 <;> decide)
set_option maxHeartbeats 4000000 in
set_option maxRecDepth 100000 in
theorem k_X2_models (l : Launch) (D : va_G) (S : cs_St) (th : Int32) (bd : Nat → Nat) (cy : Nat → ClassId) (sz : Nat)  : cs_Mw l yX2_models wsX2_models ({ frames := 0, cells := 0, slots := 0, locals := 0 }) D (cs_tys cy) (cs_R S th bd cy) sz [.ref (bd 0)] (fun (_ : Unit) => cs_R S 0 bd cy) (fun rr _ => rr = nI (cs_n S)) := by
  refine Met.ofW (cc := cX2_models) (maxL := 1) (ret := (some .int)) (by decide) rfl ?_
  intro pg e s m args below meth c s₁ B hml hv
  obtain ⟨rfl, hsz, hE, hP, hK, hD0⟩ := hv
  subst hsz
  have hD := hD0.self (sz := s.heap.size)
  have hA : ∀ q : Nat, s.heap.size ≤ q → va_A (cs_R S th bd cy) s.heap.size q := fun q h => Or.inr h
  have hS9 : va_S (va_A (cs_R S th bd cy) s.heap.size) s.heap s.heap [] := va_S.rf
  have hx := B.exec
  have hb := B.bytes
  have hr := B.returns
  have hts := atoms_spec (ws := wsX2_models) B.pre
  have hown : s.vm.findClass RX2 = some m.cls := findClass_of_methodNamed B.named
  have hlocks := B.notSynchronized
  have hl := lv_entry ([.ref (bd 0)]) (n := 1) (Nat.le_of_ble_eq_true rfl)
  rw [lg_entry_eq]
  generalize (lg_sl ([.ref (bd 0)]) ++ List.replicate (1 - (lg_sl ([.ref (bd 0)])).length) Slot.unset).toArray = ls at hl ⊢
  have hl : lv_has ls 1 [(0, .ref (bd 0))] := hl
  have hinX2 : ∀ w ∈ wsX20, w ∈ wsX2_models := fun _ h => by unfold wsX2_models; exact List.mem_cons_of_mem _ (List.mem_append_right _ h)
  refine lv_aload_n hx hb dX2_models_0 rfl (lv_at hl 0 rfl) ?_
  refine lv_iconst (v := 0) hx hb dX2_models_1 (by decide) ?_
  refine va_put (D := D) (ci := 2) (v := .int 0) (ty := .int) (C := RX2) (T := TX2) (N := 10) hx hb hts hinX2 tyX2 tyX2_ok nmX2 hown hK hP hD hS9 0 cs_R0 rfl 9 (by decide) (hts (.fieldLink RX2 35 "ChecksumLabModel" "thrown" "I") (by decide +kernel)) (fun _ h9 => h9) rfl (by decide +kernel) rfl rfl (Nat.le_of_ble_eq_true rfl) dX2_models_2 (fun H locs hP hD hS9 => ?_)
  have hP : va_P D vwCl (cs_R S 0 bd cy) H := hP
  have hD : va_D (va_A (cs_R S th bd cy) s.heap.size) (cs_R S 0 bd cy) := hD
  refine lv_aload_n hx hb dX2_models_5 rfl (lv_at hl 0 rfl) ?_
  refine va_get (D := D) (ci := 2) (v := .int (nI (cs_n S))) (C := RX2) (T := TX2) (N := 10) hx hb hts hinX2 hown hK hP 0 cs_R0 rfl 6 (by decide) (hts (.fieldLink RX2 39 "ChecksumLabModel" "models" "I") (by decide +kernel)) (fun _ h9 => h9) rfl dX2_models_6 ?_
  exact W.iret (v := nI (cs_n S)) hx hb hr (fun t ht _ => ⟨nI (cs_n S), (), rfl, rfl, by rw [ht]; exact hP, by exact hD, hS9.F ht⟩) hS9.2.2 dX2_models_9
set_option maxHeartbeats 4000000 in
set_option maxRecDepth 100000 in
theorem k_X2_check (l : Launch) (D : va_G) (S : cs_St) (th : Int32) (bd : Nat → Nat) (cy : Nat → ClassId) (sz : Nat) (hS : cs_ok S) (v : Int32) : cs_Mw l yX2_check wsX2_check ({ frames := 2, cells := 0, slots := 0, locals := 50 }) D (cs_tys cy) (cs_R S th bd cy) sz [.ref (bd 0), .int v] (fun (_ : Unit) => cs_R S (cs_k1 (cs_M S v)) bd cy) (fun rr _ => cs_k1 (cs_M S v) = 0 → rr = cs_vChk S v) := by
  refine Met.ofW (cc := cX2_check) (maxL := 4) (ret := (some .int)) (by decide) rfl ?_
  intro pg e s m args below meth c s₁ B hml hv
  obtain ⟨rfl, hsz, hE, hP, hK, hD0⟩ := hv
  subst hsz
  have hD := hD0.self (sz := s.heap.size)
  have hA : ∀ q : Nat, s.heap.size ≤ q → va_A (cs_R S th bd cy) s.heap.size q := fun q h => Or.inr h
  have hS9 : va_S (va_A (cs_R S th bd cy) s.heap.size) s.heap s.heap [] := va_S.rf
  have hx := B.exec
  have hb := B.bytes
  have hr := B.returns
  have hts := atoms_spec (ws := wsX2_check) B.pre
  have hown : s.vm.findClass RX2 = some m.cls := findClass_of_methodNamed B.named
  have hlocks := B.notSynchronized
  have hl := lv_entry ([.ref (bd 0), .int v]) (n := 4) (Nat.le_of_ble_eq_true rfl)
  rw [lg_entry_eq]
  generalize (lg_sl ([.ref (bd 0), .int v]) ++ List.replicate (4 - (lg_sl ([.ref (bd 0), .int v])).length) Slot.unset).toArray = ls at hl ⊢
  have hl : lv_has ls 4 [(0, .ref (bd 0)), (1, .int v)] := hl
  have hinX2 : ∀ w ∈ wsX20, w ∈ wsX2_check := fun _ h => by unfold wsX2_check; exact List.mem_cons_of_mem _ (List.mem_append_right _ h)
  have h6 := hS.1
  refine lv_aload_n hx hb dX2_check_0 rfl (lv_at hl 0 rfl) ?_
  refine lv_aload_n hx hb dX2_check_1 rfl (lv_at hl 0 rfl) ?_
  refine lv_iload_n hx hb dX2_check_2 rfl (lv_at hl 1 rfl) ?_
  refine vp_callSi (W.runV (As := [.int v]) (rest := [.ref (bd 0)]) ⟨hx, hb, hml, hown, hts⟩ (k_X2_isModel l D S th bd cy  v) (cwV 1 hts gX2_check_X2_isModel rfl rfl rfl (by decide +kernel) ⟨Nat.le_of_ble_eq_true rfl, Nat.le_of_ble_eq_true rfl⟩) ⟨cs_B.blind, va_recv hK hP (ci := 2) (q0 := 0) rfl rfl, cs_B.at hE hP hK⟩ rfl rfl hl.1 rfl (lv_room (Nat.le_of_ble_eq_true rfl)) dX2_check_3 ⟨Nat.le_of_ble_eq_true rfl, Nat.le_of_ble_eq_true rfl⟩) (fun r_3 e_3 => ?_)
  subst e_3
  refine cs_top (y := cs_z (cs_M S v)) rfl ?_
  have hF := cs_inW hD hS9 hA
  refine cs_wcalli (va_runV (As := [.int (cs_z (cs_M S v))]) (rest := []) ⟨hx, hb, hml, hown, hts⟩ (k_X2_asked l D S th bd cy s.heap.size (cs_M S v)) (cwV 1 hts gX2_check_X2_asked rfl rfl rfl (by decide +kernel) ⟨Nat.le_of_ble_eq_true rfl, Nat.le_of_ble_eq_true rfl⟩) ⟨cs_Bw.blind, va_recv hK hP (ci := 2) (q0 := 0) rfl rfl, cs_Bw.at hE hP hK hD⟩ rfl rfl hl.1 rfl (lv_room (Nat.le_of_ble_eq_true rfl)) dX2_check_6 ⟨Nat.le_of_ble_eq_true rfl, Nat.le_of_ble_eq_true rfl⟩) hS9 hF (fun r_6 u9 H locs hp hP hD1 hz hk1 hS9 => ?_)
  have hP : va_P D vwCl (cs_R S (cs_k1 (cs_M S v)) bd cy) H := hP
  have hD : va_D (va_A (cs_R S th bd cy) s.heap.size) (cs_R S (cs_k1 (cs_M S v)) bd cy) := hD1.weaken (fun k q _ h => hF q.1 h)
  subst hp
  refine cs_ifne (tgt := 14) hx hb dX2_check_9 (by decide) (fun c_9 => ?_) (fun c_9 => ?_)
  · obtain ⟨k, hk, rfl⟩ := cs_mod_of hS c_9
    have hk31 : k < 2 ^ 31 := by omega
    refine lv_aload_n hx hb dX2_check_14 rfl (lv_at hl 0 rfl) ?_
    refine va_get (D := D) (ci := 2) (v := .ref (bd 3)) (C := RX2) (T := TX2) (N := 10) hx hb hts hinX2 hown hK hP 0 cs_R0 rfl 2 (by decide) (hts (.fieldLink RX2 16 "ChecksumLabModel" "init" "[I") (by decide +kernel)) (fun _ h9 => h9) rfl dX2_check_15 ?_
    refine lv_iload_n hx hb dX2_check_18 rfl (lv_at hl 1 rfl) ?_
    refine cs_iald hx hb hK hP 3 0 cs_R3 rfl (k := k) (by omega) (by decide) dX2_check_19 ?_
    refine lv_istore_n (lv' := [(2, .int (cs_i S k)), (0, .ref (bd 0)), (1, .int (nI k))]) hx hb dX2_check_20 rfl hl (by decide) rfl (fun ls hl => ?_)
    refine lv_bipush (v := 49) hx hb dX2_check_21 (by decide) ?_
    refine lv_istore_n (lv' := [(3, .int 49), (2, .int (cs_i S k)), (0, .ref (bd 0)), (1, .int (nI k))]) hx hb dX2_check_23 rfl hl (by decide) rfl (fun ls hl => ?_)
    have loop : ∀ (n j : Nat), j + n = 9 → ∀ ls : Array Slot, lv_has ls 4 [(0, .ref (bd 0)), (1, .int (nI k)), (2, .int (cs_ps (cs_w S k) (cs_p S k) (cs_ri S k) (cs_i S k) (fun j => j) 49 j)), (3, .int (nI (49 + j)))] → W pg l e (headSpec wsX2_check ({ frames := 2, cells := 0, slots := 0, locals := 50 })).room s m [Value.ref (bd 0), Value.int (nI k)].toArray below meth c H locs 0 0 (MQ below (cs_Qw D (cs_R S th bd cy) (fun (_ : Unit) => cs_R S (cs_k1 (cs_M S (nI k))) bd cy) (fun rr _ => cs_k1 (cs_M S (nI k)) = 0 → rr = cs_vChk S (nI k))) [Value.ref (bd 0), Value.int (nI k)].toArray s 0 0 (va_A (cs_R S th bd cy) s.heap.size)) (F0 m 24 ls []) := by
      intro n
      induction n with
      | zero =>
        intro j hj ls hl
        obtain rfl : j = 9 := by omega
        refine lv_iload_n hx hb dX2_check_24 rfl (lv_at hl 3 rfl) ?_
        refine lv_bipush (v := 57) hx hb dX2_check_25 (by decide) ?_
        refine lv_icmp_gt (tgt := 44) hx hb dX2_check_27 (by decide) (fun c_27 => ?_) (fun c_27 => ?_)
        · refine lv_aload_n hx hb dX2_check_44 rfl (lv_at hl 0 rfl) ?_
          refine lv_iload_n hx hb dX2_check_45 rfl (lv_at hl 1 rfl) ?_
          refine lv_iload_n hx hb dX2_check_46 rfl (lv_at hl 2 rfl) ?_
          refine vp_callSi (W.runV (As := [.int (nI k), .int (cs_ps (cs_w S k) (cs_p S k) (cs_ri S k) (cs_i S k) (fun j => j) 49 9)]) (rest := []) ⟨hx, hb, hml, hown, hts⟩ (k_X2_sumOf l D S (cs_k1 (cs_M S (nI k))) bd cy hS k hk (cs_ps (cs_w S k) (cs_p S k) (cs_ri S k) (cs_i S k) (fun j => j) 49 9)) (cwV 2 hts gX2_check_X2_sumOf rfl rfl rfl (by decide +kernel) ⟨Nat.le_of_ble_eq_true rfl, Nat.le_of_ble_eq_true rfl⟩) ⟨cs_B.blind, va_recv hK hP (ci := 2) (q0 := 0) rfl rfl, cs_B.at hE hP hK⟩ rfl rfl hl.1 rfl (lv_room (Nat.le_of_ble_eq_true rfl)) dX2_check_47 ⟨Nat.le_of_ble_eq_true rfl, Nat.le_of_ble_eq_true rfl⟩) (fun r_47 e_47 => ?_)
          subst e_47
          exact W.iret (v := cs_so (cs_ro S k) (cs_w S k) (cs_ps (cs_w S k) (cs_p S k) (cs_ri S k) (cs_i S k) (fun j => j) 49 9) ^^^ cs_x S k) hx hb hr (fun t ht _ => ⟨cs_so (cs_ro S k) (cs_w S k) (cs_ps (cs_w S k) (cs_p S k) (cs_ri S k) (cs_i S k) (fun j => j) 49 9) ^^^ cs_x S k, (), rfl, fun _ => by unfold cs_vChk cs_psS; rw [cs_cI hk31], by rw [ht]; exact hP, by exact hD, hS9.F ht⟩) hS9.2.2 dX2_check_50
        · exact absurd (by decide) c_27
      | succ n ih =>
        intro j hj ls hl
        refine lv_iload_n hx hb dX2_check_24 rfl (lv_at hl 3 rfl) ?_
        refine lv_bipush (v := 57) hx hb dX2_check_25 (by decide) ?_
        refine lv_icmp_gt (tgt := 44) hx hb dX2_check_27 (by decide) (fun c_27 => ?_) (fun c_27 => ?_)
        · exact absurd c_27 (nI_nlt (a := 57) (b := 49 + j) (by omega) (by omega))
        · refine lv_aload_n hx hb dX2_check_30 rfl (lv_at hl 0 rfl) ?_
          refine lv_iload_n hx hb dX2_check_31 rfl (lv_at hl 1 rfl) ?_
          refine lv_iload_n hx hb dX2_check_32 rfl (lv_at hl 2 rfl) ?_
          refine lv_iload_n hx hb dX2_check_33 rfl (lv_at hl 3 rfl) ?_
          refine vp_callSi (W.runV (As := [.int (nI k), .int (cs_ps (cs_w S k) (cs_p S k) (cs_ri S k) (cs_i S k) (fun j => j) 49 j), .int (nI (49 + j))]) (rest := []) ⟨hx, hb, hml, hown, hts⟩ (k_X2_takes l D S (cs_k1 (cs_M S (nI k))) bd cy hS k hk (cs_ps (cs_w S k) (cs_p S k) (cs_ri S k) (cs_i S k) (fun j => j) 49 j) (49 + j) (by omega)) (cwV 3 hts gX2_check_X2_takes rfl rfl rfl (by decide +kernel) ⟨Nat.le_of_ble_eq_true rfl, Nat.le_of_ble_eq_true rfl⟩) ⟨cs_B.blind, va_recv hK hP (ci := 2) (q0 := 0) rfl rfl, cs_B.at hE hP hK⟩ rfl rfl hl.1 rfl (lv_room (Nat.le_of_ble_eq_true rfl)) dX2_check_34 ⟨Nat.le_of_ble_eq_true rfl, Nat.le_of_ble_eq_true rfl⟩) (fun r_34 e_34 => ?_)
          subst e_34
          refine lv_istore_n (lv' := [(2, .int (cs_tk (cs_w S k) (cs_p S k) (cs_ri S k) (cs_ps (cs_w S k) (cs_p S k) (cs_ri S k) (cs_i S k) (fun j => j) 49 j) (nI (49 + j)))), (0, .ref (bd 0)), (1, .int (nI k)), (3, .int (nI (49 + j)))]) hx hb dX2_check_37 rfl hl (by decide) rfl (fun ls hl => ?_)
          refine lv_iinc (v := nI (49 + (j + 1))) (lv' := [(3, .int (nI (49 + (j + 1)))), (2, .int (cs_tk (cs_w S k) (cs_p S k) (cs_ri S k) (cs_ps (cs_w S k) (cs_p S k) (cs_ri S k) (cs_i S k) (fun j => j) 49 j) (nI (49 + j)))), (0, .ref (bd 0)), (1, .int (nI k))]) hx hb dX2_check_38 hl (k := 3) rfl (cs_inc1 (49 + j)) (by decide) rfl (fun ls hl => ?_)
          refine lv_goto (tgt := 24) hx hb dX2_check_41 (by decide) ?_
          exact ih (j + 1) (by omega) ls (lv_sub hl [2, 3, 1, 0] rfl)
    exact loop 9 0 (by omega) ls (lv_sub hl [2, 3, 1, 0] rfl)
  · refine lv_iconst (v := 0) hx hb dX2_check_12 (by decide) ?_
    exact W.iret (v := 0) hx hb hr (fun t ht _ => ⟨0, (), rfl, fun z => absurd (cs_k1_0.mp z) (by rw [c_9]; decide), by rw [ht]; exact hP, by exact hD, hS9.F ht⟩) hS9.2.2 dX2_check_13
set_option maxHeartbeats 4000000 in
set_option maxRecDepth 100000 in
theorem k_X2_multiply (l : Launch) (D : va_G) (S : cs_St) (th : Int32) (bd : Nat → Nat) (cy : Nat → ClassId) (sz : Nat) (hS : cs_ok S) (v a b : Int32) : cs_Mw l yX2_multiply wsX2_multiply ({ frames := 2, cells := 0, slots := 0, locals := 50 }) D (cs_tys cy) (cs_R S th bd cy) sz [.ref (bd 0), .int v, .int a, .int b] (fun (_ : Unit) => cs_R S (cs_kMul S v a b) bd cy) (fun rr _ => cs_kMul S v a b = 0 → rr = cs_vMul S v a b) := by
  refine Met.ofW (cc := cX2_multiply) (maxL := 5) (ret := (some .int)) (by decide) rfl ?_
  intro pg e s m args below meth c s₁ B hml hv
  obtain ⟨rfl, hsz, hE, hP, hK, hD0⟩ := hv
  subst hsz
  have hD := hD0.self (sz := s.heap.size)
  have hA : ∀ q : Nat, s.heap.size ≤ q → va_A (cs_R S th bd cy) s.heap.size q := fun q h => Or.inr h
  have hS9 : va_S (va_A (cs_R S th bd cy) s.heap.size) s.heap s.heap [] := va_S.rf
  have hx := B.exec
  have hb := B.bytes
  have hr := B.returns
  have hts := atoms_spec (ws := wsX2_multiply) B.pre
  have hown : s.vm.findClass RX2 = some m.cls := findClass_of_methodNamed B.named
  have hlocks := B.notSynchronized
  have hl := lv_entry ([.ref (bd 0), .int v, .int a, .int b]) (n := 5) (Nat.le_of_ble_eq_true rfl)
  rw [lg_entry_eq]
  generalize (lg_sl ([.ref (bd 0), .int v, .int a, .int b]) ++ List.replicate (5 - (lg_sl ([.ref (bd 0), .int v, .int a, .int b])).length) Slot.unset).toArray = ls at hl ⊢
  have hl : lv_has ls 5 [(0, .ref (bd 0)), (1, .int v), (2, .int a), (3, .int b)] := hl
  have hinX2 : ∀ w ∈ wsX20, w ∈ wsX2_multiply := fun _ h => by unfold wsX2_multiply; exact List.mem_cons_of_mem _ (List.mem_append_right _ h)
  have h6 := hS.1
  refine lv_aload_n hx hb dX2_multiply_0 rfl (lv_at hl 0 rfl) ?_
  refine lv_iload_n hx hb dX2_multiply_1 rfl (lv_at hl 1 rfl) ?_
  refine vp_callSi (W.runV (As := [.int v]) (rest := []) ⟨hx, hb, hml, hown, hts⟩ (k_X2_isModel l D S th bd cy  v) (cwV 1 hts gX2_multiply_X2_isModel rfl rfl rfl (by decide +kernel) ⟨Nat.le_of_ble_eq_true rfl, Nat.le_of_ble_eq_true rfl⟩) ⟨cs_B.blind, va_recv hK hP (ci := 2) (q0 := 0) rfl rfl, cs_B.at hE hP hK⟩ rfl rfl hl.1 rfl (lv_room (Nat.le_of_ble_eq_true rfl)) dX2_multiply_2 ⟨Nat.le_of_ble_eq_true rfl, Nat.le_of_ble_eq_true rfl⟩) (fun r_2 e_2 => ?_)
  subst e_2
  refine cs_top (y := cs_z (cs_M S v)) rfl ?_
  refine lv_istore (lv' := [(4, .int (cs_z (cs_M S v))), (0, .ref (bd 0)), (1, .int v), (2, .int a), (3, .int b)]) hx hb dX2_multiply_5 hl (by decide) rfl (fun ls hl => ?_)
  have j38 : W pg l e (headSpec wsX2_multiply ({ frames := 2, cells := 0, slots := 0, locals := 50 })).room s m [Value.ref (bd 0), Value.int v, Value.int a, Value.int b].toArray below meth c s.heap [] 0 0 (MQ below (cs_Qw D (cs_R S th bd cy) (fun (_ : Unit) => cs_R S (cs_kMul S v a b) bd cy) (fun rr _ => cs_kMul S v a b = 0 → rr = cs_vMul S v a b)) [Value.ref (bd 0), Value.int v, Value.int a, Value.int b].toArray s 0 0 (va_A (cs_R S th bd cy) s.heap.size)) (F0 m 38 ls [.int (cs_z (cs_M S v && cs_nS S v a && cs_nS S v b)), .int (cs_z (cs_M S v)), .ref (bd 0)]) := by
    have hF := cs_inW hD hS9 hA
    refine cs_wcalli (va_runV (As := [.int (cs_z (cs_M S v)), .int (cs_z (cs_M S v && cs_nS S v a && cs_nS S v b))]) (rest := []) ⟨hx, hb, hml, hown, hts⟩ (k_X2_asked_ l D S th bd cy s.heap.size (cs_M S v) (cs_M S v && cs_nS S v a && cs_nS S v b)) (cwV 2 hts gX2_multiply_X2_asked_ rfl rfl rfl (by decide +kernel) ⟨Nat.le_of_ble_eq_true rfl, Nat.le_of_ble_eq_true rfl⟩) ⟨cs_Bw.blind, va_recv hK hP (ci := 2) (q0 := 0) rfl rfl, cs_Bw.at hE hP hK hD⟩ rfl rfl hl.1 rfl (lv_room (Nat.le_of_ble_eq_true rfl)) dX2_multiply_38 ⟨Nat.le_of_ble_eq_true rfl, Nat.le_of_ble_eq_true rfl⟩) hS9 hF (fun r_38 u9 H locs hp hP hD1 hz hk1 hS9 => ?_)
    have hP : va_P D vwCl (cs_R S (cs_k2 (cs_M S v) (cs_M S v && cs_nS S v a && cs_nS S v b)) bd cy) H := hP
    have hD : va_D (va_A (cs_R S th bd cy) s.heap.size) (cs_R S (cs_k2 (cs_M S v) (cs_M S v && cs_nS S v a && cs_nS S v b)) bd cy) := hD1.weaken (fun k q _ h => hF q.1 h)
    subst hp
    refine cs_ifeq (tgt := 60) hx hb dX2_multiply_41 (by decide) (fun c_41 => ?_) (fun c_41 => ?_)
    · refine lv_iconst (v := 0) hx hb dX2_multiply_60 (by decide) ?_
      exact W.iret (v := 0) hx hb hr (fun t ht _ => ⟨0, (), rfl, fun z => absurd (cs_k2_0.mp z) (by rw [c_41]; decide), by rw [ht]; exact hP, by exact hD, hS9.F ht⟩) hS9.2.2 dX2_multiply_61
    · have hm := (cs_and c_41).1
      obtain ⟨k, hk, rfl⟩ := cs_mod_of hS hm
      have hk31 : k < 2 ^ 31 := by omega
      obtain ⟨hw1, hw2⟩ := hS.2.1 k hk
      refine lv_aload_n hx hb dX2_multiply_44 rfl (lv_at hl 1 rfl) ?_
      refine lv_iload_n hx hb dX2_multiply_45 rfl (lv_at hl 2 rfl) ?_
      refine lv_iload_n hx hb dX2_multiply_46 rfl (lv_at hl 3 rfl) ?_
      refine lv_iload_n hx hb dX2_multiply_47 rfl (lv_at hl 4 rfl) ?_
      refine lv_aload_n hx hb dX2_multiply_48 rfl (lv_at hl 1 rfl) ?_
      refine va_get (D := D) (ci := 2) (v := .ref (bd 1)) (C := RX2) (T := TX2) (N := 10) hx hb hts hinX2 hown hK hP 0 cs_R0 rfl 0 (by decide) (hts (.fieldLink RX2 7 "ChecksumLabModel" "width" "[I") (by decide +kernel)) (fun _ h9 => h9) rfl dX2_multiply_49 ?_
      refine lv_iload_n hx hb dX2_multiply_52 rfl (lv_at hl 2 rfl) ?_
      refine cs_iald hx hb hK hP 1 0 cs_R1 rfl (k := k) (by omega) (by decide) dX2_multiply_53 ?_
      refine vp_callSi (W.runV (As := [.int (nI k), .int a, .int b, .int (nI (cs_w S k))]) (rest := []) ⟨hx, hb, hml, hown, hts⟩ (k_X2_times l D S (cs_k2 (cs_M S (nI k)) (cs_M S (nI k) && cs_nS S (nI k) a && cs_nS S (nI k) b)) bd cy hS k hk a b (cs_w S k) hw2) (cwV 4 hts gX2_multiply_X2_times rfl rfl rfl (by decide +kernel) ⟨Nat.le_of_ble_eq_true rfl, Nat.le_of_ble_eq_true rfl⟩) ⟨cs_B.blind, va_recv hK hP (ci := 2) (q0 := 0) rfl rfl, cs_B.at hE hP hK⟩ rfl rfl hl.1 rfl (lv_room (Nat.le_of_ble_eq_true rfl)) dX2_multiply_54 ⟨Nat.le_of_ble_eq_true rfl, Nat.le_of_ble_eq_true rfl⟩) (fun r_54 e_54 => ?_)
      subst e_54
      refine lv_goto (tgt := 61) hx hb dX2_multiply_57 (by decide) ?_
      exact W.iret (v := cs_mul (cs_w S k) (cs_p S k) a b (cs_w S k)) hx hb hr (fun t ht _ => ⟨cs_mul (cs_w S k) (cs_p S k) a b (cs_w S k), (), rfl, fun _ => by unfold cs_vMul; rw [cs_cI hk31], by rw [ht]; exact hP, by exact hD, hS9.F ht⟩) hS9.2.2 dX2_multiply_61
  refine lv_aload_n hx hb dX2_multiply_7 rfl (lv_at hl 1 rfl) ?_
  refine lv_iload hx hb dX2_multiply_8 (lv_at hl 0 rfl) ?_
  refine lv_iload hx hb dX2_multiply_10 (lv_at hl 0 rfl) ?_
  refine cs_ifeq (tgt := 37) hx hb dX2_multiply_12 (by decide) (fun c_12 => ?_) (fun c_12 => ?_)
  · refine lv_iconst (v := 0) hx hb dX2_multiply_37 (by decide) ?_
    refine cs_top (y := cs_z (cs_M S v && cs_nS S v a && cs_nS S v b)) (by simp [cs_z, cs_nS, c_12]) ?_
    exact j38
  · obtain ⟨k, hk, rfl⟩ := cs_mod_of hS c_12
    have hk31 : k < 2 ^ 31 := by omega
    refine lv_aload_n hx hb dX2_multiply_15 rfl (lv_at hl 1 rfl) ?_
    refine lv_iload_n hx hb dX2_multiply_16 rfl (lv_at hl 2 rfl) ?_
    refine lv_iload_n hx hb dX2_multiply_17 rfl (lv_at hl 3 rfl) ?_
    refine vp_callSi (W.runV (As := [.int (nI k), .int a]) (rest := [.int (cs_z (cs_M S (nI k))), .ref (bd 0)]) ⟨hx, hb, hml, hown, hts⟩ (k_X2_isNumber l D S th bd cy hS k hk a) (cwV 2 hts gX2_multiply_X2_isNumber rfl rfl rfl (by decide +kernel) ⟨Nat.le_of_ble_eq_true rfl, Nat.le_of_ble_eq_true rfl⟩) ⟨cs_B.blind, va_recv hK hP (ci := 2) (q0 := 0) rfl rfl, cs_B.at hE hP hK⟩ rfl rfl hl.1 rfl (lv_room (Nat.le_of_ble_eq_true rfl)) dX2_multiply_18 ⟨Nat.le_of_ble_eq_true rfl, Nat.le_of_ble_eq_true rfl⟩) (fun r_18 e_18 => ?_)
    subst e_18
    refine cs_ifeq (tgt := 37) hx hb dX2_multiply_21 (by decide) (fun c_21 => ?_) (fun c_21 => ?_)
    · refine lv_iconst (v := 0) hx hb dX2_multiply_37 (by decide) ?_
      refine cs_top (y := cs_z (cs_M S (nI k) && cs_nS S (nI k) a && cs_nS S (nI k) b)) (by simp [cs_z, cs_nS, cs_cI hk31, c_12, c_21]) ?_
      exact j38
    · refine lv_aload_n hx hb dX2_multiply_24 rfl (lv_at hl 1 rfl) ?_
      refine lv_iload_n hx hb dX2_multiply_25 rfl (lv_at hl 2 rfl) ?_
      refine lv_iload_n hx hb dX2_multiply_26 rfl (lv_at hl 4 rfl) ?_
      refine vp_callSi (W.runV (As := [.int (nI k), .int b]) (rest := [.int (cs_z (cs_M S (nI k))), .ref (bd 0)]) ⟨hx, hb, hml, hown, hts⟩ (k_X2_isNumber l D S th bd cy hS k hk b) (cwV 2 hts gX2_multiply_X2_isNumber rfl rfl rfl (by decide +kernel) ⟨Nat.le_of_ble_eq_true rfl, Nat.le_of_ble_eq_true rfl⟩) ⟨cs_B.blind, va_recv hK hP (ci := 2) (q0 := 0) rfl rfl, cs_B.at hE hP hK⟩ rfl rfl hl.1 rfl (lv_room (Nat.le_of_ble_eq_true rfl)) dX2_multiply_27 ⟨Nat.le_of_ble_eq_true rfl, Nat.le_of_ble_eq_true rfl⟩) (fun r_27 e_27 => ?_)
      subst e_27
      refine cs_ifeq (tgt := 37) hx hb dX2_multiply_30 (by decide) (fun c_30 => ?_) (fun c_30 => ?_)
      · refine lv_iconst (v := 0) hx hb dX2_multiply_37 (by decide) ?_
        refine cs_top (y := cs_z (cs_M S (nI k) && cs_nS S (nI k) a && cs_nS S (nI k) b)) (by simp [cs_z, cs_nS, cs_cI hk31, c_12, c_21, c_30]) ?_
        exact j38
      · refine lv_iconst (v := 1) hx hb dX2_multiply_33 (by decide) ?_
        refine lv_goto (tgt := 38) hx hb dX2_multiply_34 (by decide) ?_
        refine cs_top (y := cs_z (cs_M S (nI k) && cs_nS S (nI k) a && cs_nS S (nI k) b)) (by simp [cs_z, cs_nS, cs_cI hk31, c_12, c_21, c_30]) ?_
        exact j38
set_option maxHeartbeats 4000000 in
set_option maxRecDepth 100000 in
theorem k_X2_power (l : Launch) (D : va_G) (S : cs_St) (th : Int32) (bd : Nat → Nat) (cy : Nat → ClassId) (sz : Nat) (hS : cs_ok S) (v : Int32) (x : Int64) : cs_Mw l yX2_power wsX2_power ({ frames := 3, cells := 0, slots := 0, locals := 75 }) D (cs_tys cy) (cs_R S th bd cy) sz [.ref (bd 0), .int v, .long x] (fun (_ : Unit) => cs_R S (cs_kPow S v x) bd cy) (fun rr _ => cs_kPow S v x = 0 → rr = cs_vPow S v x) := by
  refine Met.ofW (cc := cX2_power) (maxL := 4) (ret := (some .int)) (by decide) rfl ?_
  intro pg e s m args below meth c s₁ B hml hv
  obtain ⟨rfl, hsz, hE, hP, hK, hD0⟩ := hv
  subst hsz
  have hD := hD0.self (sz := s.heap.size)
  have hA : ∀ q : Nat, s.heap.size ≤ q → va_A (cs_R S th bd cy) s.heap.size q := fun q h => Or.inr h
  have hS9 : va_S (va_A (cs_R S th bd cy) s.heap.size) s.heap s.heap [] := va_S.rf
  have hx := B.exec
  have hb := B.bytes
  have hr := B.returns
  have hts := atoms_spec (ws := wsX2_power) B.pre
  have hown : s.vm.findClass RX2 = some m.cls := findClass_of_methodNamed B.named
  have hlocks := B.notSynchronized
  have hl := lv_entry ([.ref (bd 0), .int v, .long x]) (n := 4) (Nat.le_of_ble_eq_true rfl)
  rw [lg_entry_eq]
  generalize (lg_sl ([.ref (bd 0), .int v, .long x]) ++ List.replicate (4 - (lg_sl ([.ref (bd 0), .int v, .long x])).length) Slot.unset).toArray = ls at hl ⊢
  have hl : lv_has ls 4 [(0, .ref (bd 0)), (1, .int v), (2, .long x)] := hl
  have hinX2 : ∀ w ∈ wsX20, w ∈ wsX2_power := fun _ h => by unfold wsX2_power; exact List.mem_cons_of_mem _ (List.mem_append_right _ h)
  have h6 := hS.1
  refine lv_aload_n hx hb dX2_power_0 rfl (lv_at hl 0 rfl) ?_
  refine lv_aload_n hx hb dX2_power_1 rfl (lv_at hl 0 rfl) ?_
  refine lv_iload_n hx hb dX2_power_2 rfl (lv_at hl 1 rfl) ?_
  refine vp_callSi (W.runV (As := [.int v]) (rest := [.ref (bd 0)]) ⟨hx, hb, hml, hown, hts⟩ (k_X2_isModel l D S th bd cy  v) (cwV 1 hts gX2_power_X2_isModel rfl rfl rfl (by decide +kernel) ⟨Nat.le_of_ble_eq_true rfl, Nat.le_of_ble_eq_true rfl⟩) ⟨cs_B.blind, va_recv hK hP (ci := 2) (q0 := 0) rfl rfl, cs_B.at hE hP hK⟩ rfl rfl hl.1 rfl (lv_room (Nat.le_of_ble_eq_true rfl)) dX2_power_3 ⟨Nat.le_of_ble_eq_true rfl, Nat.le_of_ble_eq_true rfl⟩) (fun r_3 e_3 => ?_)
  subst e_3
  refine cs_top (y := cs_z (cs_M S v)) rfl ?_
  refine lv_lload_n hx hb dX2_power_6 rfl (lv_at hl 2 rfl) ?_
  refine lv_lconst (v := 0) hx hb dX2_power_7 (by decide) ?_
  refine W.lcmp hx hb dX2_power_8 ?_
  have j17 : W pg l e (headSpec wsX2_power ({ frames := 3, cells := 0, slots := 0, locals := 75 })).room s m [Value.ref (bd 0), Value.int v, Value.long x].toArray below meth c s.heap [] 0 0 (MQ below (cs_Qw D (cs_R S th bd cy) (fun (_ : Unit) => cs_R S (cs_kPow S v x) bd cy) (fun rr _ => cs_kPow S v x = 0 → rr = cs_vPow S v x)) [Value.ref (bd 0), Value.int v, Value.long x].toArray s 0 0 (va_A (cs_R S th bd cy) s.heap.size)) (F0 m 17 ls [.int (cs_z (decide (0 ≤ x))), .int (cs_z (cs_M S v)), .ref (bd 0)]) := by
    have hF := cs_inW hD hS9 hA
    refine cs_wcalli (va_runV (As := [.int (cs_z (cs_M S v)), .int (cs_z (decide (0 ≤ x)))]) (rest := []) ⟨hx, hb, hml, hown, hts⟩ (k_X2_asked_ l D S th bd cy s.heap.size (cs_M S v) (decide (0 ≤ x))) (cwV 2 hts gX2_power_X2_asked_ rfl rfl rfl (by decide +kernel) ⟨Nat.le_of_ble_eq_true rfl, Nat.le_of_ble_eq_true rfl⟩) ⟨cs_Bw.blind, va_recv hK hP (ci := 2) (q0 := 0) rfl rfl, cs_Bw.at hE hP hK hD⟩ rfl rfl hl.1 rfl (lv_room (Nat.le_of_ble_eq_true rfl)) dX2_power_17 ⟨Nat.le_of_ble_eq_true rfl, Nat.le_of_ble_eq_true rfl⟩) hS9 hF (fun r_17 u9 H locs hp hP hD1 hz hk1 hS9 => ?_)
    have hP : va_P D vwCl (cs_R S (cs_k2 (cs_M S v) (decide (0 ≤ x))) bd cy) H := hP
    have hD : va_D (va_A (cs_R S th bd cy) s.heap.size) (cs_R S (cs_k2 (cs_M S v) (decide (0 ≤ x))) bd cy) := hD1.weaken (fun k q _ h => hF q.1 h)
    subst hp
    refine cs_ifeq (tgt := 32) hx hb dX2_power_20 (by decide) (fun c_20 => ?_) (fun c_20 => ?_)
    · refine lv_iconst (v := 0) hx hb dX2_power_32 (by decide) ?_
      exact W.iret (v := 0) hx hb hr (fun t ht _ => ⟨0, (), rfl, fun z => absurd (cs_k2_0.mp z) (by rw [c_20]; decide), by rw [ht]; exact hP, by exact hD, hS9.F ht⟩) hS9.2.2 dX2_power_33
    · have hm := (cs_and c_20).1
      obtain ⟨k, hk, rfl⟩ := cs_mod_of hS hm
      have hk31 : k < 2 ^ 31 := by omega
      refine lv_aload_n hx hb dX2_power_23 rfl (lv_at hl 0 rfl) ?_
      refine lv_iload_n hx hb dX2_power_24 rfl (lv_at hl 1 rfl) ?_
      refine lv_lload_n hx hb dX2_power_25 rfl (lv_at hl 2 rfl) ?_
      refine vp_callSi (W.runV (As := [.int (nI k), .long x]) (rest := []) ⟨hx, hb, hml, hown, hts⟩ (k_X2_powerOf l D S (cs_k2 (cs_M S (nI k)) (decide (0 ≤ x))) bd cy hS k hk x) (cwV 2 hts gX2_power_X2_powerOf rfl rfl rfl (by decide +kernel) ⟨Nat.le_of_ble_eq_true rfl, Nat.le_of_ble_eq_true rfl⟩) ⟨cs_B.blind, va_recv hK hP (ci := 2) (q0 := 0) rfl rfl, cs_B.at hE hP hK⟩ rfl rfl hl.1 rfl (lv_room (Nat.le_of_ble_eq_true rfl)) dX2_power_26 ⟨Nat.le_of_ble_eq_true rfl, Nat.le_of_ble_eq_true rfl⟩) (fun r_26 e_26 => ?_)
      subst e_26
      refine lv_goto (tgt := 33) hx hb dX2_power_29 (by decide) ?_
      exact W.iret (v := cs_pow (cs_w S k) (cs_p S k) x) hx hb hr (fun t ht _ => ⟨cs_pow (cs_w S k) (cs_p S k) x, (), rfl, fun _ => by unfold cs_vPow; rw [cs_cI hk31], by rw [ht]; exact hP, by exact hD, hS9.F ht⟩) hS9.2.2 dX2_power_33
  refine lv_if_lt (tgt := 16) hx hb dX2_power_9 (by decide) (fun c_9 => ?_) (fun c_9 => ?_)
  · refine lv_iconst (v := 0) hx hb dX2_power_16 (by decide) ?_
    refine cs_top (y := cs_z (decide (0 ≤ x))) (by simp [cs_z, cs_nS, decide_eq_false (Int64.not_le.mpr ((lg_cmp_lt _ _).mp c_9))]) ?_
    exact j17
  · refine lv_iconst (v := 1) hx hb dX2_power_12 (by decide) ?_
    refine lv_goto (tgt := 17) hx hb dX2_power_13 (by decide) ?_
    refine cs_top (y := cs_z (decide (0 ≤ x))) (by simp [cs_z, cs_nS, decide_eq_true (Int64.not_lt.mp (fun z => c_9 ((lg_cmp_lt _ _).mpr z)))]) ?_
    exact j17
set_option maxHeartbeats 4000000 in
set_option maxRecDepth 100000 in
theorem k_X2_period (l : Launch) (D : va_G) (S : cs_St) (th : Int32) (bd : Nat → Nat) (cy : Nat → ClassId) (sz : Nat) (hS : cs_ok S) (v a : Int32) : cs_Mw l yX2_period wsX2_period ({ frames := 2, cells := 0, slots := 0, locals := 43 }) D (cs_tys cy) (cs_R S th bd cy) sz [.ref (bd 0), .int v, .int a] (fun (_ : Unit) => cs_R S (cs_kPer S v a) bd cy) (fun rr _ => cs_kPer S v a = 0 → rr = cs_vPer S v a) := by
  refine Met.ofW (cc := cX2_period) (maxL := 5) (ret := (some .int)) (by decide) rfl ?_
  intro pg e s m args below meth c s₁ B hml hv
  obtain ⟨rfl, hsz, hE, hP, hK, hD0⟩ := hv
  subst hsz
  have hD := hD0.self (sz := s.heap.size)
  have hA : ∀ q : Nat, s.heap.size ≤ q → va_A (cs_R S th bd cy) s.heap.size q := fun q h => Or.inr h
  have hS9 : va_S (va_A (cs_R S th bd cy) s.heap.size) s.heap s.heap [] := va_S.rf
  have hx := B.exec
  have hb := B.bytes
  have hr := B.returns
  have hts := atoms_spec (ws := wsX2_period) B.pre
  have hown : s.vm.findClass RX2 = some m.cls := findClass_of_methodNamed B.named
  have hlocks := B.notSynchronized
  have hl := lv_entry ([.ref (bd 0), .int v, .int a]) (n := 5) (Nat.le_of_ble_eq_true rfl)
  rw [lg_entry_eq]
  generalize (lg_sl ([.ref (bd 0), .int v, .int a]) ++ List.replicate (5 - (lg_sl ([.ref (bd 0), .int v, .int a])).length) Slot.unset).toArray = ls at hl ⊢
  have hl : lv_has ls 5 [(0, .ref (bd 0)), (1, .int v), (2, .int a)] := hl
  have hinX2 : ∀ w ∈ wsX20, w ∈ wsX2_period := fun _ h => by unfold wsX2_period; exact List.mem_cons_of_mem _ (List.mem_append_right _ h)
  have h6 := hS.1
  refine lv_aload_n hx hb dX2_period_0 rfl (lv_at hl 0 rfl) ?_
  refine lv_aload_n hx hb dX2_period_1 rfl (lv_at hl 0 rfl) ?_
  refine lv_iload_n hx hb dX2_period_2 rfl (lv_at hl 1 rfl) ?_
  refine vp_callSi (W.runV (As := [.int v]) (rest := [.ref (bd 0)]) ⟨hx, hb, hml, hown, hts⟩ (k_X2_isModel l D S th bd cy  v) (cwV 1 hts gX2_period_X2_isModel rfl rfl rfl (by decide +kernel) ⟨Nat.le_of_ble_eq_true rfl, Nat.le_of_ble_eq_true rfl⟩) ⟨cs_B.blind, va_recv hK hP (ci := 2) (q0 := 0) rfl rfl, cs_B.at hE hP hK⟩ rfl rfl hl.1 rfl (lv_room (Nat.le_of_ble_eq_true rfl)) dX2_period_3 ⟨Nat.le_of_ble_eq_true rfl, Nat.le_of_ble_eq_true rfl⟩) (fun r_3 e_3 => ?_)
  subst e_3
  refine cs_top (y := cs_z (cs_M S v)) rfl ?_
  refine lv_iload_n hx hb dX2_period_6 rfl (lv_at hl 2 rfl) ?_
  refine lv_iconst (v := 1) hx hb dX2_period_7 (by decide) ?_
  refine lv_ldc (v := 70000) hx hb hown (hts (.constant RX2 86 70000) (by decide +kernel)) dX2_period_8 ?_
  refine vp_callSi (W.runS (As := [.int a, .int 1, .int 70000]) (rest := [.int (cs_z (cs_M S v)), .ref (bd 0)]) ⟨hx, hb, hml, hown, hts⟩ (k_X2_in l D S th bd cy  a 1 70000) (va_cwS 3 hts gX2_period_X2_in rfl rfl rfl (by decide +kernel) ⟨Nat.le_of_ble_eq_true rfl, Nat.le_of_ble_eq_true rfl⟩) ⟨cs_B.blind, cs_B.at hE cs_none hK⟩ rfl rfl hl.1 rfl (lv_room (Nat.le_of_ble_eq_true rfl)) dX2_period_10 ⟨Nat.le_of_ble_eq_true rfl, Nat.le_of_ble_eq_true rfl⟩) (fun r_10 e_10 => ?_)
  subst e_10
  have hF := cs_inW hD hS9 hA
  refine cs_wcalli (va_runV (As := [.int (cs_z (cs_M S v)), .int (cs_z (cs_in a 1 70000))]) (rest := []) ⟨hx, hb, hml, hown, hts⟩ (k_X2_asked_ l D S th bd cy s.heap.size (cs_M S v) (cs_in a 1 70000)) (cwV 2 hts gX2_period_X2_asked_ rfl rfl rfl (by decide +kernel) ⟨Nat.le_of_ble_eq_true rfl, Nat.le_of_ble_eq_true rfl⟩) ⟨cs_Bw.blind, va_recv hK hP (ci := 2) (q0 := 0) rfl rfl, cs_Bw.at hE hP hK hD⟩ rfl rfl hl.1 rfl (lv_room (Nat.le_of_ble_eq_true rfl)) dX2_period_13 ⟨Nat.le_of_ble_eq_true rfl, Nat.le_of_ble_eq_true rfl⟩) hS9 hF (fun r_13 u9 H locs hp hP hD1 hz hk1 hS9 => ?_)
  have hP : va_P D vwCl (cs_R S (cs_k2 (cs_M S v) (cs_in a 1 70000)) bd cy) H := hP
  have hD : va_D (va_A (cs_R S th bd cy) s.heap.size) (cs_R S (cs_k2 (cs_M S v) (cs_in a 1 70000)) bd cy) := hD1.weaken (fun k q _ h => hF q.1 h)
  subst hp
  refine cs_ifne (tgt := 21) hx hb dX2_period_16 (by decide) (fun c_16 => ?_) (fun c_16 => ?_)
  · obtain ⟨hm, hl7⟩ := cs_and c_16
    obtain ⟨k, hk, rfl⟩ := cs_mod_of hS hm
    have hk31 : k < 2 ^ 31 := by omega
    obtain ⟨lim, hl1, hl2, rfl⟩ := cs_in1_of (n := 70000) (by decide) hl7
    have hV : cs_vPer S (nI k) (nI lim) = cs_pe (cs_w S k) (cs_p S k) lim 1 1 := by unfold cs_vPer; rw [cs_cI hk31, cs_cI (by omega)]
    refine lv_iconst (v := 1) hx hb dX2_period_21 (by decide) ?_
    refine lv_istore_n (lv' := [(3, .int 1), (0, .ref (bd 0)), (1, .int (nI k)), (2, .int (nI lim))]) hx hb dX2_period_22 rfl hl (by decide) rfl (fun ls hl => ?_)
    refine lv_iconst (v := 1) hx hb dX2_period_23 (by decide) ?_
    refine lv_istore (lv' := [(4, .int 1), (3, .int 1), (0, .ref (bd 0)), (1, .int (nI k)), (2, .int (nI lim))]) hx hb dX2_period_24 hl (by decide) rfl (fun ls hl => ?_)
    have loop : ∀ (n i : Nat) (t : Int32), i + n = lim + 1 → cs_vPer S (nI k) (nI lim) = cs_pe (cs_w S k) (cs_p S k) n i t → ∀ ls : Array Slot, lv_has ls 5 [(0, .ref (bd 0)), (1, .int (nI k)), (2, .int (nI lim)), (3, .int t), (4, .int (nI i))] → W pg l e (headSpec wsX2_period ({ frames := 2, cells := 0, slots := 0, locals := 43 })).room s m [Value.ref (bd 0), Value.int (nI k), Value.int (nI lim)].toArray below meth c H locs 0 0 (MQ below (cs_Qw D (cs_R S th bd cy) (fun (_ : Unit) => cs_R S (cs_kPer S (nI k) (nI lim)) bd cy) (fun rr _ => cs_kPer S (nI k) (nI lim) = 0 → rr = cs_vPer S (nI k) (nI lim))) [Value.ref (bd 0), Value.int (nI k), Value.int (nI lim)].toArray s 0 0 (va_A (cs_R S th bd cy) s.heap.size)) (F0 m 26 ls []) := by
      intro n
      induction n with
      | zero =>
        intro i t hi h0 ls hl
        refine lv_iload hx hb dX2_period_26 (lv_at hl 4 rfl) ?_
        refine lv_iload_n hx hb dX2_period_28 rfl (lv_at hl 2 rfl) ?_
        refine lv_icmp_gt (tgt := 53) hx hb dX2_period_29 (by decide) (fun c_29 => ?_) (fun c_29 => ?_)
        · refine lv_iconst (v := (-1)) hx hb dX2_period_53 (by decide) ?_
          exact W.iret (v := (-1)) hx hb hr (fun t ht _ => ⟨(-1), (), rfl, fun _ => h0.symm, by rw [ht]; exact hP, by exact hD, hS9.F ht⟩) hS9.2.2 dX2_period_54
        · exact absurd (nI_lt (a := lim) (b := i) (by omega) (by omega)) c_29
      | succ n ih =>
        intro i t hi h0 ls hl
        refine lv_iload hx hb dX2_period_26 (lv_at hl 4 rfl) ?_
        refine lv_iload_n hx hb dX2_period_28 rfl (lv_at hl 2 rfl) ?_
        refine lv_icmp_gt (tgt := 53) hx hb dX2_period_29 (by decide) (fun c_29 => ?_) (fun c_29 => ?_)
        · exact absurd c_29 (nI_nlt (a := lim) (b := i) (by omega) (by omega))
        · refine lv_aload_n hx hb dX2_period_32 rfl (lv_at hl 0 rfl) ?_
          refine lv_iload_n hx hb dX2_period_33 rfl (lv_at hl 1 rfl) ?_
          refine lv_iload_n hx hb dX2_period_34 rfl (lv_at hl 3 rfl) ?_
          refine vp_callSi (W.runV (As := [.int (nI k), .int t]) (rest := []) ⟨hx, hb, hml, hown, hts⟩ (k_X2_timesX l D S (cs_k2 (cs_M S (nI k)) (cs_in (nI lim) 1 70000)) bd cy hS k hk t) (cwV 2 hts gX2_period_X2_timesX rfl rfl rfl (by decide +kernel) ⟨Nat.le_of_ble_eq_true rfl, Nat.le_of_ble_eq_true rfl⟩) ⟨cs_B.blind, va_recv hK hP (ci := 2) (q0 := 0) rfl rfl, cs_B.at hE hP hK⟩ rfl rfl hl.1 rfl (lv_room (Nat.le_of_ble_eq_true rfl)) dX2_period_35 ⟨Nat.le_of_ble_eq_true rfl, Nat.le_of_ble_eq_true rfl⟩) (fun r_35 e_35 => ?_)
          subst e_35
          refine lv_istore_n (lv' := [(3, .int (cs_T (cs_w S k) (cs_p S k) t)), (0, .ref (bd 0)), (1, .int (nI k)), (2, .int (nI lim)), (4, .int (nI i))]) hx hb dX2_period_38 rfl hl (by decide) rfl (fun ls hl => ?_)
          refine lv_iload_n hx hb dX2_period_39 rfl (lv_at hl 0 rfl) ?_
          refine lv_iconst (v := 1) hx hb dX2_period_40 (by decide) ?_
          refine lv_icmp_ne (tgt := 47) hx hb dX2_period_41 (by decide) (fun c_41 => ?_) (fun c_41 => ?_)
          · refine lv_iinc (v := nI (i + 1)) (lv' := [(4, .int (nI (i + 1))), (3, .int (cs_T (cs_w S k) (cs_p S k) t)), (0, .ref (bd 0)), (1, .int (nI k)), (2, .int (nI lim))]) hx hb dX2_period_47 hl (k := 4) rfl (cs_inc1 i) (by decide) rfl (fun ls hl => ?_)
            refine lv_goto (tgt := 26) hx hb dX2_period_50 (by decide) ?_
            exact ih (i + 1) _ (by omega) (h0.trans (by rw [cs_pe, if_neg c_41])) ls (lv_sub hl [2, 3, 4, 1, 0] rfl)
          · refine lv_iload hx hb dX2_period_44 (lv_at hl 4 rfl) ?_
            exact W.iret (v := nI i) hx hb hr (fun t ht _ => ⟨nI i, (), rfl, fun _ => (h0.trans (by rw [cs_pe, if_pos c_41])).symm, by rw [ht]; exact hP, by exact hD, hS9.F ht⟩) hS9.2.2 dX2_period_46
    exact loop lim 1 1 (by omega) hV ls (lv_sub hl [2, 3, 4, 1, 0] rfl)
  · refine lv_iconst (v := 0) hx hb dX2_period_19 (by decide) ?_
    exact W.iret (v := 0) hx hb hr (fun t ht _ => ⟨0, (), rfl, fun z => absurd (cs_k2_0.mp z) (by rw [c_16]; decide), by rw [ht]; exact hP, by exact hD, hS9.F ht⟩) hS9.2.2 dX2_period_20
set_option maxHeartbeats 4000000 in
set_option maxRecDepth 100000 in
theorem k_X2_length (l : Launch) (D : va_G) (S : cs_St) (th : Int32) (bd : Nat → Nat) (cy : Nat → ClassId) (sz : Nat) (hS : cs_ok S) (v : Int32) : cs_Mw l yX2_length wsX2_length ({ frames := 2, cells := 0, slots := 0, locals := 42 }) D (cs_tys cy) (cs_R S th bd cy) sz [.ref (bd 0), .int v] (fun (_ : Unit) => cs_R S (cs_k1 (cs_in v 0 3)) bd cy) (fun rr _ => cs_k1 (cs_in v 0 3) = 0 → rr = nI (cs_ln S (cs_c v))) := by
  refine Met.ofW (cc := cX2_length) (maxL := 2) (ret := (some .int)) (by decide) rfl ?_
  intro pg e s m args below meth c s₁ B hml hv
  obtain ⟨rfl, hsz, hE, hP, hK, hD0⟩ := hv
  subst hsz
  have hD := hD0.self (sz := s.heap.size)
  have hA : ∀ q : Nat, s.heap.size ≤ q → va_A (cs_R S th bd cy) s.heap.size q := fun q h => Or.inr h
  have hS9 : va_S (va_A (cs_R S th bd cy) s.heap.size) s.heap s.heap [] := va_S.rf
  have hx := B.exec
  have hb := B.bytes
  have hr := B.returns
  have hts := atoms_spec (ws := wsX2_length) B.pre
  have hown : s.vm.findClass RX2 = some m.cls := findClass_of_methodNamed B.named
  have hlocks := B.notSynchronized
  have hl := lv_entry ([.ref (bd 0), .int v]) (n := 2) (Nat.le_of_ble_eq_true rfl)
  rw [lg_entry_eq]
  generalize (lg_sl ([.ref (bd 0), .int v]) ++ List.replicate (2 - (lg_sl ([.ref (bd 0), .int v])).length) Slot.unset).toArray = ls at hl ⊢
  have hl : lv_has ls 2 [(0, .ref (bd 0)), (1, .int v)] := hl
  have hinX2 : ∀ w ∈ wsX20, w ∈ wsX2_length := fun _ h => by unfold wsX2_length; exact List.mem_cons_of_mem _ (List.mem_append_right _ h)
  refine lv_aload_n hx hb dX2_length_0 rfl (lv_at hl 0 rfl) ?_
  refine lv_iload_n hx hb dX2_length_1 rfl (lv_at hl 1 rfl) ?_
  refine vp_callSi (W.runS (As := [.int v]) (rest := [.ref (bd 0)]) ⟨hx, hb, hml, hown, hts⟩ (k_X2_isRow l D S th bd cy  v) (va_cwS 1 hts gX2_length_X2_isRow rfl rfl rfl (by decide +kernel) ⟨Nat.le_of_ble_eq_true rfl, Nat.le_of_ble_eq_true rfl⟩) ⟨cs_B.blind, cs_B.at hE cs_none hK⟩ rfl rfl hl.1 rfl (lv_room (Nat.le_of_ble_eq_true rfl)) dX2_length_2 ⟨Nat.le_of_ble_eq_true rfl, Nat.le_of_ble_eq_true rfl⟩) (fun r_2 e_2 => ?_)
  subst e_2
  have hF := cs_inW hD hS9 hA
  refine cs_wcalli (va_runV (As := [.int (cs_z (cs_in v 0 3))]) (rest := []) ⟨hx, hb, hml, hown, hts⟩ (k_X2_asked l D S th bd cy s.heap.size (cs_in v 0 3)) (cwV 1 hts gX2_length_X2_asked rfl rfl rfl (by decide +kernel) ⟨Nat.le_of_ble_eq_true rfl, Nat.le_of_ble_eq_true rfl⟩) ⟨cs_Bw.blind, va_recv hK hP (ci := 2) (q0 := 0) rfl rfl, cs_Bw.at hE hP hK hD⟩ rfl rfl hl.1 rfl (lv_room (Nat.le_of_ble_eq_true rfl)) dX2_length_5 ⟨Nat.le_of_ble_eq_true rfl, Nat.le_of_ble_eq_true rfl⟩) hS9 hF (fun r_5 u9 H locs hp hP hD1 hz hk1 hS9 => ?_)
  have hP : va_P D vwCl (cs_R S (cs_k1 (cs_in v 0 3)) bd cy) H := hP
  have hD : va_D (va_A (cs_R S th bd cy) s.heap.size) (cs_R S (cs_k1 (cs_in v 0 3)) bd cy) := hD1.weaken (fun k q _ h => hF q.1 h)
  subst hp
  refine cs_ifeq (tgt := 20) hx hb dX2_length_8 (by decide) (fun c_8 => ?_) (fun c_8 => ?_)
  · refine lv_iconst (v := 0) hx hb dX2_length_20 (by decide) ?_
    exact W.iret (v := 0) hx hb hr (fun t ht _ => ⟨0, (), rfl, fun z => absurd (cs_k1_0.mp z) (by rw [c_8]; decide), by rw [ht]; exact hP, by exact hD, hS9.F ht⟩) hS9.2.2 dX2_length_21
  · obtain ⟨r, hr4, rfl⟩ := cs_row_of c_8
    have r31 : r < 2 ^ 31 := by omega
    refine lv_aload_n hx hb dX2_length_11 rfl (lv_at hl 0 rfl) ?_
    refine va_get (D := D) (ci := 2) (v := .ref (bd 8)) (C := RX2) (T := TX2) (N := 10) hx hb hts hinX2 hown hK hP 0 cs_R0 rfl 8 (by decide) (hts (.fieldLink RX2 32 "ChecksumLabModel" "length" "[I") (by decide +kernel)) (fun _ h9 => h9) rfl dX2_length_12 ?_
    refine lv_iload_n hx hb dX2_length_15 rfl (lv_at hl 1 rfl) ?_
    refine cs_iald hx hb hK hP 8 0 cs_R8 rfl (k := r) (hr4) (by decide) dX2_length_16 ?_
    refine lv_goto (tgt := 21) hx hb dX2_length_17 (by decide) ?_
    exact W.iret (v := nI (cs_ln S r)) hx hb hr (fun t ht _ => ⟨nI (cs_ln S r), (), rfl, fun _ => by rw [cs_cI r31], by rw [ht]; exact hP, by exact hD, hS9.F ht⟩) hS9.2.2 dX2_length_21
set_option maxHeartbeats 4000000 in
set_option maxRecDepth 100000 in
theorem k_X2_byteAt (l : Launch) (D : va_G) (S : cs_St) (th : Int32) (bd : Nat → Nat) (cy : Nat → ClassId) (sz : Nat) (hS : cs_ok S) (v u : Int32) : cs_Mw l yX2_byteAt wsX2_byteAt ({ frames := 3, cells := 0, slots := 0, locals := 64 }) D (cs_tys cy) (cs_R S th bd cy) sz [.ref (bd 0), .int v, .int u] (fun (_ : Unit) => cs_R S (cs_k1 (cs_pl S v u)) bd cy) (fun rr _ => cs_k1 (cs_pl S v u) = 0 → rr = cs_vByt S v u) := by
  refine Met.ofW (cc := cX2_byteAt) (maxL := 3) (ret := (some .int)) (by decide) rfl ?_
  intro pg e s m args below meth c s₁ B hml hv
  obtain ⟨rfl, hsz, hE, hP, hK, hD0⟩ := hv
  subst hsz
  have hD := hD0.self (sz := s.heap.size)
  have hA : ∀ q : Nat, s.heap.size ≤ q → va_A (cs_R S th bd cy) s.heap.size q := fun q h => Or.inr h
  have hS9 : va_S (va_A (cs_R S th bd cy) s.heap.size) s.heap s.heap [] := va_S.rf
  have hx := B.exec
  have hb := B.bytes
  have hr := B.returns
  have hts := atoms_spec (ws := wsX2_byteAt) B.pre
  have hown : s.vm.findClass RX2 = some m.cls := findClass_of_methodNamed B.named
  have hlocks := B.notSynchronized
  have hl := lv_entry ([.ref (bd 0), .int v, .int u]) (n := 3) (Nat.le_of_ble_eq_true rfl)
  rw [lg_entry_eq]
  generalize (lg_sl ([.ref (bd 0), .int v, .int u]) ++ List.replicate (3 - (lg_sl ([.ref (bd 0), .int v, .int u])).length) Slot.unset).toArray = ls at hl ⊢
  have hl : lv_has ls 3 [(0, .ref (bd 0)), (1, .int v), (2, .int u)] := hl
  have hinX2 : ∀ w ∈ wsX20, w ∈ wsX2_byteAt := fun _ h => by unfold wsX2_byteAt; exact List.mem_cons_of_mem _ (List.mem_append_right _ h)
  refine lv_aload_n hx hb dX2_byteAt_0 rfl (lv_at hl 0 rfl) ?_
  refine lv_aload_n hx hb dX2_byteAt_1 rfl (lv_at hl 0 rfl) ?_
  refine lv_iload_n hx hb dX2_byteAt_2 rfl (lv_at hl 1 rfl) ?_
  refine lv_iload_n hx hb dX2_byteAt_3 rfl (lv_at hl 2 rfl) ?_
  refine vp_callSi (W.runV (As := [.int v, .int u]) (rest := [.ref (bd 0)]) ⟨hx, hb, hml, hown, hts⟩ (k_X2_isPlace l D S th bd cy  v u) (cwV 2 hts gX2_byteAt_X2_isPlace rfl rfl rfl (by decide +kernel) ⟨Nat.le_of_ble_eq_true rfl, Nat.le_of_ble_eq_true rfl⟩) ⟨cs_B.blind, va_recv hK hP (ci := 2) (q0 := 0) rfl rfl, cs_B.at hE hP hK⟩ rfl rfl hl.1 rfl (lv_room (Nat.le_of_ble_eq_true rfl)) dX2_byteAt_4 ⟨Nat.le_of_ble_eq_true rfl, Nat.le_of_ble_eq_true rfl⟩) (fun r_4 e_4 => ?_)
  subst e_4
  have hF := cs_inW hD hS9 hA
  refine cs_wcalli (va_runV (As := [.int (cs_z (cs_pl S v u))]) (rest := []) ⟨hx, hb, hml, hown, hts⟩ (k_X2_asked l D S th bd cy s.heap.size (cs_pl S v u)) (cwV 1 hts gX2_byteAt_X2_asked rfl rfl rfl (by decide +kernel) ⟨Nat.le_of_ble_eq_true rfl, Nat.le_of_ble_eq_true rfl⟩) ⟨cs_Bw.blind, va_recv hK hP (ci := 2) (q0 := 0) rfl rfl, cs_Bw.at hE hP hK hD⟩ rfl rfl hl.1 rfl (lv_room (Nat.le_of_ble_eq_true rfl)) dX2_byteAt_7 ⟨Nat.le_of_ble_eq_true rfl, Nat.le_of_ble_eq_true rfl⟩) hS9 hF (fun r_7 u9 H locs hp hP hD1 hz hk1 hS9 => ?_)
  have hP : va_P D vwCl (cs_R S (cs_k1 (cs_pl S v u)) bd cy) H := hP
  have hD : va_D (va_A (cs_R S th bd cy) s.heap.size) (cs_R S (cs_k1 (cs_pl S v u)) bd cy) := hD1.weaken (fun k q _ h => hF q.1 h)
  subst hp
  refine cs_ifeq (tgt := 28) hx hb dX2_byteAt_10 (by decide) (fun c_10 => ?_) (fun c_10 => ?_)
  · refine lv_iconst (v := 0) hx hb dX2_byteAt_28 (by decide) ?_
    exact W.iret (v := 0) hx hb hr (fun t ht _ => ⟨0, (), rfl, fun z => absurd (cs_k1_0.mp z) (by rw [c_10]; decide), by rw [ht]; exact hP, by exact hD, hS9.F ht⟩) hS9.2.2 dX2_byteAt_29
  · obtain ⟨r, j, hr4, hj, rfl, rfl⟩ := cs_pl_of hS c_10
    have r31 : r < 2 ^ 31 := by omega
    have hl8 := hS.2.2.1 r
    have j31 : j < 2 ^ 31 := by omega
    refine lv_aload_n hx hb dX2_byteAt_13 rfl (lv_at hl 0 rfl) ?_
    refine va_get (D := D) (ci := 2) (v := .ref (bd 7)) (C := RX2) (T := TX2) (N := 10) hx hb hts hinX2 hown hK hP 0 cs_R0 rfl 7 (by decide) (hts (.fieldLink RX2 29 "ChecksumLabModel" "bytes" "[I") (by decide +kernel)) (fun _ h9 => h9) rfl dX2_byteAt_14 ?_
    refine lv_sipush (v := 256) hx hb dX2_byteAt_17 (by decide) ?_
    refine lv_iload_n hx hb dX2_byteAt_20 rfl (lv_at hl 1 rfl) ?_
    refine lv_imul hx hb dX2_byteAt_21 ?_
    refine lv_iload_n hx hb dX2_byteAt_22 rfl (lv_at hl 2 rfl) ?_
    refine lv_iadd hx hb dX2_byteAt_23 ?_
    refine cs_top (y := nI (256 * r + j)) (cs_256 r j) ?_
    refine cs_iald hx hb hK hP 7 0 cs_R7 rfl (k := 256 * r + j) (by omega) (by decide) dX2_byteAt_24 ?_
    refine cs_top (y := nI (cs_by S r j)) (congrArg nI (cs_byE (by omega))) ?_
    refine lv_goto (tgt := 29) hx hb dX2_byteAt_25 (by decide) ?_
    exact W.iret (v := nI (cs_by S r j)) hx hb hr (fun t ht _ => ⟨nI (cs_by S r j), (), rfl, fun _ => by unfold cs_vByt; rw [cs_cI r31, cs_cI j31], by rw [ht]; exact hP, by exact hD, hS9.F ht⟩) hS9.2.2 dX2_byteAt_29
set_option maxHeartbeats 4000000 in
set_option maxRecDepth 100000 in
theorem k_X2_sum (l : Launch) (D : va_G) (S : cs_St) (th : Int32) (bd : Nat → Nat) (cy : Nat → ClassId) (sz : Nat) (hS : cs_ok S) (v u : Int32) : cs_Mw l yX2_sum wsX2_sum ({ frames := 3, cells := 0, slots := 0, locals := 76 }) D (cs_tys cy) (cs_R S th bd cy) sz [.ref (bd 0), .int v, .int u] (fun (_ : Unit) => cs_R S (cs_k1 (cs_M S v && cs_in u 0 3)) bd cy) (fun rr _ => cs_k1 (cs_M S v && cs_in u 0 3) = 0 → rr = cs_vSum S v u) := by
  refine Met.ofW (cc := cX2_sum) (maxL := 3) (ret := (some .int)) (by decide) rfl ?_
  intro pg e s m args below meth c s₁ B hml hv
  obtain ⟨rfl, hsz, hE, hP, hK, hD0⟩ := hv
  subst hsz
  have hD := hD0.self (sz := s.heap.size)
  have hA : ∀ q : Nat, s.heap.size ≤ q → va_A (cs_R S th bd cy) s.heap.size q := fun q h => Or.inr h
  have hS9 : va_S (va_A (cs_R S th bd cy) s.heap.size) s.heap s.heap [] := va_S.rf
  have hx := B.exec
  have hb := B.bytes
  have hr := B.returns
  have hts := atoms_spec (ws := wsX2_sum) B.pre
  have hown : s.vm.findClass RX2 = some m.cls := findClass_of_methodNamed B.named
  have hlocks := B.notSynchronized
  have hl := lv_entry ([.ref (bd 0), .int v, .int u]) (n := 3) (Nat.le_of_ble_eq_true rfl)
  rw [lg_entry_eq]
  generalize (lg_sl ([.ref (bd 0), .int v, .int u]) ++ List.replicate (3 - (lg_sl ([.ref (bd 0), .int v, .int u])).length) Slot.unset).toArray = ls at hl ⊢
  have hl : lv_has ls 3 [(0, .ref (bd 0)), (1, .int v), (2, .int u)] := hl
  have hinX2 : ∀ w ∈ wsX20, w ∈ wsX2_sum := fun _ h => by unfold wsX2_sum; exact List.mem_cons_of_mem _ (List.mem_append_right _ h)
  have h6 := hS.1
  refine lv_aload_n hx hb dX2_sum_0 rfl (lv_at hl 0 rfl) ?_
  refine lv_aload_n hx hb dX2_sum_1 rfl (lv_at hl 0 rfl) ?_
  refine lv_iload_n hx hb dX2_sum_2 rfl (lv_at hl 1 rfl) ?_
  refine vp_callSi (W.runV (As := [.int v]) (rest := [.ref (bd 0)]) ⟨hx, hb, hml, hown, hts⟩ (k_X2_isModel l D S th bd cy  v) (cwV 1 hts gX2_sum_X2_isModel rfl rfl rfl (by decide +kernel) ⟨Nat.le_of_ble_eq_true rfl, Nat.le_of_ble_eq_true rfl⟩) ⟨cs_B.blind, va_recv hK hP (ci := 2) (q0 := 0) rfl rfl, cs_B.at hE hP hK⟩ rfl rfl hl.1 rfl (lv_room (Nat.le_of_ble_eq_true rfl)) dX2_sum_3 ⟨Nat.le_of_ble_eq_true rfl, Nat.le_of_ble_eq_true rfl⟩) (fun r_3 e_3 => ?_)
  subst e_3
  refine cs_top (y := cs_z (cs_M S v)) rfl ?_
  have j21 : W pg l e (headSpec wsX2_sum ({ frames := 3, cells := 0, slots := 0, locals := 76 })).room s m [Value.ref (bd 0), Value.int v, Value.int u].toArray below meth c s.heap [] 0 0 (MQ below (cs_Qw D (cs_R S th bd cy) (fun (_ : Unit) => cs_R S (cs_k1 (cs_M S v && cs_in u 0 3)) bd cy) (fun rr _ => cs_k1 (cs_M S v && cs_in u 0 3) = 0 → rr = cs_vSum S v u)) [Value.ref (bd 0), Value.int v, Value.int u].toArray s 0 0 (va_A (cs_R S th bd cy) s.heap.size)) (F0 m 21 ls [.int (cs_z (cs_M S v && cs_in u 0 3)), .ref (bd 0)]) := by
    have hF := cs_inW hD hS9 hA
    refine cs_wcalli (va_runV (As := [.int (cs_z (cs_M S v && cs_in u 0 3))]) (rest := []) ⟨hx, hb, hml, hown, hts⟩ (k_X2_asked l D S th bd cy s.heap.size (cs_M S v && cs_in u 0 3)) (cwV 1 hts gX2_sum_X2_asked rfl rfl rfl (by decide +kernel) ⟨Nat.le_of_ble_eq_true rfl, Nat.le_of_ble_eq_true rfl⟩) ⟨cs_Bw.blind, va_recv hK hP (ci := 2) (q0 := 0) rfl rfl, cs_Bw.at hE hP hK hD⟩ rfl rfl hl.1 rfl (lv_room (Nat.le_of_ble_eq_true rfl)) dX2_sum_21 ⟨Nat.le_of_ble_eq_true rfl, Nat.le_of_ble_eq_true rfl⟩) hS9 hF (fun r_21 u9 H locs hp hP hD1 hz hk1 hS9 => ?_)
    have hP : va_P D vwCl (cs_R S (cs_k1 (cs_M S v && cs_in u 0 3)) bd cy) H := hP
    have hD : va_D (va_A (cs_R S th bd cy) s.heap.size) (cs_R S (cs_k1 (cs_M S v && cs_in u 0 3)) bd cy) := hD1.weaken (fun k q _ h => hF q.1 h)
    subst hp
    refine cs_ifeq (tgt := 43) hx hb dX2_sum_24 (by decide) (fun c_24 => ?_) (fun c_24 => ?_)
    · refine lv_iconst (v := 0) hx hb dX2_sum_43 (by decide) ?_
      exact W.iret (v := 0) hx hb hr (fun t ht _ => ⟨0, (), rfl, fun z => absurd (cs_k1_0.mp z) (by rw [c_24]; decide), by rw [ht]; exact hP, by exact hD, hS9.F ht⟩) hS9.2.2 dX2_sum_44
    · obtain ⟨hm, hrw⟩ := cs_and c_24
      obtain ⟨k, hk, rfl⟩ := cs_mod_of hS hm
      have hk31 : k < 2 ^ 31 := by omega
      obtain ⟨r, hr4, rfl⟩ := cs_row_of hrw
      have r31 : r < 2 ^ 31 := by omega
      have hl8 := hS.2.2.1 r
      refine lv_aload_n hx hb dX2_sum_27 rfl (lv_at hl 0 rfl) ?_
      refine lv_iload_n hx hb dX2_sum_28 rfl (lv_at hl 1 rfl) ?_
      refine lv_iload_n hx hb dX2_sum_29 rfl (lv_at hl 2 rfl) ?_
      refine lv_iconst (v := 0) hx hb dX2_sum_30 (by decide) ?_
      refine lv_aload_n hx hb dX2_sum_31 rfl (lv_at hl 0 rfl) ?_
      refine va_get (D := D) (ci := 2) (v := .ref (bd 8)) (C := RX2) (T := TX2) (N := 10) hx hb hts hinX2 hown hK hP 0 cs_R0 rfl 8 (by decide) (hts (.fieldLink RX2 32 "ChecksumLabModel" "length" "[I") (by decide +kernel)) (fun _ h9 => h9) rfl dX2_sum_32 ?_
      refine lv_iload_n hx hb dX2_sum_35 rfl (lv_at hl 2 rfl) ?_
      refine cs_iald hx hb hK hP 8 0 cs_R8 rfl (k := r) (hr4) (by decide) dX2_sum_36 ?_
      refine cs_top (y := nI (cs_ln S r)) rfl ?_
      refine vp_callSi (W.runV (As := [.int (nI k), .int (nI r), .int 0, .int (nI (cs_ln S r))]) (rest := []) ⟨hx, hb, hml, hown, hts⟩ (k_X2_part l D S (cs_k1 (cs_M S (nI k) && cs_in (nI r) 0 3)) bd cy hS k hk r 0 (cs_ln S r) hr4 (Nat.zero_le _) hl8) (cwV 4 hts gX2_sum_X2_part rfl rfl rfl (by decide +kernel) ⟨Nat.le_of_ble_eq_true rfl, Nat.le_of_ble_eq_true rfl⟩) ⟨cs_B.blind, va_recv hK hP (ci := 2) (q0 := 0) rfl rfl, cs_B.at hE hP hK⟩ rfl rfl hl.1 rfl (lv_room (Nat.le_of_ble_eq_true rfl)) dX2_sum_37 ⟨Nat.le_of_ble_eq_true rfl, Nat.le_of_ble_eq_true rfl⟩) (fun r_37 e_37 => ?_)
      subst e_37
      refine lv_goto (tgt := 44) hx hb dX2_sum_40 (by decide) ?_
      exact W.iret (v := cs_so (cs_ro S k) (cs_w S k) (cs_ps (cs_w S k) (cs_p S k) (cs_ri S k) (cs_i S k) (cs_by S r) 0 (cs_ln S r - 0)) ^^^ cs_x S k) hx hb hr (fun t ht _ => ⟨cs_so (cs_ro S k) (cs_w S k) (cs_ps (cs_w S k) (cs_p S k) (cs_ri S k) (cs_i S k) (cs_by S r) 0 (cs_ln S r - 0)) ^^^ cs_x S k, (), rfl, fun _ => by unfold cs_vSum cs_psS; rw [cs_cI hk31, cs_cI r31, Nat.sub_zero], by rw [ht]; exact hP, by exact hD, hS9.F ht⟩) hS9.2.2 dX2_sum_44
  refine cs_ifeq (tgt := 20) hx hb dX2_sum_6 (by decide) (fun c_6 => ?_) (fun c_6 => ?_)
  · refine lv_iconst (v := 0) hx hb dX2_sum_20 (by decide) ?_
    refine cs_top (y := cs_z (cs_M S v && cs_in u 0 3)) (by simp [cs_z, cs_nS, c_6]) ?_
    exact j21
  · refine lv_iload_n hx hb dX2_sum_9 rfl (lv_at hl 2 rfl) ?_
    refine vp_callSi (W.runS (As := [.int u]) (rest := [.ref (bd 0)]) ⟨hx, hb, hml, hown, hts⟩ (k_X2_isRow l D S th bd cy  u) (va_cwS 1 hts gX2_sum_X2_isRow rfl rfl rfl (by decide +kernel) ⟨Nat.le_of_ble_eq_true rfl, Nat.le_of_ble_eq_true rfl⟩) ⟨cs_B.blind, cs_B.at hE cs_none hK⟩ rfl rfl hl.1 rfl (lv_room (Nat.le_of_ble_eq_true rfl)) dX2_sum_10 ⟨Nat.le_of_ble_eq_true rfl, Nat.le_of_ble_eq_true rfl⟩) (fun r_10 e_10 => ?_)
    subst e_10
    refine cs_ifeq (tgt := 20) hx hb dX2_sum_13 (by decide) (fun c_13 => ?_) (fun c_13 => ?_)
    · refine lv_iconst (v := 0) hx hb dX2_sum_20 (by decide) ?_
      refine cs_top (y := cs_z (cs_M S v && cs_in u 0 3)) (by simp [cs_z, cs_nS, c_6, c_13]) ?_
      exact j21
    · refine lv_iconst (v := 1) hx hb dX2_sum_16 (by decide) ?_
      refine lv_goto (tgt := 21) hx hb dX2_sum_17 (by decide) ?_
      refine cs_top (y := cs_z (cs_M S v && cs_in u 0 3)) (by simp [cs_z, cs_nS, c_6, c_13]) ?_
      exact j21
set_option maxHeartbeats 4000000 in
set_option maxRecDepth 100000 in
theorem k_X2_sumOfPart (l : Launch) (D : va_G) (S : cs_St) (th : Int32) (bd : Nat → Nat) (cy : Nat → ClassId) (sz : Nat) (hS : cs_ok S) (v u a b : Int32) : cs_Mw l yX2_sumOfPart wsX2_sumOfPart ({ frames := 3, cells := 0, slots := 0, locals := 76 }) D (cs_tys cy) (cs_R S th bd cy) sz [.ref (bd 0), .int v, .int u, .int a, .int b] (fun (_ : Unit) => cs_R S (cs_kPar S v u a b) bd cy) (fun rr _ => cs_kPar S v u a b = 0 → rr = cs_vPar S v u a b) := by
  refine Met.ofW (cc := cX2_sumOfPart) (maxL := 6) (ret := (some .int)) (by decide) rfl ?_
  intro pg e s m args below meth c s₁ B hml hv
  obtain ⟨rfl, hsz, hE, hP, hK, hD0⟩ := hv
  subst hsz
  have hD := hD0.self (sz := s.heap.size)
  have hA : ∀ q : Nat, s.heap.size ≤ q → va_A (cs_R S th bd cy) s.heap.size q := fun q h => Or.inr h
  have hS9 : va_S (va_A (cs_R S th bd cy) s.heap.size) s.heap s.heap [] := va_S.rf
  have hx := B.exec
  have hb := B.bytes
  have hr := B.returns
  have hts := atoms_spec (ws := wsX2_sumOfPart) B.pre
  have hown : s.vm.findClass RX2 = some m.cls := findClass_of_methodNamed B.named
  have hlocks := B.notSynchronized
  have hl := lv_entry ([.ref (bd 0), .int v, .int u, .int a, .int b]) (n := 6) (Nat.le_of_ble_eq_true rfl)
  rw [lg_entry_eq]
  generalize (lg_sl ([.ref (bd 0), .int v, .int u, .int a, .int b]) ++ List.replicate (6 - (lg_sl ([.ref (bd 0), .int v, .int u, .int a, .int b])).length) Slot.unset).toArray = ls at hl ⊢
  have hl : lv_has ls 6 [(0, .ref (bd 0)), (1, .int v), (2, .int u), (3, .int a), (4, .int b)] := hl
  have hinX2 : ∀ w ∈ wsX20, w ∈ wsX2_sumOfPart := fun _ h => by unfold wsX2_sumOfPart; exact List.mem_cons_of_mem _ (List.mem_append_right _ h)
  have h6 := hS.1
  refine lv_aload_n hx hb dX2_sumOfPart_0 rfl (lv_at hl 0 rfl) ?_
  refine lv_iload_n hx hb dX2_sumOfPart_1 rfl (lv_at hl 1 rfl) ?_
  refine vp_callSi (W.runV (As := [.int v]) (rest := []) ⟨hx, hb, hml, hown, hts⟩ (k_X2_isModel l D S th bd cy  v) (cwV 1 hts gX2_sumOfPart_X2_isModel rfl rfl rfl (by decide +kernel) ⟨Nat.le_of_ble_eq_true rfl, Nat.le_of_ble_eq_true rfl⟩) ⟨cs_B.blind, va_recv hK hP (ci := 2) (q0 := 0) rfl rfl, cs_B.at hE hP hK⟩ rfl rfl hl.1 rfl (lv_room (Nat.le_of_ble_eq_true rfl)) dX2_sumOfPart_2 ⟨Nat.le_of_ble_eq_true rfl, Nat.le_of_ble_eq_true rfl⟩) (fun r_2 e_2 => ?_)
  subst e_2
  refine cs_top (y := cs_z (cs_M S v)) rfl ?_
  have j49 : W pg l e (headSpec wsX2_sumOfPart ({ frames := 3, cells := 0, slots := 0, locals := 76 })).room s m [Value.ref (bd 0), Value.int v, Value.int u, Value.int a, Value.int b].toArray below meth c s.heap [] 0 0 (MQ below (cs_Qw D (cs_R S th bd cy) (fun (_ : Unit) => cs_R S (cs_kPar S v u a b) bd cy) (fun rr _ => cs_kPar S v u a b = 0 → rr = cs_vPar S v u a b)) [Value.ref (bd 0), Value.int v, Value.int u, Value.int a, Value.int b].toArray s 0 0 (va_A (cs_R S th bd cy) s.heap.size)) (F0 m 49 ls [.int (cs_z (cs_M S v && cs_in u 0 3 && cs_in a 0 (nI (cs_ln S (cs_c u))) && cs_in b a (nI (cs_ln S (cs_c u)))))]) := by
    refine lv_istore (lv' := [(5, .int (cs_z (cs_M S v && cs_in u 0 3 && cs_in a 0 (nI (cs_ln S (cs_c u))) && cs_in b a (nI (cs_ln S (cs_c u)))))), (0, .ref (bd 0)), (1, .int v), (2, .int u), (3, .int a), (4, .int b)]) hx hb dX2_sumOfPart_49 hl (by decide) rfl (fun ls hl => ?_)
    refine lv_aload_n hx hb dX2_sumOfPart_51 rfl (lv_at hl 1 rfl) ?_
    refine lv_iload hx hb dX2_sumOfPart_52 (lv_at hl 0 rfl) ?_
    have hF := cs_inW hD hS9 hA
    refine cs_wcalli (va_runV (As := [.int (cs_z (cs_M S v && cs_in u 0 3 && cs_in a 0 (nI (cs_ln S (cs_c u))) && cs_in b a (nI (cs_ln S (cs_c u)))))]) (rest := []) ⟨hx, hb, hml, hown, hts⟩ (k_X2_asked l D S th bd cy s.heap.size (cs_M S v && cs_in u 0 3 && cs_in a 0 (nI (cs_ln S (cs_c u))) && cs_in b a (nI (cs_ln S (cs_c u))))) (cwV 1 hts gX2_sumOfPart_X2_asked rfl rfl rfl (by decide +kernel) ⟨Nat.le_of_ble_eq_true rfl, Nat.le_of_ble_eq_true rfl⟩) ⟨cs_Bw.blind, va_recv hK hP (ci := 2) (q0 := 0) rfl rfl, cs_Bw.at hE hP hK hD⟩ rfl rfl hl.1 rfl (lv_room (Nat.le_of_ble_eq_true rfl)) dX2_sumOfPart_54 ⟨Nat.le_of_ble_eq_true rfl, Nat.le_of_ble_eq_true rfl⟩) hS9 hF (fun r_54 u9 H locs hp hP hD1 hz hk1 hS9 => ?_)
    have hP : va_P D vwCl (cs_R S (cs_k1 (cs_M S v && cs_in u 0 3 && cs_in a 0 (nI (cs_ln S (cs_c u))) && cs_in b a (nI (cs_ln S (cs_c u))))) bd cy) H := hP
    have hD : va_D (va_A (cs_R S th bd cy) s.heap.size) (cs_R S (cs_k1 (cs_M S v && cs_in u 0 3 && cs_in a 0 (nI (cs_ln S (cs_c u))) && cs_in b a (nI (cs_ln S (cs_c u))))) bd cy) := hD1.weaken (fun k q _ h => hF q.1 h)
    subst hp
    refine cs_ifeq (tgt := 72) hx hb dX2_sumOfPart_57 (by decide) (fun c_57 => ?_) (fun c_57 => ?_)
    · refine lv_iconst (v := 0) hx hb dX2_sumOfPart_72 (by decide) ?_
      exact W.iret (v := 0) hx hb hr (fun t ht _ => ⟨0, (), rfl, fun z => absurd (cs_k1_0.mp z) (by rw [c_57]; decide), by rw [ht]; exact hP, by exact hD, hS9.F ht⟩) hS9.2.2 dX2_sumOfPart_73
    · obtain ⟨hm1, hb9⟩ := cs_and c_57
      obtain ⟨hm2, ha9⟩ := cs_and hm1
      obtain ⟨hm, hrw⟩ := cs_and hm2
      obtain ⟨k, hk, rfl⟩ := cs_mod_of hS hm
      have hk31 : k < 2 ^ 31 := by omega
      obtain ⟨r, hr4, rfl⟩ := cs_row_of hrw
      have r31 : r < 2 ^ 31 := by omega
      have hl8 := hS.2.2.1 r
      rw [cs_cI r31] at ha9 hb9
      obtain ⟨a0, ha0, rfl⟩ := cs_in_of (by omega) ha9
      obtain ⟨b0, hb0, hb1, rfl⟩ := cs_in2_of (by omega) (by omega) hb9
      refine lv_aload_n hx hb dX2_sumOfPart_60 rfl (lv_at hl 1 rfl) ?_
      refine lv_iload_n hx hb dX2_sumOfPart_61 rfl (lv_at hl 2 rfl) ?_
      refine lv_iload_n hx hb dX2_sumOfPart_62 rfl (lv_at hl 3 rfl) ?_
      refine lv_iload_n hx hb dX2_sumOfPart_63 rfl (lv_at hl 4 rfl) ?_
      refine lv_iload hx hb dX2_sumOfPart_64 (lv_at hl 5 rfl) ?_
      refine vp_callSi (W.runV (As := [.int (nI k), .int (nI r), .int (nI a0), .int (nI b0)]) (rest := []) ⟨hx, hb, hml, hown, hts⟩ (k_X2_part l D S (cs_k1 (cs_M S (nI k) && cs_in (nI r) 0 3 && cs_in (nI a0) 0 (nI (cs_ln S (cs_c (nI r)))) && cs_in (nI b0) (nI a0) (nI (cs_ln S (cs_c (nI r)))))) bd cy hS k hk r a0 b0 hr4 hb0 (by omega)) (cwV 4 hts gX2_sumOfPart_X2_part rfl rfl rfl (by decide +kernel) ⟨Nat.le_of_ble_eq_true rfl, Nat.le_of_ble_eq_true rfl⟩) ⟨cs_B.blind, va_recv hK hP (ci := 2) (q0 := 0) rfl rfl, cs_B.at hE hP hK⟩ rfl rfl hl.1 rfl (lv_room (Nat.le_of_ble_eq_true rfl)) dX2_sumOfPart_66 ⟨Nat.le_of_ble_eq_true rfl, Nat.le_of_ble_eq_true rfl⟩) (fun r_66 e_66 => ?_)
      subst e_66
      refine lv_goto (tgt := 73) hx hb dX2_sumOfPart_69 (by decide) ?_
      exact W.iret (v := cs_so (cs_ro S k) (cs_w S k) (cs_ps (cs_w S k) (cs_p S k) (cs_ri S k) (cs_i S k) (cs_by S r) a0 (b0 - a0)) ^^^ cs_x S k) hx hb hr (fun t ht _ => ⟨cs_so (cs_ro S k) (cs_w S k) (cs_ps (cs_w S k) (cs_p S k) (cs_ri S k) (cs_i S k) (cs_by S r) a0 (b0 - a0)) ^^^ cs_x S k, (), rfl, fun _ => by unfold cs_vPar cs_psS; rw [cs_cI hk31, cs_cI r31, cs_cI (by omega), cs_cI (by omega)], by rw [ht]; exact hP, by exact hD, hS9.F ht⟩) hS9.2.2 dX2_sumOfPart_73
  refine cs_ifeq (tgt := 48) hx hb dX2_sumOfPart_5 (by decide) (fun c_5 => ?_) (fun c_5 => ?_)
  · refine lv_iconst (v := 0) hx hb dX2_sumOfPart_48 (by decide) ?_
    refine cs_top (y := cs_z (cs_M S v && cs_in u 0 3 && cs_in a 0 (nI (cs_ln S (cs_c u))) && cs_in b a (nI (cs_ln S (cs_c u))))) (by simp [cs_z, cs_nS, c_5]) ?_
    exact j49
  · refine lv_iload_n hx hb dX2_sumOfPart_8 rfl (lv_at hl 2 rfl) ?_
    refine vp_callSi (W.runS (As := [.int u]) (rest := []) ⟨hx, hb, hml, hown, hts⟩ (k_X2_isRow l D S th bd cy  u) (va_cwS 1 hts gX2_sumOfPart_X2_isRow rfl rfl rfl (by decide +kernel) ⟨Nat.le_of_ble_eq_true rfl, Nat.le_of_ble_eq_true rfl⟩) ⟨cs_B.blind, cs_B.at hE cs_none hK⟩ rfl rfl hl.1 rfl (lv_room (Nat.le_of_ble_eq_true rfl)) dX2_sumOfPart_9 ⟨Nat.le_of_ble_eq_true rfl, Nat.le_of_ble_eq_true rfl⟩) (fun r_9 e_9 => ?_)
    subst e_9
    refine cs_ifeq (tgt := 48) hx hb dX2_sumOfPart_12 (by decide) (fun c_12 => ?_) (fun c_12 => ?_)
    · refine lv_iconst (v := 0) hx hb dX2_sumOfPart_48 (by decide) ?_
      refine cs_top (y := cs_z (cs_M S v && cs_in u 0 3 && cs_in a 0 (nI (cs_ln S (cs_c u))) && cs_in b a (nI (cs_ln S (cs_c u))))) (by simp [cs_z, cs_nS, c_5, c_12]) ?_
      exact j49
    · obtain ⟨r, hr4, rfl⟩ := cs_row_of c_12
      have r31 : r < 2 ^ 31 := by omega
      refine lv_iload_n hx hb dX2_sumOfPart_15 rfl (lv_at hl 3 rfl) ?_
      refine lv_iconst (v := 0) hx hb dX2_sumOfPart_16 (by decide) ?_
      refine lv_aload_n hx hb dX2_sumOfPart_17 rfl (lv_at hl 0 rfl) ?_
      refine va_get (D := D) (ci := 2) (v := .ref (bd 8)) (C := RX2) (T := TX2) (N := 10) hx hb hts hinX2 hown hK hP 0 cs_R0 rfl 8 (by decide) (hts (.fieldLink RX2 32 "ChecksumLabModel" "length" "[I") (by decide +kernel)) (fun _ h9 => h9) rfl dX2_sumOfPart_18 ?_
      refine lv_iload_n hx hb dX2_sumOfPart_21 rfl (lv_at hl 2 rfl) ?_
      refine cs_iald hx hb hK hP 8 0 cs_R8 rfl (k := r) (hr4) (by decide) dX2_sumOfPart_22 ?_
      refine vp_callSi (W.runS (As := [.int a, .int 0, .int (nI (cs_ln S r))]) (rest := []) ⟨hx, hb, hml, hown, hts⟩ (k_X2_in l D S th bd cy  a 0 (nI (cs_ln S r))) (va_cwS 3 hts gX2_sumOfPart_X2_in rfl rfl rfl (by decide +kernel) ⟨Nat.le_of_ble_eq_true rfl, Nat.le_of_ble_eq_true rfl⟩) ⟨cs_B.blind, cs_B.at hE cs_none hK⟩ rfl rfl hl.1 rfl (lv_room (Nat.le_of_ble_eq_true rfl)) dX2_sumOfPart_23 ⟨Nat.le_of_ble_eq_true rfl, Nat.le_of_ble_eq_true rfl⟩) (fun r_23 e_23 => ?_)
      subst e_23
      refine cs_ifeq (tgt := 48) hx hb dX2_sumOfPart_26 (by decide) (fun c_26 => ?_) (fun c_26 => ?_)
      · refine lv_iconst (v := 0) hx hb dX2_sumOfPart_48 (by decide) ?_
        refine cs_top (y := cs_z (cs_M S v && cs_in (nI r) 0 3 && cs_in a 0 (nI (cs_ln S (cs_c (nI r)))) && cs_in b a (nI (cs_ln S (cs_c (nI r)))))) (by simp [cs_z, cs_nS, cs_cI r31, c_5, c_12, c_26]) ?_
        exact j49
      · refine lv_iload hx hb dX2_sumOfPart_29 (lv_at hl 4 rfl) ?_
        refine lv_iload_n hx hb dX2_sumOfPart_31 rfl (lv_at hl 3 rfl) ?_
        refine lv_aload_n hx hb dX2_sumOfPart_32 rfl (lv_at hl 0 rfl) ?_
        refine va_get (D := D) (ci := 2) (v := .ref (bd 8)) (C := RX2) (T := TX2) (N := 10) hx hb hts hinX2 hown hK hP 0 cs_R0 rfl 8 (by decide) (hts (.fieldLink RX2 32 "ChecksumLabModel" "length" "[I") (by decide +kernel)) (fun _ h9 => h9) rfl dX2_sumOfPart_33 ?_
        refine lv_iload_n hx hb dX2_sumOfPart_36 rfl (lv_at hl 2 rfl) ?_
        refine cs_iald hx hb hK hP 8 0 cs_R8 rfl (k := r) (hr4) (by decide) dX2_sumOfPart_37 ?_
        refine vp_callSi (W.runS (As := [.int b, .int a, .int (nI (cs_ln S r))]) (rest := []) ⟨hx, hb, hml, hown, hts⟩ (k_X2_in l D S th bd cy  b a (nI (cs_ln S r))) (va_cwS 3 hts gX2_sumOfPart_X2_in rfl rfl rfl (by decide +kernel) ⟨Nat.le_of_ble_eq_true rfl, Nat.le_of_ble_eq_true rfl⟩) ⟨cs_B.blind, cs_B.at hE cs_none hK⟩ rfl rfl hl.1 rfl (lv_room (Nat.le_of_ble_eq_true rfl)) dX2_sumOfPart_38 ⟨Nat.le_of_ble_eq_true rfl, Nat.le_of_ble_eq_true rfl⟩) (fun r_38 e_38 => ?_)
        subst e_38
        refine cs_ifeq (tgt := 48) hx hb dX2_sumOfPart_41 (by decide) (fun c_41 => ?_) (fun c_41 => ?_)
        · refine lv_iconst (v := 0) hx hb dX2_sumOfPart_48 (by decide) ?_
          refine cs_top (y := cs_z (cs_M S v && cs_in (nI r) 0 3 && cs_in a 0 (nI (cs_ln S (cs_c (nI r)))) && cs_in b a (nI (cs_ln S (cs_c (nI r)))))) (by simp [cs_z, cs_nS, cs_cI r31, c_5, c_12, c_26, c_41]) ?_
          exact j49
        · refine lv_iconst (v := 1) hx hb dX2_sumOfPart_44 (by decide) ?_
          refine lv_goto (tgt := 49) hx hb dX2_sumOfPart_45 (by decide) ?_
          refine cs_top (y := cs_z (cs_M S v && cs_in (nI r) 0 3 && cs_in a 0 (nI (cs_ln S (cs_c (nI r)))) && cs_in b a (nI (cs_ln S (cs_c (nI r)))))) (by simp [cs_z, cs_nS, cs_cI r31, c_5, c_12, c_26, c_41]) ?_
          exact j49
set_option maxHeartbeats 4000000 in
set_option maxRecDepth 100000 in
theorem k_X2_fletcherJoined (l : Launch) (D : va_G) (S : cs_St) (th : Int32) (bd : Nat → Nat) (cy : Nat → ClassId) (sz : Nat) (a b n : Int32) : cs_Mw l yX2_fletcherJoined wsX2_fletcherJoined ({ frames := 1, cells := 0, slots := 0, locals := 21 }) D (cs_tys cy) (cs_R S th bd cy) sz [.ref (bd 0), .int a, .int b, .int n] (fun (_ : Unit) => cs_R S (cs_kFlj a b n) bd cy) (fun rr _ => cs_kFlj a b n = 0 → rr = cs_vFlj a b n) := by
  refine Met.ofW (cc := cX2_fletcherJoined) (maxL := 7) (ret := (some .int)) (by decide) rfl ?_
  intro pg e s m args below meth c s₁ B hml hv
  obtain ⟨rfl, hsz, hE, hP, hK, hD0⟩ := hv
  subst hsz
  have hD := hD0.self (sz := s.heap.size)
  have hA : ∀ q : Nat, s.heap.size ≤ q → va_A (cs_R S th bd cy) s.heap.size q := fun q h => Or.inr h
  have hS9 : va_S (va_A (cs_R S th bd cy) s.heap.size) s.heap s.heap [] := va_S.rf
  have hx := B.exec
  have hb := B.bytes
  have hr := B.returns
  have hts := atoms_spec (ws := wsX2_fletcherJoined) B.pre
  have hown : s.vm.findClass RX2 = some m.cls := findClass_of_methodNamed B.named
  have hlocks := B.notSynchronized
  have hl := lv_entry ([.ref (bd 0), .int a, .int b, .int n]) (n := 7) (Nat.le_of_ble_eq_true rfl)
  rw [lg_entry_eq]
  generalize (lg_sl ([.ref (bd 0), .int a, .int b, .int n]) ++ List.replicate (7 - (lg_sl ([.ref (bd 0), .int a, .int b, .int n])).length) Slot.unset).toArray = ls at hl ⊢
  have hl : lv_has ls 7 [(0, .ref (bd 0)), (1, .int a), (2, .int b), (3, .int n)] := hl
  have hinX2 : ∀ w ∈ wsX20, w ∈ wsX2_fletcherJoined := fun _ h => by unfold wsX2_fletcherJoined; exact List.mem_cons_of_mem _ (List.mem_append_right _ h)
  refine lv_aload_n hx hb dX2_fletcherJoined_0 rfl (lv_at hl 0 rfl) ?_
  have j24 : W pg l e (headSpec wsX2_fletcherJoined ({ frames := 1, cells := 0, slots := 0, locals := 21 })).room s m [Value.ref (bd 0), Value.int a, Value.int b, Value.int n].toArray below meth c s.heap [] 0 0 (MQ below (cs_Qw D (cs_R S th bd cy) (fun (_ : Unit) => cs_R S (cs_kFlj a b n) bd cy) (fun rr _ => cs_kFlj a b n = 0 → rr = cs_vFlj a b n)) [Value.ref (bd 0), Value.int a, Value.int b, Value.int n].toArray s 0 0 (va_A (cs_R S th bd cy) s.heap.size)) (F0 m 24 ls [.int (cs_z (cs_fk a && cs_fk b && decide (0 ≤ n))), .ref (bd 0)]) := by
    have hF := cs_inW hD hS9 hA
    refine cs_wcalli (va_runV (As := [.int (cs_z (cs_fk a && cs_fk b && decide (0 ≤ n)))]) (rest := []) ⟨hx, hb, hml, hown, hts⟩ (k_X2_asked l D S th bd cy s.heap.size (cs_fk a && cs_fk b && decide (0 ≤ n))) (cwV 1 hts gX2_fletcherJoined_X2_asked rfl rfl rfl (by decide +kernel) ⟨Nat.le_of_ble_eq_true rfl, Nat.le_of_ble_eq_true rfl⟩) ⟨cs_Bw.blind, va_recv hK hP (ci := 2) (q0 := 0) rfl rfl, cs_Bw.at hE hP hK hD⟩ rfl rfl hl.1 rfl (lv_room (Nat.le_of_ble_eq_true rfl)) dX2_fletcherJoined_24 ⟨Nat.le_of_ble_eq_true rfl, Nat.le_of_ble_eq_true rfl⟩) hS9 hF (fun r_24 u9 H locs hp hP hD1 hz hk1 hS9 => ?_)
    have hP : va_P D vwCl (cs_R S (cs_k1 (cs_fk a && cs_fk b && decide (0 ≤ n))) bd cy) H := hP
    have hD : va_D (va_A (cs_R S th bd cy) s.heap.size) (cs_R S (cs_k1 (cs_fk a && cs_fk b && decide (0 ≤ n))) bd cy) := hD1.weaken (fun k q _ h => hF q.1 h)
    subst hp
    refine cs_ifne (tgt := 32) hx hb dX2_fletcherJoined_27 (by decide) (fun c_27 => ?_) (fun c_27 => ?_)
    · refine lv_iload_n hx hb dX2_fletcherJoined_32 rfl (lv_at hl 1 rfl) ?_
      refine lv_sipush (v := 256) hx hb dX2_fletcherJoined_33 (by decide) ?_
      refine lv_irem hx hb dX2_fletcherJoined_36 (by decide) ?_
      refine cs_top (y := cs_rem a 256) (rfl) ?_
      refine lv_iload_n hx hb dX2_fletcherJoined_37 rfl (lv_at hl 2 rfl) ?_
      refine lv_sipush (v := 256) hx hb dX2_fletcherJoined_38 (by decide) ?_
      refine lv_irem hx hb dX2_fletcherJoined_41 (by decide) ?_
      refine cs_top (y := cs_rem b 256) (rfl) ?_
      refine lv_iadd hx hb dX2_fletcherJoined_42 ?_
      refine lv_sipush (v := 255) hx hb dX2_fletcherJoined_43 (by decide) ?_
      refine lv_irem hx hb dX2_fletcherJoined_46 (by decide) ?_
      refine cs_top (y := cs_rem ((cs_rem a 256) + (cs_rem b 256)) 255) (rfl) ?_
      refine lv_istore (lv' := [(4, .int (cs_rem ((cs_rem a 256) + (cs_rem b 256)) 255)), (0, .ref (bd 0)), (1, .int a), (2, .int b), (3, .int n)]) hx hb dX2_fletcherJoined_47 hl (by decide) rfl (fun ls hl => ?_)
      refine lv_iload_n hx hb dX2_fletcherJoined_49 rfl (lv_at hl 2 rfl) ?_
      refine lv_sipush (v := 256) hx hb dX2_fletcherJoined_50 (by decide) ?_
      refine lv_idiv hx hb dX2_fletcherJoined_53 (by decide) ?_
      refine lv_iload_n hx hb dX2_fletcherJoined_54 rfl (lv_at hl 3 rfl) ?_
      refine lv_sipush (v := 256) hx hb dX2_fletcherJoined_55 (by decide) ?_
      refine lv_idiv hx hb dX2_fletcherJoined_58 (by decide) ?_
      refine lv_iadd hx hb dX2_fletcherJoined_59 ?_
      refine lv_i2l (v := ((a / 256) + (b / 256)).toInt64) hx hb dX2_fletcherJoined_60 rfl ?_
      refine lv_iload_n hx hb dX2_fletcherJoined_61 rfl (lv_at hl 4 rfl) ?_
      refine lv_i2l (v := n.toInt64) hx hb dX2_fletcherJoined_62 rfl ?_
      refine lv_iload_n hx hb dX2_fletcherJoined_63 rfl (lv_at hl 2 rfl) ?_
      refine lv_sipush (v := 256) hx hb dX2_fletcherJoined_64 (by decide) ?_
      refine lv_irem hx hb dX2_fletcherJoined_67 (by decide) ?_
      refine cs_top (y := cs_rem a 256) (rfl) ?_
      refine lv_i2l (v := (cs_rem a 256).toInt64) hx hb dX2_fletcherJoined_68 rfl ?_
      refine lv_lmul hx hb dX2_fletcherJoined_69 ?_
      refine lv_ladd hx hb dX2_fletcherJoined_70 ?_
      refine lv_ldc2 (v := 255) hx hb hown (hts (.constantLong RX2 111 255) (by decide +kernel)) dX2_fletcherJoined_71 ?_
      refine lv_lrem hx hb dX2_fletcherJoined_74 (by decide) ?_
      refine cs_topl (y := cs_remL ((((a / 256) + (b / 256)).toInt64) + (n.toInt64 * ((cs_rem a 256).toInt64))) 255) (rfl) ?_
      refine lv_lstore (lv' := [(5, .long (cs_remL ((((a / 256) + (b / 256)).toInt64) + (n.toInt64 * ((cs_rem a 256).toInt64))) 255)), (4, .int (cs_rem ((cs_rem a 256) + (cs_rem b 256)) 255)), (0, .ref (bd 0)), (1, .int a), (2, .int b), (3, .int n)]) hx hb dX2_fletcherJoined_75 hl (by decide) rfl (fun ls hl => ?_)
      refine lv_sipush (v := 256) hx hb dX2_fletcherJoined_77 (by decide) ?_
      refine lv_lload hx hb dX2_fletcherJoined_80 (lv_at hl 0 rfl) ?_
      refine lv_l2i (v := (cs_remL ((((a / 256) + (b / 256)).toInt64) + (n.toInt64 * ((cs_rem a 256).toInt64))) 255).toInt32) hx hb dX2_fletcherJoined_82 rfl ?_
      refine lv_imul hx hb dX2_fletcherJoined_83 ?_
      refine lv_iload hx hb dX2_fletcherJoined_84 (lv_at hl 1 rfl) ?_
      refine lv_iadd hx hb dX2_fletcherJoined_86 ?_
      exact W.iret (v := (256 * ((cs_remL ((((a / 256) + (b / 256)).toInt64) + (n.toInt64 * ((cs_rem a 256).toInt64))) 255).toInt32)) + (cs_rem ((cs_rem a 256) + (cs_rem b 256)) 255)) hx hb hr (fun t ht _ => ⟨(256 * ((cs_remL ((((a / 256) + (b / 256)).toInt64) + (n.toInt64 * ((cs_rem a 256).toInt64))) 255).toInt32)) + (cs_rem ((cs_rem a 256) + (cs_rem b 256)) 255), (), rfl, fun _ => rfl, by rw [ht]; exact hP, by exact hD, hS9.F ht⟩) hS9.2.2 dX2_fletcherJoined_87
    · refine lv_iconst (v := 0) hx hb dX2_fletcherJoined_30 (by decide) ?_
      exact W.iret (v := 0) hx hb hr (fun t ht _ => ⟨0, (), rfl, fun z => absurd (cs_k1_0.mp z) (by rw [c_27]; decide), by rw [ht]; exact hP, by exact hD, hS9.F ht⟩) hS9.2.2 dX2_fletcherJoined_31
  refine lv_iload_n hx hb dX2_fletcherJoined_1 rfl (lv_at hl 1 rfl) ?_
  refine vp_callSi (W.runS (As := [.int a]) (rest := [.ref (bd 0)]) ⟨hx, hb, hml, hown, hts⟩ (k_X2_isFletcher l D S th bd cy  a) (va_cwS 1 hts gX2_fletcherJoined_X2_isFletcher rfl rfl rfl (by decide +kernel) ⟨Nat.le_of_ble_eq_true rfl, Nat.le_of_ble_eq_true rfl⟩) ⟨cs_B.blind, cs_B.at hE cs_none hK⟩ rfl rfl hl.1 rfl (lv_room (Nat.le_of_ble_eq_true rfl)) dX2_fletcherJoined_2 ⟨Nat.le_of_ble_eq_true rfl, Nat.le_of_ble_eq_true rfl⟩) (fun r_2 e_2 => ?_)
  subst e_2
  refine cs_ifeq (tgt := 23) hx hb dX2_fletcherJoined_5 (by decide) (fun c_5 => ?_) (fun c_5 => ?_)
  · refine lv_iconst (v := 0) hx hb dX2_fletcherJoined_23 (by decide) ?_
    refine cs_top (y := cs_z (cs_fk a && cs_fk b && decide (0 ≤ n))) (by simp [cs_z, cs_nS, c_5]) ?_
    exact j24
  · refine lv_iload_n hx hb dX2_fletcherJoined_8 rfl (lv_at hl 2 rfl) ?_
    refine vp_callSi (W.runS (As := [.int b]) (rest := [.ref (bd 0)]) ⟨hx, hb, hml, hown, hts⟩ (k_X2_isFletcher l D S th bd cy  b) (va_cwS 1 hts gX2_fletcherJoined_X2_isFletcher rfl rfl rfl (by decide +kernel) ⟨Nat.le_of_ble_eq_true rfl, Nat.le_of_ble_eq_true rfl⟩) ⟨cs_B.blind, cs_B.at hE cs_none hK⟩ rfl rfl hl.1 rfl (lv_room (Nat.le_of_ble_eq_true rfl)) dX2_fletcherJoined_9 ⟨Nat.le_of_ble_eq_true rfl, Nat.le_of_ble_eq_true rfl⟩) (fun r_9 e_9 => ?_)
    subst e_9
    refine cs_ifeq (tgt := 23) hx hb dX2_fletcherJoined_12 (by decide) (fun c_12 => ?_) (fun c_12 => ?_)
    · refine lv_iconst (v := 0) hx hb dX2_fletcherJoined_23 (by decide) ?_
      refine cs_top (y := cs_z (cs_fk a && cs_fk b && decide (0 ≤ n))) (by simp [cs_z, cs_nS, c_5, c_12]) ?_
      exact j24
    · refine lv_iload_n hx hb dX2_fletcherJoined_15 rfl (lv_at hl 3 rfl) ?_
      refine lv_if_lt (tgt := 23) hx hb dX2_fletcherJoined_16 (by decide) (fun c_16 => ?_) (fun c_16 => ?_)
      · refine lv_iconst (v := 0) hx hb dX2_fletcherJoined_23 (by decide) ?_
        refine cs_top (y := cs_z (cs_fk a && cs_fk b && decide (0 ≤ n))) (by simp [cs_z, cs_nS, c_5, c_12, decide_eq_false (Int32.not_le.mpr c_16)]) ?_
        exact j24
      · refine lv_iconst (v := 1) hx hb dX2_fletcherJoined_19 (by decide) ?_
        refine lv_goto (tgt := 24) hx hb dX2_fletcherJoined_20 (by decide) ?_
        refine cs_top (y := cs_z (cs_fk a && cs_fk b && decide (0 ≤ n))) (by simp [cs_z, cs_nS, c_5, c_12, decide_eq_true (Int32.not_lt.mp c_16)]) ?_
        exact j24
set_option maxHeartbeats 4000000 in
set_option maxRecDepth 100000 in
theorem k_X2_adlerJoined (l : Launch) (D : va_G) (S : cs_St) (th : Int32) (bd : Nat → Nat) (cy : Nat → ClassId) (sz : Nat) (a b n : Int32) : cs_Mw l yX2_adlerJoined wsX2_adlerJoined ({ frames := 2, cells := 0, slots := 0, locals := 46 }) D (cs_tys cy) (cs_R S th bd cy) sz [.ref (bd 0), .int a, .int b, .int n] (fun (_ : Unit) => cs_R S (cs_kAdj a b n) bd cy) (fun rr _ => cs_kAdj a b n = 0 → rr = cs_vAdj a b n) := by
  refine Met.ofW (cc := cX2_adlerJoined) (maxL := 8) (ret := (some .int)) (by decide) rfl ?_
  intro pg e s m args below meth c s₁ B hml hv
  obtain ⟨rfl, hsz, hE, hP, hK, hD0⟩ := hv
  subst hsz
  have hD := hD0.self (sz := s.heap.size)
  have hA : ∀ q : Nat, s.heap.size ≤ q → va_A (cs_R S th bd cy) s.heap.size q := fun q h => Or.inr h
  have hS9 : va_S (va_A (cs_R S th bd cy) s.heap.size) s.heap s.heap [] := va_S.rf
  have hx := B.exec
  have hb := B.bytes
  have hr := B.returns
  have hts := atoms_spec (ws := wsX2_adlerJoined) B.pre
  have hown : s.vm.findClass RX2 = some m.cls := findClass_of_methodNamed B.named
  have hlocks := B.notSynchronized
  have hl := lv_entry ([.ref (bd 0), .int a, .int b, .int n]) (n := 8) (Nat.le_of_ble_eq_true rfl)
  rw [lg_entry_eq]
  generalize (lg_sl ([.ref (bd 0), .int a, .int b, .int n]) ++ List.replicate (8 - (lg_sl ([.ref (bd 0), .int a, .int b, .int n])).length) Slot.unset).toArray = ls at hl ⊢
  have hl : lv_has ls 8 [(0, .ref (bd 0)), (1, .int a), (2, .int b), (3, .int n)] := hl
  have hinX2 : ∀ w ∈ wsX20, w ∈ wsX2_adlerJoined := fun _ h => by unfold wsX2_adlerJoined; exact List.mem_cons_of_mem _ (List.mem_append_right _ h)
  refine lv_aload_n hx hb dX2_adlerJoined_0 rfl (lv_at hl 0 rfl) ?_
  have j24 : W pg l e (headSpec wsX2_adlerJoined ({ frames := 2, cells := 0, slots := 0, locals := 46 })).room s m [Value.ref (bd 0), Value.int a, Value.int b, Value.int n].toArray below meth c s.heap [] 0 0 (MQ below (cs_Qw D (cs_R S th bd cy) (fun (_ : Unit) => cs_R S (cs_kAdj a b n) bd cy) (fun rr _ => cs_kAdj a b n = 0 → rr = cs_vAdj a b n)) [Value.ref (bd 0), Value.int a, Value.int b, Value.int n].toArray s 0 0 (va_A (cs_R S th bd cy) s.heap.size)) (F0 m 24 ls [.int (cs_z (cs_ak a && cs_ak b && decide (0 ≤ n))), .ref (bd 0)]) := by
    have hF := cs_inW hD hS9 hA
    refine cs_wcalli (va_runV (As := [.int (cs_z (cs_ak a && cs_ak b && decide (0 ≤ n)))]) (rest := []) ⟨hx, hb, hml, hown, hts⟩ (k_X2_asked l D S th bd cy s.heap.size (cs_ak a && cs_ak b && decide (0 ≤ n))) (cwV 1 hts gX2_adlerJoined_X2_asked rfl rfl rfl (by decide +kernel) ⟨Nat.le_of_ble_eq_true rfl, Nat.le_of_ble_eq_true rfl⟩) ⟨cs_Bw.blind, va_recv hK hP (ci := 2) (q0 := 0) rfl rfl, cs_Bw.at hE hP hK hD⟩ rfl rfl hl.1 rfl (lv_room (Nat.le_of_ble_eq_true rfl)) dX2_adlerJoined_24 ⟨Nat.le_of_ble_eq_true rfl, Nat.le_of_ble_eq_true rfl⟩) hS9 hF (fun r_24 u9 H locs hp hP hD1 hz hk1 hS9 => ?_)
    have hP : va_P D vwCl (cs_R S (cs_k1 (cs_ak a && cs_ak b && decide (0 ≤ n))) bd cy) H := hP
    have hD : va_D (va_A (cs_R S th bd cy) s.heap.size) (cs_R S (cs_k1 (cs_ak a && cs_ak b && decide (0 ≤ n))) bd cy) := hD1.weaken (fun k q _ h => hF q.1 h)
    subst hp
    refine cs_ifne (tgt := 32) hx hb dX2_adlerJoined_27 (by decide) (fun c_27 => ?_) (fun c_27 => ?_)
    · refine lv_iload_n hx hb dX2_adlerJoined_32 rfl (lv_at hl 1 rfl) ?_
      refine vp_callSi (W.runS (As := [.int a]) (rest := []) ⟨hx, hb, hml, hown, hts⟩ (k_X2_low l D S (cs_k1 (cs_ak a && cs_ak b && decide (0 ≤ n))) bd cy  a) (va_cwS 1 hts gX2_adlerJoined_X2_low rfl rfl rfl (by decide +kernel) ⟨Nat.le_of_ble_eq_true rfl, Nat.le_of_ble_eq_true rfl⟩) ⟨cs_B.blind, cs_B.at hE cs_none hK⟩ rfl rfl hl.1 rfl (lv_room (Nat.le_of_ble_eq_true rfl)) dX2_adlerJoined_33 ⟨Nat.le_of_ble_eq_true rfl, Nat.le_of_ble_eq_true rfl⟩) (fun r_33 e_33 => ?_)
      subst e_33
      refine lv_iload_n hx hb dX2_adlerJoined_36 rfl (lv_at hl 2 rfl) ?_
      refine vp_callSi (W.runS (As := [.int b]) (rest := [.int (a &&& 65535)]) ⟨hx, hb, hml, hown, hts⟩ (k_X2_low l D S (cs_k1 (cs_ak a && cs_ak b && decide (0 ≤ n))) bd cy  b) (va_cwS 1 hts gX2_adlerJoined_X2_low rfl rfl rfl (by decide +kernel) ⟨Nat.le_of_ble_eq_true rfl, Nat.le_of_ble_eq_true rfl⟩) ⟨cs_B.blind, cs_B.at hE cs_none hK⟩ rfl rfl hl.1 rfl (lv_room (Nat.le_of_ble_eq_true rfl)) dX2_adlerJoined_37 ⟨Nat.le_of_ble_eq_true rfl, Nat.le_of_ble_eq_true rfl⟩) (fun r_37 e_37 => ?_)
      subst e_37
      refine lv_iadd hx hb dX2_adlerJoined_40 ?_
      refine lv_iconst (v := 1) hx hb dX2_adlerJoined_41 (by decide) ?_
      refine lv_isub hx hb dX2_adlerJoined_42 ?_
      refine lv_i2l (v := (((a &&& 65535) + (b &&& 65535)) - 1).toInt64) hx hb dX2_adlerJoined_43 rfl ?_
      refine lv_lstore (lv' := [(4, .long ((((a &&& 65535) + (b &&& 65535)) - 1).toInt64)), (0, .ref (bd 0)), (1, .int a), (2, .int b), (3, .int n)]) hx hb dX2_adlerJoined_44 hl (by decide) rfl (fun ls hl => ?_)
      refine lv_iload_n hx hb dX2_adlerJoined_46 rfl (lv_at hl 2 rfl) ?_
      refine vp_callSi (W.runS (As := [.int a]) (rest := []) ⟨hx, hb, hml, hown, hts⟩ (k_X2_high l D S (cs_k1 (cs_ak a && cs_ak b && decide (0 ≤ n))) bd cy  a) (va_cwS 1 hts gX2_adlerJoined_X2_high rfl rfl rfl (by decide +kernel) ⟨Nat.le_of_ble_eq_true rfl, Nat.le_of_ble_eq_true rfl⟩) ⟨cs_B.blind, cs_B.at hE cs_none hK⟩ rfl rfl hl.1 rfl (lv_room (Nat.le_of_ble_eq_true rfl)) dX2_adlerJoined_47 ⟨Nat.le_of_ble_eq_true rfl, Nat.le_of_ble_eq_true rfl⟩) (fun r_47 e_47 => ?_)
      subst e_47
      refine lv_iload_n hx hb dX2_adlerJoined_50 rfl (lv_at hl 3 rfl) ?_
      refine vp_callSi (W.runS (As := [.int b]) (rest := [.int (cs_ur a 16)]) ⟨hx, hb, hml, hown, hts⟩ (k_X2_high l D S (cs_k1 (cs_ak a && cs_ak b && decide (0 ≤ n))) bd cy  b) (va_cwS 1 hts gX2_adlerJoined_X2_high rfl rfl rfl (by decide +kernel) ⟨Nat.le_of_ble_eq_true rfl, Nat.le_of_ble_eq_true rfl⟩) ⟨cs_B.blind, cs_B.at hE cs_none hK⟩ rfl rfl hl.1 rfl (lv_room (Nat.le_of_ble_eq_true rfl)) dX2_adlerJoined_51 ⟨Nat.le_of_ble_eq_true rfl, Nat.le_of_ble_eq_true rfl⟩) (fun r_51 e_51 => ?_)
      subst e_51
      refine lv_iadd hx hb dX2_adlerJoined_54 ?_
      refine lv_i2l (v := ((cs_ur a 16) + (cs_ur b 16)).toInt64) hx hb dX2_adlerJoined_55 rfl ?_
      refine lv_iload_n hx hb dX2_adlerJoined_56 rfl (lv_at hl 4 rfl) ?_
      refine lv_i2l (v := n.toInt64) hx hb dX2_adlerJoined_57 rfl ?_
      refine lv_iload_n hx hb dX2_adlerJoined_58 rfl (lv_at hl 2 rfl) ?_
      refine vp_callSi (W.runS (As := [.int a]) (rest := [.long n.toInt64, .long (((cs_ur a 16) + (cs_ur b 16)).toInt64)]) ⟨hx, hb, hml, hown, hts⟩ (k_X2_low l D S (cs_k1 (cs_ak a && cs_ak b && decide (0 ≤ n))) bd cy  a) (va_cwS 1 hts gX2_adlerJoined_X2_low rfl rfl rfl (by decide +kernel) ⟨Nat.le_of_ble_eq_true rfl, Nat.le_of_ble_eq_true rfl⟩) ⟨cs_B.blind, cs_B.at hE cs_none hK⟩ rfl rfl hl.1 rfl (lv_room (Nat.le_of_ble_eq_true rfl)) dX2_adlerJoined_59 ⟨Nat.le_of_ble_eq_true rfl, Nat.le_of_ble_eq_true rfl⟩) (fun r_59 e_59 => ?_)
      subst e_59
      refine lv_iconst (v := 1) hx hb dX2_adlerJoined_62 (by decide) ?_
      refine lv_isub hx hb dX2_adlerJoined_63 ?_
      refine lv_i2l (v := ((a &&& 65535) - 1).toInt64) hx hb dX2_adlerJoined_64 rfl ?_
      refine lv_lmul hx hb dX2_adlerJoined_65 ?_
      refine lv_ladd hx hb dX2_adlerJoined_66 ?_
      refine lv_lstore (lv' := [(6, .long ((((cs_ur a 16) + (cs_ur b 16)).toInt64) + (n.toInt64 * (((a &&& 65535) - 1).toInt64)))), (4, .long ((((a &&& 65535) + (b &&& 65535)) - 1).toInt64)), (0, .ref (bd 0)), (1, .int a), (2, .int b), (3, .int n)]) hx hb dX2_adlerJoined_67 hl (by decide) rfl (fun ls hl => ?_)
      refine lv_lload hx hb dX2_adlerJoined_69 (lv_at hl 1 rfl) ?_
      refine lv_lload hx hb dX2_adlerJoined_71 (lv_at hl 0 rfl) ?_
      refine vp_callSi (W.runS (As := [.long ((((a &&& 65535) + (b &&& 65535)) - 1).toInt64), .long ((((cs_ur a 16) + (cs_ur b 16)).toInt64) + (n.toInt64 * (((a &&& 65535) - 1).toInt64)))]) (rest := []) ⟨hx, hb, hml, hown, hts⟩ (k_X2_adlerOf l D S (cs_k1 (cs_ak a && cs_ak b && decide (0 ≤ n))) bd cy  ((((a &&& 65535) + (b &&& 65535)) - 1).toInt64) ((((cs_ur a 16) + (cs_ur b 16)).toInt64) + (n.toInt64 * (((a &&& 65535) - 1).toInt64)))) (va_cwS 2 hts gX2_adlerJoined_X2_adlerOf rfl rfl rfl (by decide +kernel) ⟨Nat.le_of_ble_eq_true rfl, Nat.le_of_ble_eq_true rfl⟩) ⟨cs_B.blind, cs_B.at hE cs_none hK⟩ rfl rfl hl.1 rfl (lv_room (Nat.le_of_ble_eq_true rfl)) dX2_adlerJoined_73 ⟨Nat.le_of_ble_eq_true rfl, Nat.le_of_ble_eq_true rfl⟩) (fun r_73 e_73 => ?_)
      subst e_73
      exact W.iret (v := cs_ad ((((a &&& 65535) + (b &&& 65535)) - 1).toInt64) ((((cs_ur a 16) + (cs_ur b 16)).toInt64) + (n.toInt64 * (((a &&& 65535) - 1).toInt64)))) hx hb hr (fun t ht _ => ⟨cs_ad ((((a &&& 65535) + (b &&& 65535)) - 1).toInt64) ((((cs_ur a 16) + (cs_ur b 16)).toInt64) + (n.toInt64 * (((a &&& 65535) - 1).toInt64))), (), rfl, fun _ => rfl, by rw [ht]; exact hP, by exact hD, hS9.F ht⟩) hS9.2.2 dX2_adlerJoined_76
    · refine lv_iconst (v := 0) hx hb dX2_adlerJoined_30 (by decide) ?_
      exact W.iret (v := 0) hx hb hr (fun t ht _ => ⟨0, (), rfl, fun z => absurd (cs_k1_0.mp z) (by rw [c_27]; decide), by rw [ht]; exact hP, by exact hD, hS9.F ht⟩) hS9.2.2 dX2_adlerJoined_31
  refine lv_iload_n hx hb dX2_adlerJoined_1 rfl (lv_at hl 1 rfl) ?_
  refine vp_callSi (W.runS (As := [.int a]) (rest := [.ref (bd 0)]) ⟨hx, hb, hml, hown, hts⟩ (k_X2_isAdler l D S th bd cy  a) (va_cwS 1 hts gX2_adlerJoined_X2_isAdler rfl rfl rfl (by decide +kernel) ⟨Nat.le_of_ble_eq_true rfl, Nat.le_of_ble_eq_true rfl⟩) ⟨cs_B.blind, cs_B.at hE cs_none hK⟩ rfl rfl hl.1 rfl (lv_room (Nat.le_of_ble_eq_true rfl)) dX2_adlerJoined_2 ⟨Nat.le_of_ble_eq_true rfl, Nat.le_of_ble_eq_true rfl⟩) (fun r_2 e_2 => ?_)
  subst e_2
  refine cs_ifeq (tgt := 23) hx hb dX2_adlerJoined_5 (by decide) (fun c_5 => ?_) (fun c_5 => ?_)
  · refine lv_iconst (v := 0) hx hb dX2_adlerJoined_23 (by decide) ?_
    refine cs_top (y := cs_z (cs_ak a && cs_ak b && decide (0 ≤ n))) (by simp [cs_z, cs_nS, c_5]) ?_
    exact j24
  · refine lv_iload_n hx hb dX2_adlerJoined_8 rfl (lv_at hl 2 rfl) ?_
    refine vp_callSi (W.runS (As := [.int b]) (rest := [.ref (bd 0)]) ⟨hx, hb, hml, hown, hts⟩ (k_X2_isAdler l D S th bd cy  b) (va_cwS 1 hts gX2_adlerJoined_X2_isAdler rfl rfl rfl (by decide +kernel) ⟨Nat.le_of_ble_eq_true rfl, Nat.le_of_ble_eq_true rfl⟩) ⟨cs_B.blind, cs_B.at hE cs_none hK⟩ rfl rfl hl.1 rfl (lv_room (Nat.le_of_ble_eq_true rfl)) dX2_adlerJoined_9 ⟨Nat.le_of_ble_eq_true rfl, Nat.le_of_ble_eq_true rfl⟩) (fun r_9 e_9 => ?_)
    subst e_9
    refine cs_ifeq (tgt := 23) hx hb dX2_adlerJoined_12 (by decide) (fun c_12 => ?_) (fun c_12 => ?_)
    · refine lv_iconst (v := 0) hx hb dX2_adlerJoined_23 (by decide) ?_
      refine cs_top (y := cs_z (cs_ak a && cs_ak b && decide (0 ≤ n))) (by simp [cs_z, cs_nS, c_5, c_12]) ?_
      exact j24
    · refine lv_iload_n hx hb dX2_adlerJoined_15 rfl (lv_at hl 3 rfl) ?_
      refine lv_if_lt (tgt := 23) hx hb dX2_adlerJoined_16 (by decide) (fun c_16 => ?_) (fun c_16 => ?_)
      · refine lv_iconst (v := 0) hx hb dX2_adlerJoined_23 (by decide) ?_
        refine cs_top (y := cs_z (cs_ak a && cs_ak b && decide (0 ≤ n))) (by simp [cs_z, cs_nS, c_5, c_12, decide_eq_false (Int32.not_le.mpr c_16)]) ?_
        exact j24
      · refine lv_iconst (v := 1) hx hb dX2_adlerJoined_19 (by decide) ?_
        refine lv_goto (tgt := 24) hx hb dX2_adlerJoined_20 (by decide) ?_
        refine cs_top (y := cs_z (cs_ak a && cs_ak b && decide (0 ≤ n))) (by simp [cs_z, cs_nS, c_5, c_12, decide_eq_true (Int32.not_lt.mp c_16)]) ?_
        exact j24
set_option maxHeartbeats 4000000 in
set_option maxRecDepth 100000 in
theorem k_X2_adlerRolled (l : Launch) (D : va_G) (S : cs_St) (th : Int32) (bd : Nat → Nat) (cy : Nat → ClassId) (sz : Nat) (a n o i : Int32) : cs_Mw l yX2_adlerRolled wsX2_adlerRolled ({ frames := 2, cells := 0, slots := 0, locals := 46 }) D (cs_tys cy) (cs_R S th bd cy) sz [.ref (bd 0), .int a, .int n, .int o, .int i] (fun (_ : Unit) => cs_R S (cs_kAdr a n o i) bd cy) (fun rr _ => cs_kAdr a n o i = 0 → rr = cs_vAdr a n o i) := by
  refine Met.ofW (cc := cX2_adlerRolled) (maxL := 9) (ret := (some .int)) (by decide) rfl ?_
  intro pg e s m args below meth c s₁ B hml hv
  obtain ⟨rfl, hsz, hE, hP, hK, hD0⟩ := hv
  subst hsz
  have hD := hD0.self (sz := s.heap.size)
  have hA : ∀ q : Nat, s.heap.size ≤ q → va_A (cs_R S th bd cy) s.heap.size q := fun q h => Or.inr h
  have hS9 : va_S (va_A (cs_R S th bd cy) s.heap.size) s.heap s.heap [] := va_S.rf
  have hx := B.exec
  have hb := B.bytes
  have hr := B.returns
  have hts := atoms_spec (ws := wsX2_adlerRolled) B.pre
  have hown : s.vm.findClass RX2 = some m.cls := findClass_of_methodNamed B.named
  have hlocks := B.notSynchronized
  have hl := lv_entry ([.ref (bd 0), .int a, .int n, .int o, .int i]) (n := 9) (Nat.le_of_ble_eq_true rfl)
  rw [lg_entry_eq]
  generalize (lg_sl ([.ref (bd 0), .int a, .int n, .int o, .int i]) ++ List.replicate (9 - (lg_sl ([.ref (bd 0), .int a, .int n, .int o, .int i])).length) Slot.unset).toArray = ls at hl ⊢
  have hl : lv_has ls 9 [(0, .ref (bd 0)), (1, .int a), (2, .int n), (3, .int o), (4, .int i)] := hl
  have hinX2 : ∀ w ∈ wsX20, w ∈ wsX2_adlerRolled := fun _ h => by unfold wsX2_adlerRolled; exact List.mem_cons_of_mem _ (List.mem_append_right _ h)
  refine lv_aload_n hx hb dX2_adlerRolled_0 rfl (lv_at hl 0 rfl) ?_
  have j33 : W pg l e (headSpec wsX2_adlerRolled ({ frames := 2, cells := 0, slots := 0, locals := 46 })).room s m [Value.ref (bd 0), Value.int a, Value.int n, Value.int o, Value.int i].toArray below meth c s.heap [] 0 0 (MQ below (cs_Qw D (cs_R S th bd cy) (fun (_ : Unit) => cs_R S (cs_kAdr a n o i) bd cy) (fun rr _ => cs_kAdr a n o i = 0 → rr = cs_vAdr a n o i)) [Value.ref (bd 0), Value.int a, Value.int n, Value.int o, Value.int i].toArray s 0 0 (va_A (cs_R S th bd cy) s.heap.size)) (F0 m 33 ls [.int (cs_z (cs_ak a && decide (1 ≤ n) && cs_in o 0 255 && cs_in i 0 255)), .ref (bd 0)]) := by
    have hF := cs_inW hD hS9 hA
    refine cs_wcalli (va_runV (As := [.int (cs_z (cs_ak a && decide (1 ≤ n) && cs_in o 0 255 && cs_in i 0 255))]) (rest := []) ⟨hx, hb, hml, hown, hts⟩ (k_X2_asked l D S th bd cy s.heap.size (cs_ak a && decide (1 ≤ n) && cs_in o 0 255 && cs_in i 0 255)) (cwV 1 hts gX2_adlerRolled_X2_asked rfl rfl rfl (by decide +kernel) ⟨Nat.le_of_ble_eq_true rfl, Nat.le_of_ble_eq_true rfl⟩) ⟨cs_Bw.blind, va_recv hK hP (ci := 2) (q0 := 0) rfl rfl, cs_Bw.at hE hP hK hD⟩ rfl rfl hl.1 rfl (lv_room (Nat.le_of_ble_eq_true rfl)) dX2_adlerRolled_33 ⟨Nat.le_of_ble_eq_true rfl, Nat.le_of_ble_eq_true rfl⟩) hS9 hF (fun r_33 u9 H locs hp hP hD1 hz hk1 hS9 => ?_)
    have hP : va_P D vwCl (cs_R S (cs_k1 (cs_ak a && decide (1 ≤ n) && cs_in o 0 255 && cs_in i 0 255)) bd cy) H := hP
    have hD : va_D (va_A (cs_R S th bd cy) s.heap.size) (cs_R S (cs_k1 (cs_ak a && decide (1 ≤ n) && cs_in o 0 255 && cs_in i 0 255)) bd cy) := hD1.weaken (fun k q _ h => hF q.1 h)
    subst hp
    refine cs_ifne (tgt := 41) hx hb dX2_adlerRolled_36 (by decide) (fun c_36 => ?_) (fun c_36 => ?_)
    · refine lv_iload_n hx hb dX2_adlerRolled_41 rfl (lv_at hl 1 rfl) ?_
      refine vp_callSi (W.runS (As := [.int a]) (rest := []) ⟨hx, hb, hml, hown, hts⟩ (k_X2_low l D S (cs_k1 (cs_ak a && decide (1 ≤ n) && cs_in o 0 255 && cs_in i 0 255)) bd cy  a) (va_cwS 1 hts gX2_adlerRolled_X2_low rfl rfl rfl (by decide +kernel) ⟨Nat.le_of_ble_eq_true rfl, Nat.le_of_ble_eq_true rfl⟩) ⟨cs_B.blind, cs_B.at hE cs_none hK⟩ rfl rfl hl.1 rfl (lv_room (Nat.le_of_ble_eq_true rfl)) dX2_adlerRolled_42 ⟨Nat.le_of_ble_eq_true rfl, Nat.le_of_ble_eq_true rfl⟩) (fun r_42 e_42 => ?_)
      subst e_42
      refine lv_iload hx hb dX2_adlerRolled_45 (lv_at hl 4 rfl) ?_
      refine lv_iadd hx hb dX2_adlerRolled_47 ?_
      refine lv_iload_n hx hb dX2_adlerRolled_48 rfl (lv_at hl 3 rfl) ?_
      refine lv_isub hx hb dX2_adlerRolled_49 ?_
      refine lv_i2l (v := (((a &&& 65535) + i) - o).toInt64) hx hb dX2_adlerRolled_50 rfl ?_
      refine lv_lstore (lv' := [(5, .long ((((a &&& 65535) + i) - o).toInt64)), (0, .ref (bd 0)), (1, .int a), (2, .int n), (3, .int o), (4, .int i)]) hx hb dX2_adlerRolled_51 hl (by decide) rfl (fun ls hl => ?_)
      refine lv_iload_n hx hb dX2_adlerRolled_53 rfl (lv_at hl 2 rfl) ?_
      refine vp_callSi (W.runS (As := [.int a]) (rest := []) ⟨hx, hb, hml, hown, hts⟩ (k_X2_high l D S (cs_k1 (cs_ak a && decide (1 ≤ n) && cs_in o 0 255 && cs_in i 0 255)) bd cy  a) (va_cwS 1 hts gX2_adlerRolled_X2_high rfl rfl rfl (by decide +kernel) ⟨Nat.le_of_ble_eq_true rfl, Nat.le_of_ble_eq_true rfl⟩) ⟨cs_B.blind, cs_B.at hE cs_none hK⟩ rfl rfl hl.1 rfl (lv_room (Nat.le_of_ble_eq_true rfl)) dX2_adlerRolled_54 ⟨Nat.le_of_ble_eq_true rfl, Nat.le_of_ble_eq_true rfl⟩) (fun r_54 e_54 => ?_)
      subst e_54
      refine lv_i2l (v := (cs_ur a 16).toInt64) hx hb dX2_adlerRolled_57 rfl ?_
      refine lv_iload_n hx hb dX2_adlerRolled_58 rfl (lv_at hl 3 rfl) ?_
      refine lv_i2l (v := n.toInt64) hx hb dX2_adlerRolled_59 rfl ?_
      refine lv_iload_n hx hb dX2_adlerRolled_60 rfl (lv_at hl 4 rfl) ?_
      refine lv_i2l (v := o.toInt64) hx hb dX2_adlerRolled_61 rfl ?_
      refine lv_lmul hx hb dX2_adlerRolled_62 ?_
      refine lv_lsub hx hb dX2_adlerRolled_63 ?_
      refine lv_lload hx hb dX2_adlerRolled_64 (lv_at hl 0 rfl) ?_
      refine lv_ladd hx hb dX2_adlerRolled_66 ?_
      refine lv_lconst (v := 1) hx hb dX2_adlerRolled_67 (by decide) ?_
      refine lv_lsub hx hb dX2_adlerRolled_68 ?_
      refine lv_lstore (lv' := [(7, .long (((((cs_ur a 16).toInt64) - (n.toInt64 * o.toInt64)) + ((((a &&& 65535) + i) - o).toInt64)) - 1)), (5, .long ((((a &&& 65535) + i) - o).toInt64)), (0, .ref (bd 0)), (1, .int a), (2, .int n), (3, .int o), (4, .int i)]) hx hb dX2_adlerRolled_69 hl (by decide) rfl (fun ls hl => ?_)
      refine lv_lload hx hb dX2_adlerRolled_71 (lv_at hl 1 rfl) ?_
      refine lv_lload hx hb dX2_adlerRolled_73 (lv_at hl 0 rfl) ?_
      refine vp_callSi (W.runS (As := [.long ((((a &&& 65535) + i) - o).toInt64), .long (((((cs_ur a 16).toInt64) - (n.toInt64 * o.toInt64)) + ((((a &&& 65535) + i) - o).toInt64)) - 1)]) (rest := []) ⟨hx, hb, hml, hown, hts⟩ (k_X2_adlerOf l D S (cs_k1 (cs_ak a && decide (1 ≤ n) && cs_in o 0 255 && cs_in i 0 255)) bd cy  ((((a &&& 65535) + i) - o).toInt64) (((((cs_ur a 16).toInt64) - (n.toInt64 * o.toInt64)) + ((((a &&& 65535) + i) - o).toInt64)) - 1)) (va_cwS 2 hts gX2_adlerRolled_X2_adlerOf rfl rfl rfl (by decide +kernel) ⟨Nat.le_of_ble_eq_true rfl, Nat.le_of_ble_eq_true rfl⟩) ⟨cs_B.blind, cs_B.at hE cs_none hK⟩ rfl rfl hl.1 rfl (lv_room (Nat.le_of_ble_eq_true rfl)) dX2_adlerRolled_75 ⟨Nat.le_of_ble_eq_true rfl, Nat.le_of_ble_eq_true rfl⟩) (fun r_75 e_75 => ?_)
      subst e_75
      exact W.iret (v := cs_ad ((((a &&& 65535) + i) - o).toInt64) (((((cs_ur a 16).toInt64) - (n.toInt64 * o.toInt64)) + ((((a &&& 65535) + i) - o).toInt64)) - 1)) hx hb hr (fun t ht _ => ⟨cs_ad ((((a &&& 65535) + i) - o).toInt64) (((((cs_ur a 16).toInt64) - (n.toInt64 * o.toInt64)) + ((((a &&& 65535) + i) - o).toInt64)) - 1), (), rfl, fun _ => rfl, by rw [ht]; exact hP, by exact hD, hS9.F ht⟩) hS9.2.2 dX2_adlerRolled_78
    · refine lv_iconst (v := 0) hx hb dX2_adlerRolled_39 (by decide) ?_
      exact W.iret (v := 0) hx hb hr (fun t ht _ => ⟨0, (), rfl, fun z => absurd (cs_k1_0.mp z) (by rw [c_36]; decide), by rw [ht]; exact hP, by exact hD, hS9.F ht⟩) hS9.2.2 dX2_adlerRolled_40
  refine lv_iload_n hx hb dX2_adlerRolled_1 rfl (lv_at hl 1 rfl) ?_
  refine vp_callSi (W.runS (As := [.int a]) (rest := [.ref (bd 0)]) ⟨hx, hb, hml, hown, hts⟩ (k_X2_isAdler l D S th bd cy  a) (va_cwS 1 hts gX2_adlerRolled_X2_isAdler rfl rfl rfl (by decide +kernel) ⟨Nat.le_of_ble_eq_true rfl, Nat.le_of_ble_eq_true rfl⟩) ⟨cs_B.blind, cs_B.at hE cs_none hK⟩ rfl rfl hl.1 rfl (lv_room (Nat.le_of_ble_eq_true rfl)) dX2_adlerRolled_2 ⟨Nat.le_of_ble_eq_true rfl, Nat.le_of_ble_eq_true rfl⟩) (fun r_2 e_2 => ?_)
  subst e_2
  refine cs_ifeq (tgt := 32) hx hb dX2_adlerRolled_5 (by decide) (fun c_5 => ?_) (fun c_5 => ?_)
  · refine lv_iconst (v := 0) hx hb dX2_adlerRolled_32 (by decide) ?_
    refine cs_top (y := cs_z (cs_ak a && decide (1 ≤ n) && cs_in o 0 255 && cs_in i 0 255)) (by simp [cs_z, cs_nS, c_5]) ?_
    exact j33
  · refine lv_iload_n hx hb dX2_adlerRolled_8 rfl (lv_at hl 2 rfl) ?_
    refine lv_iconst (v := 1) hx hb dX2_adlerRolled_9 (by decide) ?_
    refine lv_icmp_lt (tgt := 32) hx hb dX2_adlerRolled_10 (by decide) (fun c_10 => ?_) (fun c_10 => ?_)
    · refine lv_iconst (v := 0) hx hb dX2_adlerRolled_32 (by decide) ?_
      refine cs_top (y := cs_z (cs_ak a && decide (1 ≤ n) && cs_in o 0 255 && cs_in i 0 255)) (by simp [cs_z, cs_nS, c_5, decide_eq_false (Int32.not_le.mpr c_10)]) ?_
      exact j33
    · refine lv_iload_n hx hb dX2_adlerRolled_13 rfl (lv_at hl 3 rfl) ?_
      refine vp_callSi (W.runS (As := [.int o]) (rest := [.ref (bd 0)]) ⟨hx, hb, hml, hown, hts⟩ (k_X2_isByte l D S th bd cy  o) (va_cwS 1 hts gX2_adlerRolled_X2_isByte rfl rfl rfl (by decide +kernel) ⟨Nat.le_of_ble_eq_true rfl, Nat.le_of_ble_eq_true rfl⟩) ⟨cs_B.blind, cs_B.at hE cs_none hK⟩ rfl rfl hl.1 rfl (lv_room (Nat.le_of_ble_eq_true rfl)) dX2_adlerRolled_14 ⟨Nat.le_of_ble_eq_true rfl, Nat.le_of_ble_eq_true rfl⟩) (fun r_14 e_14 => ?_)
      subst e_14
      refine cs_ifeq (tgt := 32) hx hb dX2_adlerRolled_17 (by decide) (fun c_17 => ?_) (fun c_17 => ?_)
      · refine lv_iconst (v := 0) hx hb dX2_adlerRolled_32 (by decide) ?_
        refine cs_top (y := cs_z (cs_ak a && decide (1 ≤ n) && cs_in o 0 255 && cs_in i 0 255)) (by simp [cs_z, cs_nS, c_5, decide_eq_true (Int32.not_lt.mp c_10), c_17]) ?_
        exact j33
      · refine lv_iload hx hb dX2_adlerRolled_20 (lv_at hl 4 rfl) ?_
        refine vp_callSi (W.runS (As := [.int i]) (rest := [.ref (bd 0)]) ⟨hx, hb, hml, hown, hts⟩ (k_X2_isByte l D S th bd cy  i) (va_cwS 1 hts gX2_adlerRolled_X2_isByte rfl rfl rfl (by decide +kernel) ⟨Nat.le_of_ble_eq_true rfl, Nat.le_of_ble_eq_true rfl⟩) ⟨cs_B.blind, cs_B.at hE cs_none hK⟩ rfl rfl hl.1 rfl (lv_room (Nat.le_of_ble_eq_true rfl)) dX2_adlerRolled_22 ⟨Nat.le_of_ble_eq_true rfl, Nat.le_of_ble_eq_true rfl⟩) (fun r_22 e_22 => ?_)
        subst e_22
        refine cs_ifeq (tgt := 32) hx hb dX2_adlerRolled_25 (by decide) (fun c_25 => ?_) (fun c_25 => ?_)
        · refine lv_iconst (v := 0) hx hb dX2_adlerRolled_32 (by decide) ?_
          refine cs_top (y := cs_z (cs_ak a && decide (1 ≤ n) && cs_in o 0 255 && cs_in i 0 255)) (by simp [cs_z, cs_nS, c_5, decide_eq_true (Int32.not_lt.mp c_10), c_17, c_25]) ?_
          exact j33
        · refine lv_iconst (v := 1) hx hb dX2_adlerRolled_28 (by decide) ?_
          refine lv_goto (tgt := 33) hx hb dX2_adlerRolled_29 (by decide) ?_
          refine cs_top (y := cs_z (cs_ak a && decide (1 ≤ n) && cs_in o 0 255 && cs_in i 0 255)) (by simp [cs_z, cs_nS, c_5, decide_eq_true (Int32.not_lt.mp c_10), c_17, c_25]) ?_
          exact j33
