set_option maxHeartbeats 4000000 in
set_option maxRecDepth 100000 in
theorem k_L_check (l : Launch) (hlf : l.stackTraces = false) (D : va_G) (S : cs_St) (ad : Nat → Nat) (cy : Nat → ClassId) (o9 : Nat) (f : Nat → Int64) (sz : Nat) (hS : cs_ok S) (v : Int32) : Met l yL_check wsL_check ({ frames := 8, cells := 1, slots := 6, locals := 127 }) (va_Pc [.ref (ad 0), .int v, .ref o9] (cs_Bl D (cs_tys cy) (cs_O o9 f S ad cy) sz)) (cs_Qw D (cs_O o9 f S ad cy) (fun (f2 : Nat → Int64) => cs_O o9 f2 S ad cy) (fun r9 f2 => r9 = cs_k1 (cs_M S v) ∧ (cs_k1 (cs_M S v) = 0 → f2 0 = Int32.toInt64 (cs_vChk S v)))) 1 6 (va_A (cs_O o9 f S ad cy) sz) := by
  refine cs_ofWH (cc := cL_check) (maxL := 4) (ret := (some .int)) (by decide) rfl ?_
  intro pg e s m args below meth c s₁ B hml hv
  obtain ⟨rfl, hn, hsz, hE, hz9, hP, hK, hD0⟩ := hv
  subst hsz
  have hD := hD0.self (sz := s.heap.size)
  have hA : ∀ q : Nat, s.heap.size ≤ q → va_A (cs_O o9 f S ad cy) s.heap.size q := fun q h => Or.inr h
  have hS9 : va_S (va_A (cs_O o9 f S ad cy) s.heap.size) s.heap s.heap [] := va_S.rf
  have hx := B.exec
  have hb := B.bytes
  have hr := B.returns
  have hts := atoms_spec (ws := wsL_check) B.pre
  have hown : s.vm.findClass RL = some m.cls := findClass_of_methodNamed B.named
  have hlocks := B.notSynchronized
  have hT : c.exceptionTable.toList = tableOf [(0, 9, 12, 21)] := vx_table (x := yL_check) B (hts _ List.mem_cons_self)
  have hl := lv_entry ([.ref (ad 0), .int v, .ref o9]) (n := 4) (Nat.le_of_ble_eq_true rfl)
  rw [lg_entry_eq]
  generalize (lg_sl ([.ref (ad 0), .int v, .ref o9]) ++ List.replicate (4 - (lg_sl ([.ref (ad 0), .int v, .ref o9])).length) Slot.unset).toArray = ls at hl ⊢
  have hl : lv_has ls 4 [(0, .ref (ad 0)), (1, .int v), (2, .ref o9)] := hl
  have hPL : va_P D vwCl (cs_L S ad cy) s.heap := cs_PR (w1 := ([(o9, .inl (cy 2, 1, .inr (.inl f)))] : va_W)) hP
  have hDL : va_D (va_A (cs_O o9 f S ad cy) s.heap.size) (cs_L S ad cy) := cs_DR (w1 := ([(o9, .inl (cy 2, 1, .inr (.inl f)))] : va_W)) hD
  have hF : ∀ q, va_A (cs_L S ad cy) s.heap.size q → va_A (cs_O o9 f S ad cy) s.heap.size q := cs_inR (w1 := ([(o9, .inl (cy 2, 1, .inr (.inl f)))] : va_W)) hD hS9 hA
  refine lv_aload_n hx hb dL_check_0 rfl (lv_at hl 2 rfl) ?_
  refine lv_iconst (v := nI 0) hx hb dL_check_1 (by decide) ?_
  refine lv_aload_n hx hb dL_check_2 rfl (lv_at hl 0 rfl) ?_
  refine lv_iload_n hx hb dL_check_3 rfl (lv_at hl 1 rfl) ?_
  refine cs_xcalli (vx_runV (As := [.int v]) (rest := [.int (nI 0), .ref o9]) ⟨hx, hb, hml, hown, hts⟩ (k_X1_check l hlf D S ad cy hS v) (cwV 1 hts gL_check_X1_check rfl rfl rfl (by decide +kernel) ⟨(Nat.le_of_ble_eq_true rfl), (Nat.le_of_ble_eq_true rfl)⟩) ⟨cs_Bx.blind, va_recv hK hPL (ci := 1) (q0 := 0) rfl rfl, cs_Bx.at hE (hz9.narrow (fun q h => Or.inr h)) hPL hK⟩ rfl rfl hl.1 rfl (lv_room (Nat.le_of_ble_eq_true rfl)) dL_check_4 ⟨(Nat.le_of_ble_eq_true rfl), (Nat.le_of_ble_eq_true rfl)⟩) (fun E ce q7 H1 h1 h2 h3 h4 h5 h6 => ?_) (fun rr hk => ?_)
  · have hS9 : va_S (va_A (cs_O o9 f S ad cy) s.heap.size) s.heap H1 [] := cs_Sx h2 h3
    have hP := cs_keep hP h3
    rcases h1 with ⟨hk, rfl⟩ | ⟨hk, rfl⟩ | ⟨hk, rfl⟩
    · refine vx_catch (own := RL) (name := cs_IOB) hown (tableOf []) ⟨0, 9, 12, 21⟩ (tableOf []) hT (fun z hz => by cases hz) (by decide) (by decide) (hts (.classLink RL 21 cs_IOB) (by decide +kernel)) (va_Nw.use rfl hE.2.1.2.2.1) h4 h5 h6 ?_
      refine lv_astore_n (lv' := [(3, .ref q7), (0, .ref (ad 0)), (1, .int v), (2, .ref o9)]) hx hb dL_check_12 rfl hl (by decide) rfl (fun ls hl => ?_)
      refine lv_iconst (v := 1) hx hb dL_check_13 (by decide) ?_
      refine W.widen (k := 1) (n := 6) (Nat.le_of_ble_eq_true rfl) (Nat.le_of_ble_eq_true rfl) ?_
      exact W.iret (v := 1) hx hb hr (fun t ht _ => cs_wend (K := 1) 1 f ⟨hk.symm, fun h => absurd (hk.symm.trans h) (by decide)⟩ hP hD hS9 t ht) hS9.2.2 dL_check_14
    · exact absurd hk cs_k1n2
    · exact absurd hk cs_k1n3
  · obtain ⟨hk, rfl⟩ := hk
    refine lv_i2l (v := Int32.toInt64 (cs_vChk S v)) hx hb dL_check_7 rfl ?_
    refine cs_last (k := 0) hx hb hK hP hD hS9 0 2 cs_O0 rfl (by decide) (by decide) dL_check_8 (fun H locs hP hD hS9 => ?_)
    have hP : va_P D vwCl (cs_O o9 (vp_updL f 0 (Int32.toInt64 (cs_vChk S v))) S ad cy) H := hP
    have hD : va_D (va_A (cs_O o9 f S ad cy) s.heap.size) (cs_O o9 (vp_updL f 0 (Int32.toInt64 (cs_vChk S v))) S ad cy) := hD
    refine lv_goto (tgt := 15) hx hb dL_check_9 (by decide) ?_
    refine lv_iconst (v := 0) hx hb dL_check_15 (by decide) ?_
    refine W.widen (k := 1) (n := 6) (Nat.le_of_ble_eq_true rfl) (Nat.le_of_ble_eq_true rfl) ?_
    exact W.iret (v := 0) hx hb hr (fun t ht _ => cs_wend (K := 0) 0 (vp_updL f 0 (Int32.toInt64 (cs_vChk S v))) ⟨hk.symm, fun _ => cs_up0 (f := f) (x := Int32.toInt64 (cs_vChk S v))⟩ hP hD hS9 t ht) hS9.2.2 dL_check_16
