theorem cs_new0 (c : ClassId) (N : Nat) : vp_cell c (N, .inl (fun _ => nI 0)) = arrV c N (fun _ => defaultValue .int) := rfl
theorem cs_new00 (c : ClassId) (N : Nat) : vp_cell c (N, .inl (fun _ => 0)) = arrV c N (fun _ => defaultValue .int) := rfl
theorem cs_newB (c : ClassId) (N : Nat) : vp_cell c (N, .inl (fun _ => cs_z false)) = arrV c N (fun _ => defaultValue .boolean) := rfl
theorem cs_inner0 (c : ClassId) (N : Nat) : Jvm.Free.Multi.innerC c N (defaultValue .int) = vp_cell c (N, .inl (fun _ => nI 0)) := arrV_new c N _
def cs_b8 (a q1 q2 q3 q4 q5 q6 q7 q8 : Nat) : Nat → Nat
  | 0 => a
  | 1 => q1
  | 2 => q2
  | 3 => q3
  | 4 => q4
  | 5 => q5
  | 6 => q6
  | 7 => q7
  | _ => q8
set_option maxHeartbeats 4000000 in
set_option maxRecDepth 100000 in
theorem k_X0_init (l : Launch) (D : va_G) (cy : Nat → ClassId) (a sz : Nat) (wd : Nat) (hw1 : 1 ≤ wd) (hw2 : wd ≤ 32) (po ini : Int32) (ri ro : Bool) (xo : Int32) : Met l yX0_init wsX0_init ({ frames := 1, cells := 0, slots := 0, locals := 12 }) (va_Pc [.ref a, .int (nI wd), .int po, .int ini, .int (cs_z ri), .int (cs_z ro), .int xo] (cs_Bw D (cs_tys cy) [(a, .inr (0, [.int 0, .int 0, .int 0, .int 0, .int 0, .int 0, .int 0, .int 0]))] sz)) (cs_Qv D [(a, .inr (0, [.int 0, .int 0, .int 0, .int 0, .int 0, .int 0, .int 0, .int 0]))] (fun (_ : Unit) => [(a, .inr (0, cs_F wd po ini ri ro xo))]) (fun _ => True)) 0 0 (va_A [(a, .inr (0, [.int 0, .int 0, .int 0, .int 0, .int 0, .int 0, .int 0, .int 0]))] sz) := by
  refine Met.ofW (cc := cX0_init) (maxL := 7) (ret := none) (by decide) rfl ?_
  intro pg e s m args below meth c s₁ B hml hv
  obtain ⟨rfl, hsz, hE, hP, hK, hD0⟩ := hv
  subst hsz
  have hD := hD0.self (sz := s.heap.size)
  have hA : ∀ q : Nat, s.heap.size ≤ q → va_A [(a, .inr (0, [.int 0, .int 0, .int 0, .int 0, .int 0, .int 0, .int 0, .int 0]))] s.heap.size q := fun q h => Or.inr h
  have hS9 : va_S (va_A [(a, .inr (0, [.int 0, .int 0, .int 0, .int 0, .int 0, .int 0, .int 0, .int 0]))] s.heap.size) s.heap s.heap [] := va_S.rf
  have hx := B.exec
  have hb := B.bytes
  have hr := B.returns
  have hts := atoms_spec (ws := wsX0_init) B.pre
  have hown : s.vm.findClass RX0 = some m.cls := findClass_of_methodNamed B.named
  have hlocks := B.notSynchronized
  have hin : meth.name = "<init>" := (name_of_methodNamed B.named B.method).1
  have hl := lv_entry ([.ref a, .int (nI wd), .int po, .int ini, .int (cs_z ri), .int (cs_z ro), .int xo]) (n := 7) (Nat.le_of_ble_eq_true rfl)
  rw [lg_entry_eq]
  generalize (lg_sl ([.ref a, .int (nI wd), .int po, .int ini, .int (cs_z ri), .int (cs_z ro), .int xo]) ++ List.replicate (7 - (lg_sl ([.ref a, .int (nI wd), .int po, .int ini, .int (cs_z ri), .int (cs_z ro), .int xo])).length) Slot.unset).toArray = ls at hl ⊢
  have hl : lv_has ls 7 [(0, .ref a), (1, .int (nI wd)), (2, .int po), (3, .int ini), (4, .int (cs_z ri)), (5, .int (cs_z ro)), (6, .int xo)] := hl
  generalize hAe : va_A [(a, .inr (0, [.int 0, .int 0, .int 0, .int 0, .int 0, .int 0, .int 0, .int 0]))] s.heap.size = A9 at hD hA hS9 ⊢
  have hinX0 : ∀ w ∈ wsX00, w ∈ wsX0_init := fun _ h => by unfold wsX0_init; exact List.mem_cons_of_mem _ (List.mem_append_right _ (h))
  refine lv_aload_n hx hb dX0_init_0 rfl (lv_at hl 0 rfl) ?_
  refine W.objInit hx hb hown (hts (.methodLink RX0 3 objectInit) (by decide +kernel)) (hts (.instanceMethod objectInit) (by decide +kernel)) (hts _ (List.mem_cons_of_mem _ (List.mem_append_left _ (List.mem_of_getElem? (i := 2) rfl)))) rfl (by rw [hml]; exact hl.1) rfl dX0_init_1 (Nat.le_of_ble_eq_true rfl) (Nat.le_of_ble_eq_true rfl) ?_
  refine W.eq (g2 := F0 m 4 ls []) rfl ?_
  refine lv_aload_n hx hb dX0_init_4 rfl (lv_at hl 0 rfl) ?_
  refine lv_iload_n hx hb dX0_init_5 rfl (lv_at hl 1 rfl) ?_
  refine va_putF (D := D) (ci := 0) (v := .int (nI wd)) (ty := .int) (C := RX0) (T := TX0) (N := 8) hx hb hts hinX0 tyX0 tyX0_ok nmX0 hown hK hP hD hS9 0 rfl rfl 0 (by decide) (hts (.fieldLink RX0 9 "ChecksumLab$Model" "width" "I") (by decide +kernel)) (fun _ h9 => h9) rfl hin rfl (by decide +kernel) rfl rfl (Nat.le_of_ble_eq_true rfl) dX0_init_6 (fun H locs hP hD hS9 => ?_)
  have hP : va_P D vwCl [(a, .inr (0, [.int (nI wd), .int 0, .int 0, .int 0, .int 0, .int 0, .int 0, .int 0]))] H := hP
  have hD : va_D A9 [(a, .inr (0, [.int (nI wd), .int 0, .int 0, .int 0, .int 0, .int 0, .int 0, .int 0]))] := hD
  refine lv_aload_n hx hb dX0_init_9 rfl (lv_at hl 0 rfl) ?_
  refine lv_iload_n hx hb dX0_init_10 rfl (lv_at hl 2 rfl) ?_
  refine va_putF (D := D) (ci := 0) (v := .int po) (ty := .int) (C := RX0) (T := TX0) (N := 8) hx hb hts hinX0 tyX0 tyX0_ok nmX0 hown hK hP hD hS9 0 rfl rfl 1 (by decide) (hts (.fieldLink RX0 15 "ChecksumLab$Model" "poly" "I") (by decide +kernel)) (fun _ h9 => h9) rfl hin rfl (by decide +kernel) rfl rfl (Nat.le_of_ble_eq_true rfl) dX0_init_11 (fun H locs hP hD hS9 => ?_)
  have hP : va_P D vwCl [(a, .inr (0, [.int (nI wd), .int po, .int 0, .int 0, .int 0, .int 0, .int 0, .int 0]))] H := hP
  have hD : va_D A9 [(a, .inr (0, [.int (nI wd), .int po, .int 0, .int 0, .int 0, .int 0, .int 0, .int 0]))] := hD
  refine lv_aload_n hx hb dX0_init_14 rfl (lv_at hl 0 rfl) ?_
  refine lv_iload_n hx hb dX0_init_15 rfl (lv_at hl 3 rfl) ?_
  refine va_putF (D := D) (ci := 0) (v := .int ini) (ty := .int) (C := RX0) (T := TX0) (N := 8) hx hb hts hinX0 tyX0 tyX0_ok nmX0 hown hK hP hD hS9 0 rfl rfl 2 (by decide) (hts (.fieldLink RX0 18 "ChecksumLab$Model" "init" "I") (by decide +kernel)) (fun _ h9 => h9) rfl hin rfl (by decide +kernel) rfl rfl (Nat.le_of_ble_eq_true rfl) dX0_init_16 (fun H locs hP hD hS9 => ?_)
  have hP : va_P D vwCl [(a, .inr (0, [.int (nI wd), .int po, .int ini, .int 0, .int 0, .int 0, .int 0, .int 0]))] H := hP
  have hD : va_D A9 [(a, .inr (0, [.int (nI wd), .int po, .int ini, .int 0, .int 0, .int 0, .int 0, .int 0]))] := hD
  refine lv_aload_n hx hb dX0_init_19 rfl (lv_at hl 0 rfl) ?_
  refine lv_iload hx hb dX0_init_20 (lv_at hl 4 rfl) ?_
  refine va_putF (D := D) (ci := 0) (v := .int (cs_z ri)) (ty := .boolean) (C := RX0) (T := TX0) (N := 8) hx hb hts hinX0 tyX0 tyX0_ok nmX0 hown hK hP hD hS9 0 rfl rfl 3 (by decide) (hts (.fieldLink RX0 21 "ChecksumLab$Model" "reflectIn" "Z") (by decide +kernel)) (fun _ h9 => h9) rfl hin rfl (by decide +kernel) (cs_z_nar ri) (cs_z_fit ri) (Nat.le_of_ble_eq_true rfl) dX0_init_22 (fun H locs hP hD hS9 => ?_)
  have hP : va_P D vwCl [(a, .inr (0, [.int (nI wd), .int po, .int ini, .int (cs_z ri), .int 0, .int 0, .int 0, .int 0]))] H := hP
  have hD : va_D A9 [(a, .inr (0, [.int (nI wd), .int po, .int ini, .int (cs_z ri), .int 0, .int 0, .int 0, .int 0]))] := hD
  refine lv_aload_n hx hb dX0_init_25 rfl (lv_at hl 0 rfl) ?_
  refine lv_iload hx hb dX0_init_26 (lv_at hl 5 rfl) ?_
  refine va_putF (D := D) (ci := 0) (v := .int (cs_z ro)) (ty := .boolean) (C := RX0) (T := TX0) (N := 8) hx hb hts hinX0 tyX0 tyX0_ok nmX0 hown hK hP hD hS9 0 rfl rfl 4 (by decide) (hts (.fieldLink RX0 25 "ChecksumLab$Model" "reflectOut" "Z") (by decide +kernel)) (fun _ h9 => h9) rfl hin rfl (by decide +kernel) (cs_z_nar ro) (cs_z_fit ro) (Nat.le_of_ble_eq_true rfl) dX0_init_28 (fun H locs hP hD hS9 => ?_)
  have hP : va_P D vwCl [(a, .inr (0, [.int (nI wd), .int po, .int ini, .int (cs_z ri), .int (cs_z ro), .int 0, .int 0, .int 0]))] H := hP
  have hD : va_D A9 [(a, .inr (0, [.int (nI wd), .int po, .int ini, .int (cs_z ri), .int (cs_z ro), .int 0, .int 0, .int 0]))] := hD
  refine lv_aload_n hx hb dX0_init_31 rfl (lv_at hl 0 rfl) ?_
  refine lv_iload hx hb dX0_init_32 (lv_at hl 6 rfl) ?_
  refine va_putF (D := D) (ci := 0) (v := .int xo) (ty := .int) (C := RX0) (T := TX0) (N := 8) hx hb hts hinX0 tyX0 tyX0_ok nmX0 hown hK hP hD hS9 0 rfl rfl 5 (by decide) (hts (.fieldLink RX0 28 "ChecksumLab$Model" "xorOut" "I") (by decide +kernel)) (fun _ h9 => h9) rfl hin rfl (by decide +kernel) rfl rfl (Nat.le_of_ble_eq_true rfl) dX0_init_34 (fun H locs hP hD hS9 => ?_)
  have hP : va_P D vwCl [(a, .inr (0, [.int (nI wd), .int po, .int ini, .int (cs_z ri), .int (cs_z ro), .int xo, .int 0, .int 0]))] H := hP
  have hD : va_D A9 [(a, .inr (0, [.int (nI wd), .int po, .int ini, .int (cs_z ri), .int (cs_z ro), .int xo, .int 0, .int 0]))] := hD
  refine lv_aload_n hx hb dX0_init_37 rfl (lv_at hl 0 rfl) ?_
  refine lv_iconst (v := (-1)) hx hb dX0_init_38 (by decide) ?_
  refine lv_bipush (v := 32) hx hb dX0_init_39 (by decide) ?_
  refine lv_iload_n hx hb dX0_init_41 rfl (lv_at hl 1 rfl) ?_
  refine lv_isub hx hb dX0_init_42 ?_
  refine lv_iushr (v := cs_ur (-1) (32 - (nI wd))) hx hb dX0_init_43 rfl ?_
  refine cs_top (y := cs_mk wd) (cs_mkI wd hw2 hw1) ?_
  refine va_putF (D := D) (ci := 0) (v := .int (cs_mk wd)) (ty := .int) (C := RX0) (T := TX0) (N := 8) hx hb hts hinX0 tyX0 tyX0_ok nmX0 hown hK hP hD hS9 0 rfl rfl 6 (by decide) (hts (.fieldLink RX0 31 "ChecksumLab$Model" "mask" "I") (by decide +kernel)) (fun _ h9 => h9) rfl hin rfl (by decide +kernel) rfl rfl (Nat.le_of_ble_eq_true rfl) dX0_init_44 (fun H locs hP hD hS9 => ?_)
  have hP : va_P D vwCl [(a, .inr (0, [.int (nI wd), .int po, .int ini, .int (cs_z ri), .int (cs_z ro), .int xo, .int (cs_mk wd), .int 0]))] H := hP
  have hD : va_D A9 [(a, .inr (0, [.int (nI wd), .int po, .int ini, .int (cs_z ri), .int (cs_z ro), .int xo, .int (cs_mk wd), .int 0]))] := hD
  refine lv_aload_n hx hb dX0_init_47 rfl (lv_at hl 0 rfl) ?_
  refine lv_iconst (v := 1) hx hb dX0_init_48 (by decide) ?_
  refine lv_iload_n hx hb dX0_init_49 rfl (lv_at hl 1 rfl) ?_
  refine lv_iconst (v := 1) hx hb dX0_init_50 (by decide) ?_
  refine lv_isub hx hb dX0_init_51 ?_
  refine lv_ishl hx hb dX0_init_52 ?_
  refine cs_top (y := cs_hb wd) (cs_hbI wd hw2 hw1) ?_
  refine va_putF (D := D) (ci := 0) (v := .int (cs_hb wd)) (ty := .int) (C := RX0) (T := TX0) (N := 8) hx hb hts hinX0 tyX0 tyX0_ok nmX0 hown hK hP hD hS9 0 rfl rfl 7 (by decide) (hts (.fieldLink RX0 34 "ChecksumLab$Model" "highest" "I") (by decide +kernel)) (fun _ h9 => h9) rfl hin rfl (by decide +kernel) rfl rfl (Nat.le_of_ble_eq_true rfl) dX0_init_53 (fun H locs hP hD hS9 => ?_)
  have hP : va_P D vwCl [(a, .inr (0, [.int (nI wd), .int po, .int ini, .int (cs_z ri), .int (cs_z ro), .int xo, .int (cs_mk wd), .int (cs_hb wd)]))] H := hP
  have hD : va_D A9 [(a, .inr (0, [.int (nI wd), .int po, .int ini, .int (cs_z ri), .int (cs_z ro), .int xo, .int (cs_mk wd), .int (cs_hb wd)]))] := hD
  subst hAe
  exact W.vret hx hb hr (fun t ht _ => ⟨(), rfl, trivial, by rw [ht]; exact hP, by exact hD, hS9.F ht⟩) hS9.2.2 dX0_init_56
set_option maxHeartbeats 4000000 in
set_option maxRecDepth 100000 in
theorem k_X1_init (l : Launch) (D : va_G) (cy : Nat → ClassId) (a sz : Nat) (ms : Nat) (hms : 1038 ≤ ms)  : Met l yX1_init wsX1_init ({ frames := 1, cells := 7, slots := ms, locals := 12 }) (va_Pc [.ref a] (cs_Bo D (cs_tys cy) [(a, .inr (1, [.null, .int 0, .null, .null]))] sz)) (cs_Qv D [(a, .inr (1, [.null, .int 0, .null, .null]))] (fun (ad : Nat → Nat) => cs_L cs_0 ad cy) (fun ad => ad 0 = a)) 7 ms (va_A [(a, .inr (1, [.null, .int 0, .null, .null]))] sz) := by
  refine Met.ofW (cc := cX1_init) (maxL := 1) (ret := none) (by decide) rfl ?_
  intro pg e s m args below meth c s₁ B hml hv
  obtain ⟨rfl, hO, hsz, hE, hP, hK, hD0⟩ := hv
  subst hsz
  have hD := hD0.self (sz := s.heap.size)
  have hA : ∀ q : Nat, s.heap.size ≤ q → va_A [(a, .inr (1, [.null, .int 0, .null, .null]))] s.heap.size q := fun q h => Or.inr h
  have hS9 : va_S (va_A [(a, .inr (1, [.null, .int 0, .null, .null]))] s.heap.size) s.heap s.heap [] := va_S.rf
  have hx := B.exec
  have hb := B.bytes
  have hr := B.returns
  have hts := atoms_spec (ws := wsX1_init) B.pre
  have hown : s.vm.findClass RX1 = some m.cls := findClass_of_methodNamed B.named
  have hlocks := B.notSynchronized
  have hin : meth.name = "<init>" := (name_of_methodNamed B.named B.method).1
  have hl := lv_entry ([.ref a]) (n := 1) (Nat.le_of_ble_eq_true rfl)
  rw [lg_entry_eq]
  generalize (lg_sl ([.ref a]) ++ List.replicate (1 - (lg_sl ([.ref a])).length) Slot.unset).toArray = ls at hl ⊢
  have hl : lv_has ls 1 [(0, .ref a)] := hl
  generalize hAe : va_A [(a, .inr (1, [.null, .int 0, .null, .null]))] s.heap.size = A9 at hD hA hS9 ⊢
  have hinX1 : ∀ w ∈ wsX10, w ∈ wsX1_init := fun _ h => by unfold wsX1_init; exact List.mem_cons_of_mem _ (List.mem_append_right _ (h))
  refine lv_aload_n hx hb dX1_init_0 rfl (lv_at hl 0 rfl) ?_
  refine W.objInit hx hb hown (hts (.methodLink RX1 1 objectInit) (by decide +kernel)) (hts (.instanceMethod objectInit) (by decide +kernel)) (hts _ (List.mem_cons_of_mem _ (List.mem_append_left _ (List.mem_of_getElem? (i := 2) rfl)))) rfl (by rw [hml]; exact hl.1) rfl dX1_init_1 (Nat.le_of_ble_eq_true rfl) (Nat.le_of_ble_eq_true rfl) ?_
  refine W.eq (g2 := F0 m 4 ls []) rfl ?_
  refine lv_aload_n hx hb dX1_init_4 rfl (lv_at hl 0 rfl) ?_
  refine lv_bipush (v := 6) hx hb dX1_init_5 (by decide) ?_
  refine va_newq (C := RX0) (N' := 6) hx hb hown (hts (.classLink RX1 9 RX0) (by decide +kernel)) hO.1 hK hP hD hS9 hA (by decide) (by decide) (by decide) (Nat.le_of_ble_eq_true rfl) (by show 0 + 6 ≤ ms; omega) dX1_init_7 (fun q1 cA H hK1 hP hD hS9 => ?_)
  obtain ⟨z1, hz1⟩ : ∃ z : Nat, z = 0 + 6 := ⟨_, rfl⟩
  refine W.widen (k := 1) (n := z1) (Nat.le_of_ble_eq_true rfl) (by omega) ?_
  have eA : cA = cy 3 := cs_RAu (hK1.2 5 _ rfl).2 (hK.2 3 _ rfl).2
  subst eA
  clear hK1
  have hP : va_P D vwCl [(a, .inr (1, [.null, .int 0, .null, .null])), (q1, .inl (cy 3, 6, .inr (.inr (.inr (.inr (fun _ => none))))))] H := hP
  have hD : va_D A9 [(a, .inr (1, [.null, .int 0, .null, .null])), (q1, .inl (cy 3, 6, .inr (.inr (.inr (.inr (fun _ => none))))))] := hD
  refine va_putF (D := D) (ci := 1) (v := .ref q1) (ty := .array (.object "ChecksumLab$Model")) (C := RX1) (T := TX1) (N := 4) hx hb hts hinX1 tyX1 tyX1_ok nmX1 hown hK hP hD hS9 0 rfl rfl 0 (by decide) (hts (.fieldLink RX1 11 "ChecksumLab" "defined" "[LChecksumLab$Model;") (by decide +kernel)) (fun _ h9 => h9) rfl hin rfl (by decide +kernel) rfl rfl (Nat.le_of_ble_eq_true rfl) dX1_init_10 (fun H locs hP hD hS9 => ?_)
  have hP : va_P D vwCl [(a, .inr (1, [.ref q1, .int 0, .null, .null])), (q1, .inl (cy 3, 6, .inr (.inr (.inr (.inr (fun _ => none))))))] H := hP
  have hD : va_D A9 [(a, .inr (1, [.ref q1, .int 0, .null, .null])), (q1, .inl (cy 3, 6, .inr (.inr (.inr (.inr (fun _ => none))))))] := hD
  refine lv_aload_n hx hb dX1_init_13 rfl (lv_at hl 0 rfl) ?_
  refine lv_iconst (v := 0) hx hb dX1_init_14 (by decide) ?_
  refine va_put (D := D) (ci := 1) (v := .int 0) (ty := .int) (C := RX1) (T := TX1) (N := 4) hx hb hts hinX1 tyX1 tyX1_ok nmX1 hown hK hP hD hS9 0 rfl rfl 1 (by decide) (hts (.fieldLink RX1 15 "ChecksumLab" "definedCount" "I") (by decide +kernel)) (fun _ h9 => h9) rfl (by decide +kernel) rfl rfl (Nat.le_of_ble_eq_true rfl) dX1_init_15 (fun H locs hP hD hS9 => ?_)
  have hP : va_P D vwCl [(a, .inr (1, [.ref q1, .int 0, .null, .null])), (q1, .inl (cy 3, 6, .inr (.inr (.inr (.inr (fun _ => none))))))] H := hP
  have hD : va_D A9 [(a, .inr (1, [.ref q1, .int 0, .null, .null])), (q1, .inl (cy 3, 6, .inr (.inr (.inr (.inr (fun _ => none))))))] := hD
  refine lv_aload_n hx hb dX1_init_18 rfl (lv_at hl 0 rfl) ?_
  refine lv_iconst (v := 4) hx hb dX1_init_19 (by decide) ?_
  refine lv_sipush (v := 256) hx hb dX1_init_20 (by decide) ?_
  refine va_mna (X := [(a, .inr (1, [.ref q1, .int 0, .null, .null])), (q1, .inl (cy 3, 6, .inr (.inr (.inr (.inr (fun _ => none))))))]) (L := []) (f := fun _ => .inl (cy 0, 256, .inl (fun _ => nI 0))) (ty := .int) (cy := cy 0) (N' := 4) (K' := 256) (z := (256, .inl (fun _ => nI 0))) hx hb hown (hts (.classLink RX1 19 "[[I") (by decide +kernel)) hO.2 (hts (.arrayClass .int) (by decide +kernel)) (hK.2 0 _ rfl).2 hK hP hD hS9 hA (by decide) (by decide) (by decide) (by decide) (by decide) (by decide) (by decide) rfl rfl (Nat.le_of_ble_eq_true rfl) (by show z1 + (4 + 4 * 256) ≤ ms; omega) (fun c9 => cs_inner0 c9 256) dX1_init_23 (fun q2 r cA H _ _ hK1 hP hD hS9 => ?_)
  obtain ⟨z2, hz2⟩ : ∃ z : Nat, z = z1 + 4 + 4 * 256 := ⟨_, rfl⟩
  refine W.widen (k := 6) (n := z2) (Nat.le_of_ble_eq_true rfl) (by omega) ?_
  have eA : cA = cy 4 := cs_RAu (hK1.2 5 _ rfl).2 (hK.2 4 _ rfl).2
  subst eA
  clear hK1
  rw [cs_pl4] at hP hD
  have hP : va_P D vwCl [(a, .inr (1, [.ref q1, .int 0, .null, .null])), (q1, .inl (cy 3, 6, .inr (.inr (.inr (.inr (fun _ => none)))))), (q2, .inl (cy 4, 4, .inr (.inr (.inr (.inr (fun i => if i < 4 then some (r i) else none)))))), ((r 0), .inl (cy 0, 256, .inl (fun _ => nI 0))), ((r 1), .inl (cy 0, 256, .inl (fun _ => nI 0))), ((r 2), .inl (cy 0, 256, .inl (fun _ => nI 0))), ((r 3), .inl (cy 0, 256, .inl (fun _ => nI 0)))] H := hP
  have hD : va_D A9 [(a, .inr (1, [.ref q1, .int 0, .null, .null])), (q1, .inl (cy 3, 6, .inr (.inr (.inr (.inr (fun _ => none)))))), (q2, .inl (cy 4, 4, .inr (.inr (.inr (.inr (fun i => if i < 4 then some (r i) else none)))))), ((r 0), .inl (cy 0, 256, .inl (fun _ => nI 0))), ((r 1), .inl (cy 0, 256, .inl (fun _ => nI 0))), ((r 2), .inl (cy 0, 256, .inl (fun _ => nI 0))), ((r 3), .inl (cy 0, 256, .inl (fun _ => nI 0)))] := hD
  refine va_putF (D := D) (ci := 1) (v := .ref q2) (ty := .array (.array .int)) (C := RX1) (T := TX1) (N := 4) hx hb hts hinX1 tyX1 tyX1_ok nmX1 hown hK hP hD hS9 0 rfl rfl 2 (by decide) (hts (.fieldLink RX1 21 "ChecksumLab" "rows" "[[I") (by decide +kernel)) (fun _ h9 => h9) rfl hin rfl (by decide +kernel) rfl rfl (Nat.le_of_ble_eq_true rfl) dX1_init_27 (fun H locs hP hD hS9 => ?_)
  have hP : va_P D vwCl [(a, .inr (1, [.ref q1, .int 0, .ref q2, .null])), (q1, .inl (cy 3, 6, .inr (.inr (.inr (.inr (fun _ => none)))))), (q2, .inl (cy 4, 4, .inr (.inr (.inr (.inr (fun i => if i < 4 then some (r i) else none)))))), ((r 0), .inl (cy 0, 256, .inl (fun _ => nI 0))), ((r 1), .inl (cy 0, 256, .inl (fun _ => nI 0))), ((r 2), .inl (cy 0, 256, .inl (fun _ => nI 0))), ((r 3), .inl (cy 0, 256, .inl (fun _ => nI 0)))] H := hP
  have hD : va_D A9 [(a, .inr (1, [.ref q1, .int 0, .ref q2, .null])), (q1, .inl (cy 3, 6, .inr (.inr (.inr (.inr (fun _ => none)))))), (q2, .inl (cy 4, 4, .inr (.inr (.inr (.inr (fun i => if i < 4 then some (r i) else none)))))), ((r 0), .inl (cy 0, 256, .inl (fun _ => nI 0))), ((r 1), .inl (cy 0, 256, .inl (fun _ => nI 0))), ((r 2), .inl (cy 0, 256, .inl (fun _ => nI 0))), ((r 3), .inl (cy 0, 256, .inl (fun _ => nI 0)))] := hD
  refine lv_aload_n hx hb dX1_init_30 rfl (lv_at hl 0 rfl) ?_
  refine lv_iconst (v := 4) hx hb dX1_init_31 (by decide) ?_
  refine va_newa (atype := .int) (ty := .int) (N' := 4) (a0 := (4, .inl (fun _ => nI 0))) hx hb (hts (.arrayClass .int) (by decide +kernel)) rfl hK hP hD hS9 hA (fun c9 => cs_new0 c9 4) (by decide) (by decide) (by decide) (Nat.le_of_ble_eq_true rfl) (by show z2 + 4 ≤ ms; omega) dX1_init_32 (fun q3 cA H hK1 hP hD hS9 => ?_)
  obtain ⟨z3, hz3⟩ : ∃ z : Nat, z = z2 + 4 := ⟨_, rfl⟩
  refine W.widen (k := 7) (n := z3) (Nat.le_of_ble_eq_true rfl) (by omega) ?_
  have eA : cA = cy 0 := cs_RAu (hK1.2 5 _ rfl).2 (hK.2 0 _ rfl).2
  subst eA
  clear hK1
  have hP : va_P D vwCl [(a, .inr (1, [.ref q1, .int 0, .ref q2, .null])), (q1, .inl (cy 3, 6, .inr (.inr (.inr (.inr (fun _ => none)))))), (q2, .inl (cy 4, 4, .inr (.inr (.inr (.inr (fun i => if i < 4 then some (r i) else none)))))), ((r 0), .inl (cy 0, 256, .inl (fun _ => nI 0))), ((r 1), .inl (cy 0, 256, .inl (fun _ => nI 0))), ((r 2), .inl (cy 0, 256, .inl (fun _ => nI 0))), ((r 3), .inl (cy 0, 256, .inl (fun _ => nI 0))), (q3, .inl (cy 0, 4, .inl (fun _ => nI 0)))] H := hP
  have hD : va_D A9 [(a, .inr (1, [.ref q1, .int 0, .ref q2, .null])), (q1, .inl (cy 3, 6, .inr (.inr (.inr (.inr (fun _ => none)))))), (q2, .inl (cy 4, 4, .inr (.inr (.inr (.inr (fun i => if i < 4 then some (r i) else none)))))), ((r 0), .inl (cy 0, 256, .inl (fun _ => nI 0))), ((r 1), .inl (cy 0, 256, .inl (fun _ => nI 0))), ((r 2), .inl (cy 0, 256, .inl (fun _ => nI 0))), ((r 3), .inl (cy 0, 256, .inl (fun _ => nI 0))), (q3, .inl (cy 0, 4, .inl (fun _ => nI 0)))] := hD
  refine va_putF (D := D) (ci := 1) (v := .ref q3) (ty := .array .int) (C := RX1) (T := TX1) (N := 4) hx hb hts hinX1 tyX1 tyX1_ok nmX1 hown hK hP hD hS9 0 rfl rfl 3 (by decide) (hts (.fieldLink RX1 24 "ChecksumLab" "sizes" "[I") (by decide +kernel)) (fun _ h9 => h9) rfl hin rfl (by decide +kernel) rfl rfl (Nat.le_of_ble_eq_true rfl) dX1_init_34 (fun H locs hP hD hS9 => ?_)
  have hP : va_P D vwCl [(a, .inr (1, [.ref q1, .int 0, .ref q2, .ref q3])), (q1, .inl (cy 3, 6, .inr (.inr (.inr (.inr (fun _ => none)))))), (q2, .inl (cy 4, 4, .inr (.inr (.inr (.inr (fun i => if i < 4 then some (r i) else none)))))), ((r 0), .inl (cy 0, 256, .inl (fun _ => nI 0))), ((r 1), .inl (cy 0, 256, .inl (fun _ => nI 0))), ((r 2), .inl (cy 0, 256, .inl (fun _ => nI 0))), ((r 3), .inl (cy 0, 256, .inl (fun _ => nI 0))), (q3, .inl (cy 0, 4, .inl (fun _ => nI 0)))] H := hP
  have hD : va_D A9 [(a, .inr (1, [.ref q1, .int 0, .ref q2, .ref q3])), (q1, .inl (cy 3, 6, .inr (.inr (.inr (.inr (fun _ => none)))))), (q2, .inl (cy 4, 4, .inr (.inr (.inr (.inr (fun i => if i < 4 then some (r i) else none)))))), ((r 0), .inl (cy 0, 256, .inl (fun _ => nI 0))), ((r 1), .inl (cy 0, 256, .inl (fun _ => nI 0))), ((r 2), .inl (cy 0, 256, .inl (fun _ => nI 0))), ((r 3), .inl (cy 0, 256, .inl (fun _ => nI 0))), (q3, .inl (cy 0, 4, .inl (fun _ => nI 0)))] := hD
  have hP := hP.sub (ws' := cs_LW a q1 q2 q3 r cy (fun _ => none) (fun i => if i < 4 then some (r i) else none)) [0, 1, 2, 7, 3, 4, 5, 6] rfl
  have hD := hD.sub (ws' := cs_LW a q1 q2 q3 r cy (fun _ => none) (fun i => if i < 4 then some (r i) else none)) [0, 1, 2, 7, 3, 4, 5, 6] (by decide) rfl
  rw [← cs_LW_eq] at hP hD
  refine W.widen (k := 7) (n := ms) (Nat.le_of_ble_eq_true rfl) (by omega) ?_
  subst hAe
  exact W.vret hx hb hr (fun t ht _ => ⟨cs_ad0 a q1 q2 q3 r, rfl, rfl, by rw [ht]; exact hP, by exact hD, hS9.F ht⟩) hS9.2.2 dX1_init_37

