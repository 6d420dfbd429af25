theorem cs_PE {D : va_G} {w w' : va_W} {H : Heap} (e : w = w') (h : va_P D vwCl w H) : va_P D vwCl w' H := e ▸ h
theorem cs_DE {A : Nat → Prop} {w w' : va_W} (e : w = w') (h : va_D A w) : va_D A w' := e ▸ h
set_option maxHeartbeats 4000000 in
set_option maxRecDepth 100000 in
theorem k_X1_define (l : Launch) (hlf : l.stackTraces = false) (D : va_G) (S : cs_St) (ad : Nat → Nat) (cy : Nat → ClassId) (sz : Nat) (hS : cs_ok S) (v a b : Int32) (q9 t9 : Bool) (d : Int32) : cs_Xw l yX1_define wsX1_define ({ frames := 7, cells := 5, slots := 32, locals := 103 }) D (cs_tys cy) (cs_L S ad cy) sz [.ref (ad 0), .int v, .int a, .int b, .int (cs_z q9), .int (cs_z t9), .int d] (fun (ad2 : Nat → Nat) => cs_L (cs_sDef S v a b q9 t9 d) ad2 cy) (fun rr ad2 => (cs_kDef S v a b d = 0 ∧ rr = nI (cs_n S)) ∧ ad2 0 = ad 0) (cs_E (cs_kDef S v a b d) cs_IAE cs_ISE "") 5 32 := by
  refine vx_ofW (cc := cX1_define) (maxL := 8) (ret := (some .int)) (by decide) rfl ?_
  intro pg e s m args below meth c s₁ B hml hout hv
  obtain ⟨rfl, hsz, hE, hz9, hP, hK, hD0⟩ := hv
  subst hsz
  have hD := hD0.self (sz := s.heap.size)
  have hA : ∀ q : Nat, s.heap.size ≤ q → va_A (cs_L S ad cy) s.heap.size q := fun q h => Or.inr h
  have hS9 : va_S (va_A (cs_L S ad cy) s.heap.size) s.heap s.heap [] := va_S.rf
  have hz := hz9.narrow (B := fun q => s.heap.size ≤ q) (fun q h => Or.inr h)
  have hx := B.exec
  have hb := B.bytes
  have hr := B.returns
  have hts := atoms_spec (ws := wsX1_define) B.pre
  have hown : s.vm.findClass RX1 = some m.cls := findClass_of_methodNamed B.named
  have hlocks := B.notSynchronized
  have hl := lv_entry ([.ref (ad 0), .int v, .int a, .int b, .int (cs_z q9), .int (cs_z t9), .int d]) (n := 8) (Nat.le_of_ble_eq_true rfl)
  rw [lg_entry_eq]
  generalize (lg_sl ([.ref (ad 0), .int v, .int a, .int b, .int (cs_z q9), .int (cs_z t9), .int d]) ++ List.replicate (8 - (lg_sl ([.ref (ad 0), .int v, .int a, .int b, .int (cs_z q9), .int (cs_z t9), .int d])).length) Slot.unset).toArray = ls at hl ⊢
  have hl : lv_has ls 8 [(0, .ref (ad 0)), (1, .int v), (2, .int a), (3, .int b), (4, .int (cs_z q9)), (5, .int (cs_z t9)), (6, .int d)] := hl
  have hinX1 : ∀ w ∈ wsX10, w ∈ wsX1_define := fun _ h => by unfold wsX1_define; exact List.mem_cons_of_mem _ (List.mem_append_left _ (List.mem_append_left _ (List.mem_append_left _ (List.mem_append_right _ (h)))))
  have hinX0 : ∀ w ∈ wsX00, w ∈ wsX1_define := fun _ h => by unfold wsX1_define; exact List.mem_cons_of_mem _ (List.mem_append_left _ (List.mem_append_left _ (List.mem_append_right _ (h))))
  have h6 := hS.1
  refine lv_iload_n hx hb dX1_define_0 rfl (lv_at hl 1 rfl) ?_
  refine lv_iconst (v := 1) hx hb dX1_define_1 (by decide) ?_
  refine lv_icmp_lt (tgt := 11) hx hb dX1_define_2 (by decide) (fun c_2 => ?_) (fun c_2 => ?_)
  · have h0 : cs_in v 1 32 = false := cs_inF1 (Int32.not_le.mpr c_2)
    exact cs_throw (cls := cs_IAE) (text := "width is out of range") hx hb hlf hown hts (by decide +kernel) cs_at1 hE hE.2.1.1 cs_ot1 (fun _ h => by unfold wsX1_define; exact List.mem_cons_of_mem _ (List.mem_append_left _ (List.mem_append_right _ (h)))) (by decide +kernel) (by decide +kernel) (hE.2.2 (30, "width is out of range") (by decide +kernel)) hz (hl.1.trans hml.symm) dX1_define_11 dX1_define_14 dX1_define_15 dX1_define_17 dX1_define_20 hout (Nat.le_of_ble_eq_true rfl) (Nat.le_of_ble_eq_true rfl) (Nat.le_of_ble_eq_true rfl) (Nat.le_of_ble_eq_true rfl) hlocks (Or.inl ⟨(by unfold cs_kDef; simp [cs_k1, cs_k2, cs_nS, cs_pl, cs_bRow, cs_bSer, cs_bDef, h0]), rfl⟩) (Nat.le_of_ble_eq_true rfl) (Nat.le_of_ble_eq_true rfl)
  · refine lv_iload_n hx hb dX1_define_5 rfl (lv_at hl 1 rfl) ?_
    refine lv_bipush (v := 32) hx hb dX1_define_6 (by decide) ?_
    refine lv_icmp_le (tgt := 21) hx hb dX1_define_8 (by decide) (fun c_8 => ?_) (fun c_8 => ?_)
    · have okW : cs_in v 1 32 = true := cs_inT (Int32.not_lt.mp c_2) c_8
      obtain ⟨wd, hw1, hw2, rfl⟩ := cs_in1_of (n := 32) (by decide) okW
      have wc : cs_c (nI wd) = wd := cs_cI (by omega)
      refine lv_iload_n hx hb dX1_define_21 rfl (lv_at hl 1 rfl) ?_
      refine lv_iload_n hx hb dX1_define_22 rfl (lv_at hl 2 rfl) ?_
      refine cs_xcallv (vx_runS (As := [.int (nI wd), .int a]) (rest := []) ⟨hx, hb, hml, hown, hts⟩ (k_X1_requireNumber l hlf D S ad cy wd hw2 a) (va_cwS 2 hts gX1_define_X1_requireNumber rfl rfl rfl (by decide +kernel) ⟨(Nat.le_of_ble_eq_true rfl), (Nat.le_of_ble_eq_true rfl)⟩) ⟨cs_Bx.blind, cs_Bx.at hE hz cs_none hK⟩ rfl rfl hl.1 rfl (lv_room (Nat.le_of_ble_eq_true rfl)) dX1_define_23 ⟨(Nat.le_of_ble_eq_true rfl), (Nat.le_of_ble_eq_true rfl)⟩) (fun E ce q9 H1 h1 h2 h3 h4 h5 h6 => cs_xout hout hlocks (fun E h => Or.inl ⟨(by unfold cs_kDef; simp [cs_k1, cs_k2, cs_nS, cs_pl, cs_bRow, cs_bSer, cs_bDef, okW, h.2]), h.1⟩) (Nat.le_of_ble_eq_true rfl) (Nat.le_of_ble_eq_true rfl) E ce q9 H1 h1 h2 h3 h4 h5 h6) (fun ok1 => ?_)
      refine lv_iload_n hx hb dX1_define_26 rfl (lv_at hl 1 rfl) ?_
      refine lv_iload_n hx hb dX1_define_27 rfl (lv_at hl 3 rfl) ?_
      refine cs_xcallv (vx_runS (As := [.int (nI wd), .int b]) (rest := []) ⟨hx, hb, hml, hown, hts⟩ (k_X1_requireNumber l hlf D S ad cy wd hw2 b) (va_cwS 2 hts gX1_define_X1_requireNumber rfl rfl rfl (by decide +kernel) ⟨(Nat.le_of_ble_eq_true rfl), (Nat.le_of_ble_eq_true rfl)⟩) ⟨cs_Bx.blind, cs_Bx.at hE hz cs_none hK⟩ rfl rfl hl.1 rfl (lv_room (Nat.le_of_ble_eq_true rfl)) dX1_define_28 ⟨(Nat.le_of_ble_eq_true rfl), (Nat.le_of_ble_eq_true rfl)⟩) (fun E ce q9 H1 h1 h2 h3 h4 h5 h6 => cs_xout hout hlocks (fun E h => Or.inl ⟨(by unfold cs_kDef; simp [cs_k1, cs_k2, cs_nS, cs_pl, cs_bRow, cs_bSer, cs_bDef, okW, ok1, h.2]), h.1⟩) (Nat.le_of_ble_eq_true rfl) (Nat.le_of_ble_eq_true rfl) E ce q9 H1 h1 h2 h3 h4 h5 h6) (fun ok2 => ?_)
      refine lv_iload_n hx hb dX1_define_31 rfl (lv_at hl 1 rfl) ?_
      refine lv_iload hx hb dX1_define_32 (lv_at hl 6 rfl) ?_
      refine cs_xcallv (vx_runS (As := [.int (nI wd), .int d]) (rest := []) ⟨hx, hb, hml, hown, hts⟩ (k_X1_requireNumber l hlf D S ad cy wd hw2 d) (va_cwS 2 hts gX1_define_X1_requireNumber rfl rfl rfl (by decide +kernel) ⟨(Nat.le_of_ble_eq_true rfl), (Nat.le_of_ble_eq_true rfl)⟩) ⟨cs_Bx.blind, cs_Bx.at hE hz cs_none hK⟩ rfl rfl hl.1 rfl (lv_room (Nat.le_of_ble_eq_true rfl)) dX1_define_34 ⟨(Nat.le_of_ble_eq_true rfl), (Nat.le_of_ble_eq_true rfl)⟩) (fun E ce q9 H1 h1 h2 h3 h4 h5 h6 => cs_xout hout hlocks (fun E h => Or.inl ⟨(by unfold cs_kDef; simp [cs_k1, cs_k2, cs_nS, cs_pl, cs_bRow, cs_bSer, cs_bDef, okW, ok1, ok2, h.2]), h.1⟩) (Nat.le_of_ble_eq_true rfl) (Nat.le_of_ble_eq_true rfl) E ce q9 H1 h1 h2 h3 h4 h5 h6) (fun ok3 => ?_)
      have okB : cs_bDef (nI wd) a b d = true := by unfold cs_bDef; rw [okW, ok1, ok2, ok3]; rfl
      refine lv_aload_n hx hb dX1_define_37 rfl (lv_at hl 0 rfl) ?_
      refine va_get (D := D) (ci := 1) (v := .int (nI (cs_n S))) (C := RX1) (T := TX1) (N := 4) hx hb hts hinX1 hown hK hP 0 cs_L0 rfl 1 (by decide) (hts (.fieldLink RX1 15 "ChecksumLab" "definedCount" "I") (by decide +kernel)) (fun _ h9 => h9) rfl dX1_define_38 ?_
      refine lv_aload_n hx hb dX1_define_41 rfl (lv_at hl 0 rfl) ?_
      refine va_get (D := D) (ci := 1) (v := .ref (ad 1)) (C := RX1) (T := TX1) (N := 4) hx hb hts hinX1 hown hK hP 0 cs_L0 rfl 0 (by decide) (hts (.fieldLink RX1 11 "ChecksumLab" "defined" "[LChecksumLab$Model;") (by decide +kernel)) (fun _ h9 => h9) rfl dX1_define_42 ?_
      refine va_alen (v := 6) hx hb hK hP 1 3 cs_L1 rfl rfl dX1_define_45 ?_
      refine lv_icmp_lt (tgt := 59) hx hb dX1_define_46 (by decide) (fun c_46 => ?_) (fun c_46 => ?_)
      · have hn : cs_n S < 6 := by rcases Nat.lt_or_ge (cs_n S) 6 with h | h; exact h; exact absurd c_46 (nI_nlt (a := cs_n S) (b := 6) h (by omega))
        have ek : cs_kDef S (nI wd) a b d = 0 := cs_k2_0.mpr (by rw [okB, decide_eq_true hn]; rfl)
        have es : cs_sDef S (nI wd) a b q9 t9 d = cs_def S wd a b q9 t9 d := by unfold cs_sDef; rw [if_pos ek, wc]
        refine lv_aload_n hx hb dX1_define_59 rfl (lv_at hl 0 rfl) ?_
        refine va_get (D := D) (ci := 1) (v := .int (nI (cs_n S))) (C := RX1) (T := TX1) (N := 4) hx hb hts hinX1 hown hK hP 0 cs_L0 rfl 1 (by decide) (hts (.fieldLink RX1 15 "ChecksumLab" "definedCount" "I") (by decide +kernel)) (fun _ h9 => h9) rfl dX1_define_60 ?_
        refine lv_istore (lv' := [(7, .int (nI (cs_n S))), (0, .ref (ad 0)), (1, .int (nI wd)), (2, .int a), (3, .int b), (4, .int (cs_z q9)), (5, .int (cs_z t9)), (6, .int d)]) hx hb dX1_define_63 hl (by decide) rfl (fun ls hl => ?_)
        refine lv_aload_n hx hb dX1_define_65 rfl (lv_at hl 1 rfl) ?_
        refine va_get (D := D) (ci := 1) (v := .ref (ad 1)) (C := RX1) (T := TX1) (N := 4) hx hb hts hinX1 hown hK hP 0 cs_L0 rfl 0 (by decide) (hts (.fieldLink RX1 11 "ChecksumLab" "defined" "[LChecksumLab$Model;") (by decide +kernel)) (fun _ h9 => h9) rfl dX1_define_66 ?_
        refine lv_iload hx hb dX1_define_69 (lv_at hl 0 rfl) ?_
        refine va_new (ci := 0) (fs := [.int 0, .int 0, .int 0, .int 0, .int 0, .int 0, .int 0, .int 0]) (C := RX0) (T := TX0) (N := 8) hx hb hts hinX0 tyX0 tyX0_ok hown (hts (.classLink RX1 9 RX0) (by decide +kernel)) (hts (.instantiable RX0 8) (by decide +kernel)) (hts (.initialized RX0) (by decide +kernel)) hK hP hD hS9 hA rfl (fun j hj => by rcases (show j = 0 ∨ j = 1 ∨ j = 2 ∨ j = 3 ∨ j = 4 ∨ j = 5 ∨ j = 6 ∨ j = 7 by omega) with rfl | rfl | rfl | rfl | rfl | rfl | rfl | rfl <;> rfl) (Nat.le_of_ble_eq_true rfl) (Nat.le_of_ble_eq_true rfl) dX1_define_71 (fun q H hP hD hS9 => ?_)
        refine lv_dup hx hb dX1_define_74 rfl ?_
        refine lv_iload_n hx hb dX1_define_75 rfl (lv_at hl 2 rfl) ?_
        refine lv_iload_n hx hb dX1_define_76 rfl (lv_at hl 3 rfl) ?_
        refine lv_iload_n hx hb dX1_define_77 rfl (lv_at hl 4 rfl) ?_
        refine lv_iload hx hb dX1_define_78 (lv_at hl 5 rfl) ?_
        refine lv_iload hx hb dX1_define_80 (lv_at hl 6 rfl) ?_
        refine lv_iload hx hb dX1_define_82 (lv_at hl 7 rfl) ?_
        have hF := cs_inR hD hS9 hA
        have hPq := cs_PR hP
        have hDq := cs_DR hD
        refine cs_wcallv (va_runI (As := [.int (nI wd), .int a, .int b, .int (cs_z q9), .int (cs_z t9), .int d]) (rest := [.ref q, .int (nI (cs_n S)), .ref (ad 1)]) ⟨hx, hb, hml, hown, hts⟩ (k_X0_init l D cy q H.size wd hw1 hw2 a b q9 t9 d) (cwI 6 hts gX1_define_X0_init rfl rfl rfl (hts (.initialized RX0) (by decide +kernel)) (hts (.methodLink RX1 44 yX0_init) (by decide +kernel)) (hts (.instanceMethod yX0_init) (by decide +kernel)) rfl (by decide +kernel) ⟨(Nat.le_of_ble_eq_true rfl), (Nat.le_of_ble_eq_true rfl)⟩) ⟨cs_Bw.blind, cs_Bw.at hE hPq hK hDq⟩ rfl rfl hl.1 rfl (lv_room (Nat.le_of_ble_eq_true rfl)) dX1_define_84 ⟨(Nat.le_of_ble_eq_true rfl), (Nat.le_of_ble_eq_true rfl)⟩) hS9 hF (fun u9 H locs hp hP1 hD1 hz1 hk1 hS9 => ?_)
        obtain ⟨hP, hD⟩ := cs_joinR hP hD hk1 hF hP1 hD1
        have hP : va_P D vwCl (cs_L S ad cy ++ ([(q, .inr (0, (cs_F wd a b q9 t9 d)))] : va_W)) H := hP
        have hD : va_D (va_A (cs_L S ad cy) s.heap.size) (cs_L S ad cy ++ ([(q, .inr (0, (cs_F wd a b q9 t9 d)))] : va_W)) := hD
        refine va_astq (r := (RX0, TX0, 8)) hx hb hK hP hD hS9 1 3 (8 + cs_n S) 0 rfl rfl cs_Lq rfl (vp_in_nI hn (by decide)) dX1_define_87 (fun H locs hP hD hS9 => ?_)
        rw [nI_clamp (show cs_n S < 2 ^ 31 by omega)] at hP hD
        refine lv_aload_n hx hb dX1_define_88 rfl (lv_at hl 1 rfl) ?_
        refine lv_iload hx hb dX1_define_89 (lv_at hl 0 rfl) ?_
        refine lv_iconst (v := 1) hx hb dX1_define_91 (by decide) ?_
        refine lv_iadd hx hb dX1_define_92 ?_
        refine cs_top (y := nI (cs_n S + 1)) (nI_1 _) ?_
        refine va_put (D := D) (ci := 1) (v := .int (nI (cs_n S + 1))) (ty := .int) (C := RX1) (T := TX1) (N := 4) hx hb hts hinX1 tyX1 tyX1_ok nmX1 hown hK hP hD hS9 0 rfl rfl 1 (by decide) (hts (.fieldLink RX1 15 "ChecksumLab" "definedCount" "I") (by decide +kernel)) (fun _ h9 => h9) rfl (by decide +kernel) rfl rfl (Nat.le_of_ble_eq_true rfl) dX1_define_93 (fun H locs hP hD hS9 => ?_)
        have hP := cs_PE cs_Lpush hP
        have hD := cs_DE cs_Lpush hD
        refine lv_iload hx hb dX1_define_96 (lv_at hl 0 rfl) ?_
        refine W.widen (k := 5) (n := 32) (Nat.le_of_ble_eq_true rfl) (Nat.le_of_ble_eq_true rfl) ?_
        exact vx_ret (W.iret (v := nI (cs_n S)) hx hb hr (fun t ht _ => ⟨nI (cs_n S), va_up ad (8 + cs_n S) q, rfl, ⟨⟨ek, rfl⟩, va_up_ne _ _ (by omega)⟩, by rw [ht]; show va_P D vwCl (cs_L (cs_sDef S (nI wd) a b q9 t9 d) _ cy) _; rw [es]; exact hP, by show va_D _ (cs_L (cs_sDef S (nI wd) a b q9 t9 d) _ cy); rw [es]; exact hD, hS9.F ht⟩) hS9.2.2 dX1_define_98)
      · have h0 : decide (cs_n S < 6) = false := decide_eq_false (fun h9 => c_46 (nI_lt h9 (by decide)))
        exact cs_throw (cls := cs_ISE) (text := "there are 6 models already") hx hb hlf hown hts (by decide +kernel) cs_at2 hE hE.2.1.2.1 cs_ot2 (fun _ h => by unfold wsX1_define; exact List.mem_cons_of_mem _ (List.mem_append_right _ (h))) (by decide +kernel) (by decide +kernel) (hE.2.2 (41, "there are 6 models already") (by decide +kernel)) hz (hl.1.trans hml.symm) dX1_define_49 dX1_define_52 dX1_define_53 dX1_define_55 dX1_define_58 hout (Nat.le_of_ble_eq_true rfl) (Nat.le_of_ble_eq_true rfl) (Nat.le_of_ble_eq_true rfl) (Nat.le_of_ble_eq_true rfl) hlocks (Or.inr (Or.inl ⟨(cs_k2_2 okB h0), rfl⟩)) (Nat.le_of_ble_eq_true rfl) (Nat.le_of_ble_eq_true rfl)
    · have h0 : cs_in v 1 32 = false := cs_inF2 c_8
      exact cs_throw (cls := cs_IAE) (text := "width is out of range") hx hb hlf hown hts (by decide +kernel) cs_at1 hE hE.2.1.1 cs_ot1 (fun _ h => by unfold wsX1_define; exact List.mem_cons_of_mem _ (List.mem_append_left _ (List.mem_append_right _ (h)))) (by decide +kernel) (by decide +kernel) (hE.2.2 (30, "width is out of range") (by decide +kernel)) hz (hl.1.trans hml.symm) dX1_define_11 dX1_define_14 dX1_define_15 dX1_define_17 dX1_define_20 hout (Nat.le_of_ble_eq_true rfl) (Nat.le_of_ble_eq_true rfl) (Nat.le_of_ble_eq_true rfl) (Nat.le_of_ble_eq_true rfl) hlocks (Or.inl ⟨(by unfold cs_kDef; simp [cs_k1, cs_k2, cs_nS, cs_pl, cs_bRow, cs_bSer, cs_bDef, h0]), rfl⟩) (Nat.le_of_ble_eq_true rfl) (Nat.le_of_ble_eq_true rfl)

