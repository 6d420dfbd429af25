/-! a call that makes cells and writes none -/
section CSN
variable {p : Program} {l : Launch} {e : Env} {R : Room} {s : State} {m : MethodId} {args : Array Value} {below : List Frame} {meth : Method} {c : Code} {H : Heap} {locs : List Loc} {cells slots : Nat} {Q : State → Prop}
variable {pc : Nat} {ls : Array Slot} {rest st0 : List Value} {a : Array Value} {mc ms : Nat}
theorem cs_ncalli {post : Int32 → Prop} (hr : va_Run p l e R s m args below meth c H locs cells slots mc ms (F0 m pc ls st0) rest (vp_Si post a) (fun _ => False))
    (kk : ∀ r : Int32, post r → W p l e R s m args below meth c H locs (cells + mc) (slots + ms) Q (F0 m (pc + 3) ls (.int r :: rest))) : W p l e R s m args below meth c H locs cells slots Q (F0 m pc ls st0) := by
  intro T hT X
  obtain ⟨v, st₀, t, T', L, h0, X', hL, e1, e2, ⟨r, hv, hp, hh⟩, st⟩ := hr T hT X
  cases hv
  have hL0 : L = [] := List.eq_nil_iff_forall_not_mem.mpr (fun q h => hL q h)
  subst hL0
  rw [List.append_nil] at X'
  obtain ⟨t2, a1, b1⟩ := kk r hp T' (by rw [e1, hh, h0]) X'
  exact ⟨t2, st t2 a1, b1⟩
end CSN
set_option maxHeartbeats 4000000 in
set_option maxRecDepth 100000 in
theorem k_L_at (l : Launch) (hlf : l.stackTraces = false) (D : va_G) (S : cs_St) (ad : Nat → Nat) (cy : Nat → ClassId) (hS : cs_ok S) (v u : Int32) (hk0 : cs_k1 (cs_pl S v u) = 0) : Met l yL_at wsL_at ({ frames := 8, cells := 2, slots := 12, locals := 126 }) (va_Pc [.ref (ad 0), .int v, .int u] (cs_Bx D (cs_tys cy) (cs_L S ad cy))) (vp_Si (fun r9 => r9 = cs_vByt S v u)) 2 12 (fun _ => False) := by
  refine cs_ofWH (cc := cL_at) (maxL := 4) (ret := (some .int)) (by decide) rfl ?_
  intro pg e s m args below meth c s₁ B hml hv
  obtain ⟨rfl, hE, hz, hP, hK⟩ := hv
  have hx := B.exec
  have hb := B.bytes
  have hr := B.returns
  have hts := atoms_spec (ws := wsL_at) B.pre
  have hown : s.vm.findClass RL = some m.cls := findClass_of_methodNamed B.named
  have hlocks := B.notSynchronized
  have hl := lv_entry ([.ref (ad 0), .int v, .int u]) (n := 4) (Nat.le_of_ble_eq_true rfl)
  rw [lg_entry_eq]
  generalize (lg_sl ([.ref (ad 0), .int v, .int u]) ++ List.replicate (4 - (lg_sl ([.ref (ad 0), .int v, .int u])).length) Slot.unset).toArray = ls at hl ⊢
  have hl : lv_has ls 4 [(0, .ref (ad 0)), (1, .int v), (2, .int u)] := hl
  refine lv_aload_n hx hb dL_at_0 rfl (lv_at hl 0 rfl) ?_
  refine lv_iload_n hx hb dL_at_1 rfl (lv_at hl 1 rfl) ?_
  refine lv_iload_n hx hb dL_at_2 rfl (lv_at hl 2 rfl) ?_
  refine cs_xcalli (vx_runV (As := [.int v, .int u]) (rest := []) ⟨hx, hb, hml, hown, hts⟩ (k_X1_byteAt l hlf D S ad cy hS v u) (cwV 2 hts gL_at_X1_byteAt rfl rfl rfl (by decide +kernel) ⟨(Nat.le_of_ble_eq_true rfl), (Nat.le_of_ble_eq_true rfl)⟩) ⟨cs_Bx.blind, va_recv hK hP (ci := 1) (q0 := 0) rfl rfl, cs_Bx.at hE hz hP hK⟩ rfl rfl hl.1 rfl (lv_room (Nat.le_of_ble_eq_true rfl)) dL_at_3 ⟨(Nat.le_of_ble_eq_true rfl), (Nat.le_of_ble_eq_true rfl)⟩) (fun E ce q7 H1 h1 h2 h3 h4 h5 h6 => ?_) (fun rr hk => ?_)
  · exfalso
    rcases h1 with ⟨hk, -⟩ | ⟨hk, -⟩ | ⟨hk, -⟩ <;> exact absurd (hk0.symm.trans hk) (by decide)
  · obtain ⟨-, rfl⟩ := hk
    refine W.widen (k := 2) (n := 12) (Nat.le_of_ble_eq_true rfl) (Nat.le_of_ble_eq_true rfl) ?_
    exact W.iret (v := cs_vByt S v u) hx hb hr (fun t ht _ => ⟨cs_vByt S v u, rfl, rfl, ht⟩) (fun q h => by cases h) dL_at_6
set_option maxHeartbeats 4000000 in
set_option maxRecDepth 100000 in
theorem k_L_sum (l : Launch) (hlf : l.stackTraces = false) (D : va_G) (S : cs_St) (ad : Nat → Nat) (cy : Nat → ClassId) (hS : cs_ok S) (t : Nat) (ht3 : t < 3) (v u a b : Int32) (hk0 : cs_kPar S v u a b = 0) (hk1 : cs_k1 (cs_M S v && cs_in u 0 3) = 0) : Met l yL_sum wsL_sum ({ frames := 8, cells := 3, slots := 18, locals := 129 }) (va_Pc [.ref (ad 0), .int (nI t), .int v, .int u, .int a, .int b] (cs_Bx D (cs_tys cy) (cs_L S ad cy))) (vp_Si (fun r9 => r9 = cs_sm S t v u a b)) 3 18 (fun _ => False) := by
  refine cs_ofWH (cc := cL_sum) (maxL := 7) (ret := (some .int)) (by decide) rfl ?_
  intro pg e s m args below meth c s₁ B hml hv
  obtain ⟨rfl, hE, hz, hP, hK⟩ := hv
  have hx := B.exec
  have hb := B.bytes
  have hr := B.returns
  have hts := atoms_spec (ws := wsL_sum) B.pre
  have hown : s.vm.findClass RL = some m.cls := findClass_of_methodNamed B.named
  have hlocks := B.notSynchronized
  have hl := lv_entry ([.ref (ad 0), .int (nI t), .int v, .int u, .int a, .int b]) (n := 7) (Nat.le_of_ble_eq_true rfl)
  rw [lg_entry_eq]
  generalize (lg_sl ([.ref (ad 0), .int (nI t), .int v, .int u, .int a, .int b]) ++ List.replicate (7 - (lg_sl ([.ref (ad 0), .int (nI t), .int v, .int u, .int a, .int b])).length) Slot.unset).toArray = ls at hl ⊢
  have hl : lv_has ls 7 [(0, .ref (ad 0)), (1, .int (nI t)), (2, .int v), (3, .int u), (4, .int a), (5, .int b)] := hl
  refine lv_iload_n hx hb dL_sum_0 rfl (lv_at hl 1 rfl) ?_
  rcases (show t = 0 ∨ t = 1 ∨ t = 2 by omega) with rfl | rfl | rfl
  · refine lv_if_ne (tgt := 17) hx hb dL_sum_1 (by decide) (fun h => absurd rfl h) (fun _ => ?_)
    refine lv_aload_n hx hb dL_sum_4 rfl (lv_at hl 0 rfl) ?_
    refine lv_iload_n hx hb dL_sum_5 rfl (lv_at hl 2 rfl) ?_
    refine lv_iload_n hx hb dL_sum_6 rfl (lv_at hl 3 rfl) ?_
    refine lv_iload hx hb dL_sum_7 (lv_at hl 4 rfl) ?_
    refine lv_iload hx hb dL_sum_9 (lv_at hl 5 rfl) ?_
    refine cs_xcalli (vx_runV (As := [.int v, .int u, .int a, .int b]) (rest := []) ⟨hx, hb, hml, hown, hts⟩ (k_X1_sumOfPart l hlf D S ad cy hS v u a b) (cwV 4 hts gL_sum_X1_sumOfPart rfl rfl rfl (by decide +kernel) ⟨(Nat.le_of_ble_eq_true rfl), (Nat.le_of_ble_eq_true rfl)⟩) ⟨cs_Bx.blind, va_recv hK hP (ci := 1) (q0 := 0) rfl rfl, cs_Bx.at hE hz hP hK⟩ rfl rfl hl.1 rfl (lv_room (Nat.le_of_ble_eq_true rfl)) dL_sum_11 ⟨(Nat.le_of_ble_eq_true rfl), (Nat.le_of_ble_eq_true rfl)⟩) (fun E ce q7 H1 h1 h2 h3 h4 h5 h6 => ?_) (fun rr hk => ?_)
    · exfalso
      rcases h1 with ⟨hk, -⟩ | ⟨hk, -⟩ | ⟨hk, -⟩ <;> exact absurd (hk0.symm.trans hk) (by decide)
    · obtain ⟨-, rfl⟩ := hk
      refine lv_goto (tgt := 37) hx hb dL_sum_14 (by decide) ?_
      refine W.widen (k := 3) (n := 18) (Nat.le_of_ble_eq_true rfl) (Nat.le_of_ble_eq_true rfl) ?_
      exact W.iret (v := cs_vPar S v u a b) hx hb hr (fun t ht _ => ⟨cs_vPar S v u a b, rfl, rfl, ht⟩) (fun q h => by cases h) dL_sum_37
  · refine lv_if_ne (tgt := 17) hx hb dL_sum_1 (by decide) (fun _ => ?_) (fun h => absurd h (by decide))
    refine lv_iload_n hx hb dL_sum_17 rfl (lv_at hl 1 rfl) ?_
    refine lv_iconst (v := 1) hx hb dL_sum_18 (by decide) ?_
    refine lv_icmp_ne (tgt := 31) hx hb dL_sum_19 (by decide) (fun h => absurd rfl h) (fun _ => ?_)
    refine lv_aload_n hx hb dL_sum_22 rfl (lv_at hl 0 rfl) ?_
    refine lv_iload_n hx hb dL_sum_23 rfl (lv_at hl 2 rfl) ?_
    refine lv_iload_n hx hb dL_sum_24 rfl (lv_at hl 3 rfl) ?_
    refine cs_xcalli (vx_runV (As := [.int v, .int u]) (rest := []) ⟨hx, hb, hml, hown, hts⟩ (k_X1_sum l hlf D S ad cy hS v u) (cwV 2 hts gL_sum_X1_sum rfl rfl rfl (by decide +kernel) ⟨(Nat.le_of_ble_eq_true rfl), (Nat.le_of_ble_eq_true rfl)⟩) ⟨cs_Bx.blind, va_recv hK hP (ci := 1) (q0 := 0) rfl rfl, cs_Bx.at hE hz hP hK⟩ rfl rfl hl.1 rfl (lv_room (Nat.le_of_ble_eq_true rfl)) dL_sum_25 ⟨(Nat.le_of_ble_eq_true rfl), (Nat.le_of_ble_eq_true rfl)⟩) (fun E ce q7 H1 h1 h2 h3 h4 h5 h6 => ?_) (fun rr hk => ?_)
    · exfalso
      rcases h1 with ⟨hk, -⟩ | ⟨hk, -⟩ | ⟨hk, -⟩ <;> exact absurd (hk1.symm.trans hk) (by decide)
    · obtain ⟨-, rfl⟩ := hk
      refine lv_goto (tgt := 37) hx hb dL_sum_28 (by decide) ?_
      refine W.widen (k := 3) (n := 18) (Nat.le_of_ble_eq_true rfl) (Nat.le_of_ble_eq_true rfl) ?_
      exact W.iret (v := cs_vSum S v u) hx hb hr (fun t ht _ => ⟨cs_vSum S v u, rfl, rfl, ht⟩) (fun q h => by cases h) dL_sum_37
  · refine lv_if_ne (tgt := 17) hx hb dL_sum_1 (by decide) (fun _ => ?_) (fun h => absurd h (by decide))
    refine lv_iload_n hx hb dL_sum_17 rfl (lv_at hl 1 rfl) ?_
    refine lv_iconst (v := 1) hx hb dL_sum_18 (by decide) ?_
    refine lv_icmp_ne (tgt := 31) hx hb dL_sum_19 (by decide) (fun _ => ?_) (fun h => absurd h (by decide))
    refine lv_aload_n hx hb dL_sum_31 rfl (lv_at hl 0 rfl) ?_
    refine lv_iload_n hx hb dL_sum_32 rfl (lv_at hl 2 rfl) ?_
    refine lv_iload_n hx hb dL_sum_33 rfl (lv_at hl 3 rfl) ?_
    refine cs_xcalli (vx_runV (As := [.int v, .int u]) (rest := []) ⟨hx, hb, hml, hown, hts⟩ (k_X1_remainder l hlf D S ad cy hS v u) (cwV 2 hts gL_sum_X1_remainder rfl rfl rfl (by decide +kernel) ⟨(Nat.le_of_ble_eq_true rfl), (Nat.le_of_ble_eq_true rfl)⟩) ⟨cs_Bx.blind, va_recv hK hP (ci := 1) (q0 := 0) rfl rfl, cs_Bx.at hE hz hP hK⟩ rfl rfl hl.1 rfl (lv_room (Nat.le_of_ble_eq_true rfl)) dL_sum_34 ⟨(Nat.le_of_ble_eq_true rfl), (Nat.le_of_ble_eq_true rfl)⟩) (fun E ce q7 H1 h1 h2 h3 h4 h5 h6 => ?_) (fun rr hk => ?_)
    · exfalso
      rcases h1 with ⟨hk, -⟩ | ⟨hk, -⟩ | ⟨hk, -⟩ <;> exact absurd (hk1.symm.trans hk) (by decide)
    · obtain ⟨-, rfl⟩ := hk
      refine W.widen (k := 3) (n := 18) (Nat.le_of_ble_eq_true rfl) (Nat.le_of_ble_eq_true rfl) ?_
      exact W.iret (v := cs_vRem S v u) hx hb hr (fun t ht _ => ⟨cs_vRem S v u, rfl, rfl, ht⟩) (fun q h => by cases h) dL_sum_37
theorem cs_in03 : ∀ r, r < 4 → cs_in (nI r) 0 3 = true := by decide +kernel
theorem cs_kM {S : cs_St} (hS : cs_ok S) {mo : Nat} (hm : mo < cs_n S) : cs_M S (nI mo) = true := cs_in_mod hm hS.1
theorem cs_kS1 {S : cs_St} (hS : cs_ok S) {mo r : Nat} (hm : mo < cs_n S) (hr : r < 4) : cs_k1 (cs_M S (nI mo) && cs_in (nI r) 0 3) = 0 := cs_k1_0.mpr (by rw [cs_kM hS hm, cs_in03 r hr]; rfl)
theorem cs_kS0 {S : cs_St} (hS : cs_ok S) {mo r a b : Nat} (hm : mo < cs_n S) (hr : r < 4) (ha : a ≤ b) (hb : b ≤ cs_ln S r) : cs_kPar S (nI mo) (nI r) (nI a) (nI b) = 0 := by
  have h8 := hS.2.2.1 r
  have rc : cs_c (nI r) = r := cs_cI (by omega)
  refine cs_k1_0.mpr ?_
  rw [cs_kM hS hm, cs_in03 r hr, rc, cs_in_nI (by omega) (by omega), cs_inT (nI_le ha (by omega)) (nI_le hb (by omega))]
  rfl
set_option maxHeartbeats 4000000 in
set_option maxRecDepth 100000 in
theorem k_L_isAffine (l : Launch) (hlf : l.stackTraces = false) (D : va_G) (S : cs_St) (ad : Nat → Nat) (cy : Nat → ClassId) (hS : cs_ok S) (N : Nat) (hln : ∀ r, r < 4 → cs_ln S r = N) (hx4 : cs_x4 (cs_by S 0) (cs_by S 1) (cs_by S 2) (cs_by S 3) N) (t : Nat) (ht3 : t < 3) (mo : Nat) (hm : mo < cs_n S) (fr to : Nat) (hft : fr ≤ to) (hto : to ≤ N) : Met l yL_isAffine wsL_isAffine ({ frames := 9, cells := 12, slots := 72, locals := 155 }) (va_Pc [.ref (ad 0), .int (nI t), .int (nI mo), .int (nI fr), .int (nI to)] (cs_Bx D (cs_tys cy) (cs_L S ad cy))) (vp_Si (fun r9 => r9 = 1)) 12 72 (fun _ => False) := by
  refine Met.ofW (cc := cL_isAffine) (maxL := 5) (ret := (some .boolean)) (by decide) rfl ?_
  intro pg e s m args below meth c s₁ B hml hv
  obtain ⟨rfl, hE, hz, hP, hK⟩ := hv
  have hx := B.exec
  have hb := B.bytes
  have hr := B.returns
  have hts := atoms_spec (ws := wsL_isAffine) B.pre
  have hown : s.vm.findClass RL = some m.cls := findClass_of_methodNamed B.named
  have hlocks := B.notSynchronized
  have hl := lv_entry ([.ref (ad 0), .int (nI t), .int (nI mo), .int (nI fr), .int (nI to)]) (n := 5) (Nat.le_of_ble_eq_true rfl)
  rw [lg_entry_eq]
  generalize (lg_sl ([.ref (ad 0), .int (nI t), .int (nI mo), .int (nI fr), .int (nI to)]) ++ List.replicate (5 - (lg_sl ([.ref (ad 0), .int (nI t), .int (nI mo), .int (nI fr), .int (nI to)])).length) Slot.unset).toArray = ls at hl ⊢
  have hl : lv_has ls 5 [(0, .ref (ad 0)), (1, .int (nI t)), (2, .int (nI mo)), (3, .int (nI fr)), (4, .int (nI to))] := hl
  have hkA : ∀ r, r < 4 → cs_kPar S (nI mo) (nI r) (nI fr) (nI to) = 0 := fun r hr9 => cs_kS0 hS hm hr9 hft (by rw [hln r hr9]; exact hto)
  refine lv_aload_n hx hb dL_isAffine_0 rfl (lv_at hl 0 rfl) ?_
  refine lv_iload_n hx hb dL_isAffine_1 rfl (lv_at hl 1 rfl) ?_
  refine lv_iload_n hx hb dL_isAffine_2 rfl (lv_at hl 2 rfl) ?_
  refine lv_iconst (v := nI 3) hx hb dL_isAffine_3 (by decide) ?_
  refine lv_iload_n hx hb dL_isAffine_4 rfl (lv_at hl 3 rfl) ?_
  refine lv_iload hx hb dL_isAffine_5 (lv_at hl 4 rfl) ?_
  refine cs_ncalli (vx_runSW (As := [.ref (ad 0), .int (nI t), .int (nI mo), .int (nI 3), .int (nI fr), .int (nI to)]) (rest := []) ⟨hx, hb, hml, hown, hts⟩ (k_L_sum l hlf D S ad cy hS t ht3 (nI mo) (nI 3) (nI fr) (nI to) (hkA 3 (by decide)) (cs_kS1 hS hm (by decide))) (vx_cwSW 6 hts gL_isAffine_L_sum rfl rfl rfl (by decide +kernel) ⟨(Nat.le_of_ble_eq_true rfl), (Nat.le_of_ble_eq_true rfl)⟩) ⟨cs_Bx.blind, cs_Bx.at hE hz hP hK⟩ rfl rfl hl.1 rfl (lv_room (Nat.le_of_ble_eq_true rfl)) dL_isAffine_7 ⟨(Nat.le_of_ble_eq_true rfl), (Nat.le_of_ble_eq_true rfl)⟩) (fun r3 e3 => ?_)
  subst e3
  refine lv_aload_n hx hb dL_isAffine_10 rfl (lv_at hl 0 rfl) ?_
  refine lv_iload_n hx hb dL_isAffine_11 rfl (lv_at hl 1 rfl) ?_
  refine lv_iload_n hx hb dL_isAffine_12 rfl (lv_at hl 2 rfl) ?_
  refine lv_iconst (v := nI 0) hx hb dL_isAffine_13 (by decide) ?_
  refine lv_iload_n hx hb dL_isAffine_14 rfl (lv_at hl 3 rfl) ?_
  refine lv_iload hx hb dL_isAffine_15 (lv_at hl 4 rfl) ?_
  refine cs_ncalli (vx_runSW (As := [.ref (ad 0), .int (nI t), .int (nI mo), .int (nI 0), .int (nI fr), .int (nI to)]) (rest := [.int (cs_sm S t (nI mo) (nI 3) (nI fr) (nI to))]) ⟨hx, hb, hml, hown, hts⟩ (k_L_sum l hlf D S ad cy hS t ht3 (nI mo) (nI 0) (nI fr) (nI to) (hkA 0 (by decide)) (cs_kS1 hS hm (by decide))) (vx_cwSW 6 hts gL_isAffine_L_sum rfl rfl rfl (by decide +kernel) ⟨(Nat.le_of_ble_eq_true rfl), (Nat.le_of_ble_eq_true rfl)⟩) ⟨cs_Bx.blind, cs_Bx.at hE hz hP hK⟩ rfl rfl hl.1 rfl (lv_room (Nat.le_of_ble_eq_true rfl)) dL_isAffine_17 ⟨(Nat.le_of_ble_eq_true rfl), (Nat.le_of_ble_eq_true rfl)⟩) (fun r0 e0 => ?_)
  subst e0
  refine lv_aload_n hx hb dL_isAffine_20 rfl (lv_at hl 0 rfl) ?_
  refine lv_iload_n hx hb dL_isAffine_21 rfl (lv_at hl 1 rfl) ?_
  refine lv_iload_n hx hb dL_isAffine_22 rfl (lv_at hl 2 rfl) ?_
  refine lv_iconst (v := nI 1) hx hb dL_isAffine_23 (by decide) ?_
  refine lv_iload_n hx hb dL_isAffine_24 rfl (lv_at hl 3 rfl) ?_
  refine lv_iload hx hb dL_isAffine_25 (lv_at hl 4 rfl) ?_
  refine cs_ncalli (vx_runSW (As := [.ref (ad 0), .int (nI t), .int (nI mo), .int (nI 1), .int (nI fr), .int (nI to)]) (rest := [.int (cs_sm S t (nI mo) (nI 0) (nI fr) (nI to)), .int (cs_sm S t (nI mo) (nI 3) (nI fr) (nI to))]) ⟨hx, hb, hml, hown, hts⟩ (k_L_sum l hlf D S ad cy hS t ht3 (nI mo) (nI 1) (nI fr) (nI to) (hkA 1 (by decide)) (cs_kS1 hS hm (by decide))) (vx_cwSW 6 hts gL_isAffine_L_sum rfl rfl rfl (by decide +kernel) ⟨(Nat.le_of_ble_eq_true rfl), (Nat.le_of_ble_eq_true rfl)⟩) ⟨cs_Bx.blind, cs_Bx.at hE hz hP hK⟩ rfl rfl hl.1 rfl (lv_room (Nat.le_of_ble_eq_true rfl)) dL_isAffine_27 ⟨(Nat.le_of_ble_eq_true rfl), (Nat.le_of_ble_eq_true rfl)⟩) (fun r1 e1 => ?_)
  subst e1
  refine lv_ixor hx hb dL_isAffine_30 ?_
  refine lv_aload_n hx hb dL_isAffine_31 rfl (lv_at hl 0 rfl) ?_
  refine lv_iload_n hx hb dL_isAffine_32 rfl (lv_at hl 1 rfl) ?_
  refine lv_iload_n hx hb dL_isAffine_33 rfl (lv_at hl 2 rfl) ?_
  refine lv_iconst (v := nI 2) hx hb dL_isAffine_34 (by decide) ?_
  refine lv_iload_n hx hb dL_isAffine_35 rfl (lv_at hl 3 rfl) ?_
  refine lv_iload hx hb dL_isAffine_36 (lv_at hl 4 rfl) ?_
  refine cs_ncalli (vx_runSW (As := [.ref (ad 0), .int (nI t), .int (nI mo), .int (nI 2), .int (nI fr), .int (nI to)]) (rest := [.int ((cs_sm S t (nI mo) (nI 0) (nI fr) (nI to)) ^^^ (cs_sm S t (nI mo) (nI 1) (nI fr) (nI to))), .int (cs_sm S t (nI mo) (nI 3) (nI fr) (nI to))]) ⟨hx, hb, hml, hown, hts⟩ (k_L_sum l hlf D S ad cy hS t ht3 (nI mo) (nI 2) (nI fr) (nI to) (hkA 2 (by decide)) (cs_kS1 hS hm (by decide))) (vx_cwSW 6 hts gL_isAffine_L_sum rfl rfl rfl (by decide +kernel) ⟨(Nat.le_of_ble_eq_true rfl), (Nat.le_of_ble_eq_true rfl)⟩) ⟨cs_Bx.blind, cs_Bx.at hE hz hP hK⟩ rfl rfl hl.1 rfl (lv_room (Nat.le_of_ble_eq_true rfl)) dL_isAffine_38 ⟨(Nat.le_of_ble_eq_true rfl), (Nat.le_of_ble_eq_true rfl)⟩) (fun r2 e2 => ?_)
  subst e2
  refine lv_ixor hx hb dL_isAffine_41 ?_
  refine lv_icmp_ne (tgt := 49) hx hb dL_isAffine_42 (by decide) (fun h => absurd (cs_x3sm hS hln hx4 hm t hft hto) h) (fun _ => ?_)
  refine lv_iconst (v := 1) hx hb dL_isAffine_45 (by decide) ?_
  refine lv_goto (tgt := 50) hx hb dL_isAffine_46 (by decide) ?_
  refine W.widen (k := 12) (n := 72) (Nat.le_of_ble_eq_true rfl) (Nat.le_of_ble_eq_true rfl) ?_
  exact W.zret (ty := .boolean) (v := 1) hx hb hr (cs_z_nar true) (fun t ht _ => ⟨1, rfl, rfl, ht⟩) (fun q h => by cases h) dL_isAffine_50
