/-! the law's loop: what holds all along, reading the script, comparing the answers -/
def cs_C (p : Program) (l : Launch) (s : State) (m : MethodId) (c : Code) (b L : Nat) (xs : Nat → Int32) (D : va_G) (cy : Nat → ClassId) : Prop :=
  p.tables.exec = Jvm.exec ∧ c.code = cL_law ∧ c.maxLocals = 7 ∧ l.stackTraces = false ∧ s.vm.findClass RL = some m.cls ∧ (∀ w ∈ wsL_law, w.before #[Value.ref b] s = true) ∧ va_X b L xs s s.heap ∧ b < s.heap.size ∧ L ≤ 3584 ∧ cs_en s ∧ cs_nc s ∧ cs_zz (fun q => s.heap.size ≤ q) s s.heap ∧ va_K D vwCl (cs_tys cy) s
def cs_LS (D : va_G) (s : State) (H : Heap) (locs : List Loc) (S : cs_St) (th : Int32) (ad bd : Nat → Nat) (o : Nat) (f : Nat → Int64) (cy : Nat → ClassId) : Prop :=
  va_P D vwCl (cs_O o f S ad cy ++ cs_R S th bd cy) H ∧ va_D (fun q => s.heap.size ≤ q) (cs_O o f S ad cy ++ cs_R S th bd cy) ∧ va_S (fun q => s.heap.size ≤ q) s.heap H locs
/-- what follows a turn's call -/
def cs_KK (p : Program) (l : Launch) (e : Env) (s : State) (m : MethodId) (b : Nat) (below : List Frame) (meth : Method) (c : Code) (Q : State → Prop) (D : va_G) (cy : Nat → ClassId) (bd : Nat → Nat) (o a0 i cells slots : Nat) : Prop :=
  ∀ (S : cs_St) (th : Int32) (ad : Nat → Nat) (f : Nat → Int64) (H : Heap) (locs : List Loc) (ls : Array Slot), cs_okk S → ad 0 = a0 → cs_LS D s H locs S th ad bd o f cy → lv_has ls 7 [(0, .ref b), (1, .ref a0), (2, .ref (bd 0)), (3, .ref o), (4, .int (nI i))] →
    W p l e room_1 s m #[.ref b] below meth c H locs cells slots Q (F0 m 1975 ls [])
section CSLW
variable {p : Program} {l : Launch} {e : Env} {s : State} {m : MethodId} {b : Nat} {below : List Frame} {meth : Method} {c : Code} {H : Heap} {locs : List Loc} {cells slots : Nat} {Q : State → Prop} {pc : Nat} {ls : Array Slot} {rest : List Value} {L : Nat} {xs : Nat → Int32} {D : va_G} {cy : Nat → ClassId}
/-- the script's int at i + j -/
theorem cs_rd (C0 : cs_C p l s m c b L xs D cy) (hS9 : va_S (fun q => s.heap.size ≤ q) s.heap H locs) {lv : List (Nat × Value)} (hl : lv_has ls 7 lv) (k0 k4 : Nat) {i : Nat} (h0 : lv[k0]? = some (0, .ref b)) (h4 : lv[k4]? = some (4, .int (nI i))) (j : Nat) {jj : Int} (hi : i + 7 ≤ L) (hj : j < 7) (hjj : Int32.ofInt jj = nI j)
    (d0 : decode cL_law pc = .ok (.aload_n 0, 1)) (d1 : decode cL_law (pc + 1) = .ok (.iload 4, 2)) (d3 : decode cL_law (pc + 3) = .ok (.iconst jj, 1)) (d4 : decode cL_law (pc + 4) = .ok (.iadd, 1)) (d5 : decode cL_law (pc + 5) = .ok (.iaload, 1))
    (k : W p l e room_1 s m #[.ref b] below meth c H locs cells slots Q (F0 m (pc + 6) ls (.int (xs (i + j)) :: rest))) : W p l e room_1 s m #[.ref b] below meth c H locs cells slots Q (F0 m pc ls rest) := by
  obtain ⟨hx, hb, -, -, -, -, hX, hbl, hL, -⟩ := C0
  refine lv_aload_n hx hb d0 rfl (lv_at hl k0 h0) ?_
  refine lv_iload hx hb d1 (lv_at hl k4 h4) ?_
  refine lv_iconst hx hb d3 hjj ?_
  refine lv_iadd hx hb d4 ?_
  refine cs_top (y := nI (i + j)) (by rw [nI_add]) ?_
  refine va_sld hx hb hX hbl (Nat.not_le.mpr hbl) hS9 (vp_in_nI (show i + j < L by omega) (by omega)) d5 ?_
  rw [nI_clamp (show i + j < 2 ^ 31 by omega)]
  exact k
/-- .. with the index pushed as a byte -/
theorem cs_rd6 (C0 : cs_C p l s m c b L xs D cy) (hS9 : va_S (fun q => s.heap.size ≤ q) s.heap H locs) {lv : List (Nat × Value)} (hl : lv_has ls 7 lv) (k0 k4 : Nat) {i : Nat} (h0 : lv[k0]? = some (0, .ref b)) (h4 : lv[k4]? = some (4, .int (nI i))) (j : Nat) {jj : Int} (hi : i + 7 ≤ L) (hj : j < 7) (hjj : (Int8.ofInt jj).toInt32 = nI j)
    (d0 : decode cL_law pc = .ok (.aload_n 0, 1)) (d1 : decode cL_law (pc + 1) = .ok (.iload 4, 2)) (d3 : decode cL_law (pc + 3) = .ok (.bipush jj, 2)) (d4 : decode cL_law (pc + 5) = .ok (.iadd, 1)) (d5 : decode cL_law (pc + 6) = .ok (.iaload, 1))
    (k : W p l e room_1 s m #[.ref b] below meth c H locs cells slots Q (F0 m (pc + 7) ls (.int (xs (i + j)) :: rest))) : W p l e room_1 s m #[.ref b] below meth c H locs cells slots Q (F0 m pc ls rest) := by
  obtain ⟨hx, hb, -, -, -, -, hX, hbl, hL, -⟩ := C0
  refine lv_aload_n hx hb d0 rfl (lv_at hl k0 h0) ?_
  refine lv_iload hx hb d1 (lv_at hl k4 h4) ?_
  refine lv_bipush hx hb d3 hjj ?_
  refine lv_iadd hx hb d4 ?_
  refine cs_top (y := nI (i + j)) (by rw [nI_add]) ?_
  refine va_sld hx hb hX hbl (Nat.not_le.mpr hbl) hS9 (vp_in_nI (show i + j < L by omega) (by omega)) d5 ?_
  rw [nI_clamp (show i + j < 2 ^ 31 by omega)]
  exact k
/-- .. as a boolean -/
theorem cs_rdz (C0 : cs_C p l s m c b L xs D cy) (hS9 : va_S (fun q => s.heap.size ≤ q) s.heap H locs) {lv : List (Nat × Value)} (hl : lv_has ls 7 lv) (k0 k4 : Nat) {i : Nat} (h0 : lv[k0]? = some (0, .ref b)) (h4 : lv[k4]? = some (4, .int (nI i))) (j : Nat) {jj : Int} (hi : i + 7 ≤ L) (hj : j < 7) (hjj : Int32.ofInt jj = nI j)
    (d0 : decode cL_law pc = .ok (.aload_n 0, 1)) (d1 : decode cL_law (pc + 1) = .ok (.iload 4, 2)) (d3 : decode cL_law (pc + 3) = .ok (.iconst jj, 1)) (d4 : decode cL_law (pc + 4) = .ok (.iadd, 1)) (d5 : decode cL_law (pc + 5) = .ok (.iaload, 1))
    (d6 : decode cL_law (pc + 6) = .ok (.ifCond .eq 7, 3)) (d9 : decode cL_law (pc + 9) = .ok (.iconst 1, 1)) (d10 : decode cL_law (pc + 10) = .ok (.goto 4, 3)) (d13 : decode cL_law (pc + 13) = .ok (.iconst 0, 1))
    (k : W p l e room_1 s m #[.ref b] below meth c H locs cells slots Q (F0 m (pc + 14) ls (.int (cs_z (decide (xs (i + j) ≠ 0))) :: rest))) : W p l e room_1 s m #[.ref b] below meth c H locs cells slots Q (F0 m pc ls rest) := by
  have hx := C0.1
  have hb := C0.2.1
  refine cs_rd C0 hS9 hl k0 k4 h0 h4 j hi hj hjj d0 d1 d3 d4 d5 ?_
  refine lv_if_eq (tgt := pc + 13) hx hb d6 (by omega) (fun h => ?_) (fun h => ?_)
  · have e9 : cs_z (decide (xs (i + j) ≠ 0)) = 0 := by rw [decide_eq_false (fun z => z h)]; rfl
    refine lv_iconst (v := 0) hx hb d13 (by decide) ?_
    rw [← e9]
    exact k
  · have e9 : cs_z (decide (xs (i + j) ≠ 0)) = 1 := by rw [decide_eq_true h]; rfl
    refine lv_iconst (v := 1) hx hb d9 (by decide) ?_
    refine lv_goto (tgt := pc + 14) hx hb d10 (by omega) ?_
    rw [← e9]
    exact k
/-- the comparison behind a call -/
theorem cs_tl (C0 : cs_C p l s m c b L xs D cy) {S S' : cs_St} {K r : Int32} {ad bd : Nat → Nat} {o a0 i : Nat} {f : Nat → Int64} (hP : va_P D vwCl (cs_O o f S ad cy ++ cs_R S' K bd cy) H)
    (hl : lv_has ls 7 [(6, .int r), (5, .int K), (0, .ref b), (1, .ref a0), (2, .ref (bd 0)), (3, .ref o), (4, .int (nI i))]) (hv : K = 0 → f 0 = Int32.toInt64 r) (hc : cells ≤ 601024) (hs : slots ≤ 7293034) {off : Int}
    (d0 : decode cL_law pc = .ok (.aload_n 2, 1)) (d1 : decode cL_law (pc + 1) = .ok (.invokevirtual 100, 3)) (d4 : decode cL_law (pc + 4) = .ok (.iload 5, 2)) (d6 : decode cL_law (pc + 6) = .ok (.if_icmp .eq 5, 3)) (d11 : decode cL_law (pc + 11) = .ok (.iload 5, 2)) (d13 : decode cL_law (pc + 13) = .ok (.ifCond .ne 15, 3))
    (d16 : decode cL_law (pc + 16) = .ok (.aload_n 3, 1)) (d17 : decode cL_law (pc + 17) = .ok (.iconst 0, 1)) (d18 : decode cL_law (pc + 18) = .ok (.laload, 1)) (d19 : decode cL_law (pc + 19) = .ok (.iload 6, 2)) (d21 : decode cL_law (pc + 21) = .ok (.i2l, 1)) (d22 : decode cL_law (pc + 22) = .ok (.lcmp, 1)) (d23 : decode cL_law (pc + 23) = .ok (.ifCond .eq 5, 3)) (d28 : decode cL_law (pc + 28) = .ok (.goto off, 3)) (hoff : ((pc + 28 : Nat) : Int) + off = ((1975 : Nat) : Int))
    (k : W p l e room_1 s m #[.ref b] below meth c H locs cells slots Q (F0 m 1975 ls [])) : W p l e room_1 s m #[.ref b] below meth c H locs cells slots Q (F0 m pc ls []) := by
  obtain ⟨hx, hb, hml, -, hown, hts, -, -, -, hE, -, -, hK⟩ := C0
  have kg : W p l e room_1 s m #[.ref b] below meth c H locs cells slots Q (F0 m (pc + 28) ls []) := lv_goto (tgt := 1975) hx hb d28 hoff k
  have hPR := cs_PR hP
  refine lv_aload_n hx hb d0 rfl (lv_at hl 4 rfl) ?_
  refine vp_callSi (W.runV (As := []) (rest := []) ⟨hx, hb, hml, hown, hts⟩ (k_X2_thrown l D S' K bd cy) (cwV 0 hts gL_law_X2_thrown rfl rfl rfl (by decide +kernel) ⟨Nat.le_of_ble_eq_true rfl, Nat.le_of_ble_eq_true rfl⟩) ⟨cs_B.blind, va_recv hK hPR (ci := 2) (q0 := 0) rfl rfl, cs_B.at hE hPR hK⟩ rfl rfl hl.1 rfl (lv_room (Nat.le_of_ble_eq_true rfl)) d1 ⟨by show cells + 0 ≤ 601024; omega, by show slots + 0 ≤ 7293034; omega⟩) (fun r9 e9 => ?_)
  subst e9
  refine lv_iload hx hb d4 (lv_at hl 1 rfl) ?_
  refine lv_icmp_eq (tgt := pc + 11) hx hb d6 (by omega) (fun _ => ?_) (fun h => absurd rfl h)
  refine lv_iload hx hb d11 (lv_at hl 1 rfl) ?_
  refine lv_if_ne (tgt := pc + 28) hx hb d13 (by omega) (fun _ => kg) (fun h => ?_)
  refine lv_aload_n hx hb d16 rfl (lv_at hl 5 rfl) ?_
  refine lv_iconst (v := nI 0) hx hb d17 (by decide) ?_
  refine va_lald hx hb hK hP 0 2 rfl rfl (vp_in_nI (n := 0) (N := 1) (by decide) (by decide)) d18 ?_
  refine cs_topl (y := Int32.toInt64 r) (by rw [nI_clamp (by decide)]; exact hv h) ?_
  refine lv_iload hx hb d19 (lv_at hl 0 rfl) ?_
  refine lv_i2l hx hb d21 rfl ?_
  refine W.lcmp hx hb d22 ?_
  exact lv_if_eq (tgt := pc + 28) hx hb d23 (by omega) (fun _ => kg) (fun h => absurd ((lg_cmp_eq _ _).mpr rfl) h)
end CSLW
