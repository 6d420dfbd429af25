/-! the law's loops: what holds all along, its calls -/
def cs_C (p : Program) (l : Launch) (s : State) (m : MethodId) (c : Code) (b L : Nat) (xs : Nat → Int32) (D : va_G) (cy : Nat → ClassId) : Prop :=
  p.tables.exec = Jvm.exec ∧ c.code = cL_law ∧ c.maxLocals = 14 ∧ l.stackTraces = false ∧ s.vm.findClass RL = some m.cls ∧ (∀ w ∈ wsL_law, w.before #[Value.ref b] s = true) ∧ va_X b L xs s s.heap ∧ b < s.heap.size ∧ L ≤ 260 ∧ cs_en s ∧ cs_zz (fun q => s.heap.size ≤ q) s s.heap ∧ va_K D vwCl (cs_tys cy) s
def cs_LS (D : va_G) (s : State) (H : Heap) (locs : List Loc) (S : cs_St) (ad : Nat → Nat) (cy : Nat → ClassId) : Prop :=
  va_P D vwCl (cs_L S ad cy) H ∧ va_D (fun q => s.heap.size ≤ q) (cs_L S ad cy) ∧ va_S (fun q => s.heap.size ≤ q) s.heap H locs
theorem cs_Dup {A B : Nat → Prop} {w : va_W} (h : va_D A w) (hAB : ∀ q, A q → B q) : va_D B w := ⟨h.1, fun k e hk => hAB _ (h.2 k e hk)⟩
theorem cs_mkN (x : Int32) {n : Nat} (h1 : 1 ≤ n) (h2 : n ≤ 32) : cs_nb (x &&& cs_mk n) (nI n) = true := by
  unfold cs_nb
  by_cases e : n = 32
  · subst e
    rfl
  · rw [Bool.or_eq_true, decide_eq_true_eq, decide_eq_true_eq]
    refine Or.inr (b_ext fun i hi => ?_)
    have h := b_ushr n (by omega) (x &&& cs_mk n) i
    have h9 : bt (cs_ur (x &&& cs_mk n) (nI n)) i = bt (x &&& cs_mk n) (n + i) := h
    rw [h9, b_0]
    rcases Nat.lt_or_ge (n + i) 32 with z | z
    · rw [b_and, cs_mkb n (by omega) (n + i) z, decide_eq_false (by omega), Bool.and_false]
    · exact b_big z
section CSLW
variable {p : Program} {l : Launch} {e : Env} {s : State} {m : MethodId} {b : Nat} {below : List Frame} {meth : Method} {c : Code} {H : Heap} {locs : List Loc} {cells slots : Nat} {Q : State → Prop} {pc : Nat} {ls : Array Slot} {rest : List Value} {L : Nat} {xs : Nat → Int32} {D : va_G} {cy : Nat → ClassId} {S : cs_St} {ad : Nat → Nat} {lv : List (Nat × Value)}
set_option maxHeartbeats 4000000 in
set_option maxRecDepth 100000 in
theorem lw_dr (C0 : cs_C p l s m c b L xs D cy) (hS9 : va_S (fun q => s.heap.size ≤ q) s.heap H locs) (hl : lv_has ls 14 lv) {k : Nat} (hk : k < 2 ^ 31) (hrest : (rest.map fun v => v.category).sum ≤ 8) (hc : cells ≤ 600074) (hs : slots ≤ 7301550) (d : decode cL_law pc = .ok (.invokestatic 49, 3))
    (kk : W p l e room_1 s m #[.ref b] below meth c H locs cells slots Q (F0 m (pc + 3) ls (.int (nI (cs_zn L xs k)) :: rest))) : W p l e room_1 s m #[.ref b] below meth c H locs cells slots Q (F0 m pc ls (.int (nI k) :: .ref b :: rest)) := by
  obtain ⟨hx, hb, hml, -, hown, hts, hX, hbl, hL, -⟩ := C0
  refine vp_callSi (W.runS (As := [.ref b, .int (nI k)]) (rest := rest) ⟨hx, hb, hml, hown, hts⟩ (k_L_drawn l b L xs k hk hL) (va_cwS 2 hts gL_law_L_drawn rfl rfl rfl (by decide +kernel) ⟨(Nat.le_of_ble_eq_true rfl), (Nat.le_of_ble_eq_true rfl)⟩) ⟨cs_Bs.blind, cs_Bs.at hX hbl (Nat.not_le.mpr hbl) hS9⟩ rfl rfl hl.1 rfl (lv_room hrest) d ⟨by show cells + 0 ≤ 600074; omega, by show slots + 0 ≤ 7301550; omega⟩) (fun r9 e9 => ?_)
  subst e9
  exact kk
set_option maxHeartbeats 4000000 in
set_option maxRecDepth 100000 in
theorem lw_md (C0 : cs_C p l s m c b L xs D cy) (hok : cs_okk S) (hLS : cs_LS D s H locs S ad cy) (hl : lv_has ls 14 lv) {n : Nat} (h1 : 1 ≤ n) (h2 : n ≤ 32) (x y z d : Int32) (hn : cs_n S < 6) (hc : cells + 5 ≤ 600074) (hs : slots + 32 ≤ 7301550) (dd : decode cL_law pc = .ok (.invokestatic 53, 3))
    (kk : ∀ (S' : cs_St) (ad' : Nat → Nat) (H : Heap) (locs : List Loc), cs_okk S' → cs_n S' = cs_n S + 1 → cs_ln S' = cs_ln S → ad' 0 = ad 0 → cs_LS D s H locs S' ad' cy → W p l e room_1 s m #[.ref b] below meth c H locs (cells + 5) (slots + 32) Q (F0 m (pc + 3) ls [.int (nI (cs_n S))])) :
    W p l e room_1 s m #[.ref b] below meth c H locs cells slots Q (F0 m pc ls [.int (d &&& cs_mk n), .int z, .int (y &&& cs_mk n), .int (x &&& cs_mk n), .int (nI n), .ref (ad 0)]) := by
  obtain ⟨hx, hb, hml, hlf, hown, hts, -, -, -, hE, hz0, hK⟩ := C0
  obtain ⟨hP, hD, hS9⟩ := hLS
  have hF : ∀ q, va_A (cs_L S ad cy) H.size q → (fun q => s.heap.size ≤ q) q := cs_inW hD hS9 (fun _ h => h)
  have hz : cs_zz (va_A (cs_L S ad cy) H.size) s H := (hz0.kept (fun a h1 h2 => hS9.2.1 a h1 h2)).narrow hF
  have hk0 : cs_kDef S (nI n) (x &&& cs_mk n) (y &&& cs_mk n) (d &&& cs_mk n) = 0 := cs_k2_0.mpr (by
    unfold cs_bDef
    rw [cs_inT (v := nI n) (lo := 1) (hi := 32) (nI_le (a := 1) h1 (by omega)) (nI_le (b := 32) h2 (by decide)), cs_mkN x h1 h2, cs_mkN y h1 h2, cs_mkN d h1 h2, decide_eq_true hn]
    rfl)
  refine cs_wcalli (vx_runSW (As := [.ref (ad 0), .int (nI n), .int (x &&& cs_mk n), .int (y &&& cs_mk n), .int z, .int (d &&& cs_mk n)]) (rest := []) ⟨hx, hb, hml, hown, hts⟩ (k_L_model l hlf D S ad cy H.size hok.1 (nI n) (x &&& cs_mk n) (y &&& cs_mk n) z (decide (cs_rem z 2 = 1)) (decide (¬ z ≤ 1)) (d &&& cs_mk n) (by rw [decide_eq_true_eq]) (by rw [decide_eq_false_iff_not]; exact ⟨fun h q => q h, fun h => Classical.byContradiction h⟩) hk0) (vx_cwSW 6 hts gL_law_L_model rfl rfl rfl (by decide +kernel) ⟨(Nat.le_of_ble_eq_true rfl), (Nat.le_of_ble_eq_true rfl)⟩) ⟨cs_By.blind, cs_By.at hE hz hP hK hD⟩ rfl rfl hl.1 rfl (lv_room (Nat.le_of_ble_eq_true rfl)) dd ⟨by show cells + 5 ≤ 600074; omega, by show slots + 32 ≤ 7301550; omega⟩) hS9 hF (fun r9 u9 H locs hp hP1 hD1 hz1 hk1 hS9 => ?_)
  obtain ⟨rfl, hu⟩ := hp
  have es : cs_sDef S (nI n) (x &&& cs_mk n) (y &&& cs_mk n) (decide (cs_rem z 2 = 1)) (decide (¬ z ≤ 1)) (d &&& cs_mk n) = cs_def S (cs_c (nI n)) (x &&& cs_mk n) (y &&& cs_mk n) (decide (cs_rem z 2 = 1)) (decide (¬ z ≤ 1)) (d &&& cs_mk n) := by unfold cs_sDef; exact if_pos hk0
  refine kk _ u9 H locs (cs_okk_def hok (nI n) (x &&& cs_mk n) (y &&& cs_mk n) (decide (cs_rem z 2 = 1)) (decide (¬ z ≤ 1)) (d &&& cs_mk n)) ?_ ?_ hu ⟨hP1, cs_Dup hD1 hF, hS9⟩
  · rw [es]; rfl
  · rw [es]; rfl
set_option maxHeartbeats 4000000 in
set_option maxRecDepth 100000 in
theorem lw_ad (C0 : cs_C p l s m c b L xs D cy) (hok : cs_okk S) (hLS : cs_LS D s H locs S ad cy) (hl : lv_has ls 14 lv) {r x k : Nat} (hr : r < 4) (hx9 : x < 256) (hk : cs_ln S r = k) (hk9 : k < 256) (hc : cells + 3 ≤ 600074) (hs : slots + 18 ≤ 7301550) (dd : decode cL_law pc = .ok (.invokestatic 57, 3))
    (kk : ∀ (H : Heap) (locs : List Loc), cs_okk (cs_put S r (k + 1) (va_up (cs_by S r) k x)) → cs_LS D s H locs (cs_put S r (k + 1) (va_up (cs_by S r) k x)) ad cy → W p l e room_1 s m #[.ref b] below meth c H locs (cells + 3) (slots + 18) Q (F0 m (pc + 3) ls [.int (nI (k + 1))])) :
    W p l e room_1 s m #[.ref b] below meth c H locs cells slots Q (F0 m pc ls [.int (nI x), .int (nI r), .ref (ad 0)]) := by
  obtain ⟨hx, hb, hml, hlf, hown, hts, -, -, -, hE, hz0, hK⟩ := C0
  obtain ⟨hP, hD, hS9⟩ := hLS
  have hF : ∀ q, va_A (cs_L S ad cy) H.size q → (fun q => s.heap.size ≤ q) q := cs_inW hD hS9 (fun _ h => h)
  have hz : cs_zz (va_A (cs_L S ad cy) H.size) s H := (hz0.kept (fun a h1 h2 => hS9.2.1 a h1 h2)).narrow hF
  have rc : cs_c (nI r) = r := cs_cI (by omega)
  have xc : cs_c (nI x) = x := cs_cI (by omega)
  have hk0 : cs_kApp S (nI r) (nI x) = 0 := by
    unfold cs_kApp
    rw [if_pos (cs_in03 r hr), if_pos (show cs_in (nI x) 0 255 = true from cs_in_nI (k := x) (n := 255) (by omega) (by decide)), rc, hk, if_neg (by omega)]
  have es : cs_sApp S (nI r) (nI x) = cs_put S r (k + 1) (va_up (cs_by S r) k x) := by
    unfold cs_sApp
    rw [if_pos hk0, rc, xc, hk]
  have ev : cs_vApp S (nI r) = nI (k + 1) := by unfold cs_vApp; rw [rc, hk]
  refine cs_wcalli (vx_runSW (As := [.ref (ad 0), .int (nI r), .int (nI x)]) (rest := []) ⟨hx, hb, hml, hown, hts⟩ (k_L_added l hlf D S ad cy H.size hok.1 (nI r) (nI x) hk0) (vx_cwSW 3 hts gL_law_L_added rfl rfl rfl (by decide +kernel) ⟨(Nat.le_of_ble_eq_true rfl), (Nat.le_of_ble_eq_true rfl)⟩) ⟨cs_By.blind, cs_By.at hE hz hP hK hD⟩ rfl rfl hl.1 rfl (lv_room (Nat.le_of_ble_eq_true rfl)) dd ⟨by show cells + 3 ≤ 600074; omega, by show slots + 18 ≤ 7301550; omega⟩) hS9 hF (fun r9 u9 H locs hp hP1 hD1 hz1 hk1 hS9 => ?_)
  have hp : r9 = cs_vApp S (nI r) := hp
  subst hp
  have hok2 := cs_okk_app hok (nI r) (nI x)
  have hP1 : va_P D vwCl (cs_L (cs_sApp S (nI r) (nI x)) ad cy) H := hP1
  have hD2 : va_D (fun q => s.heap.size ≤ q) (cs_L (cs_sApp S (nI r) (nI x)) ad cy) := cs_Dup hD1 hF
  rw [es] at hok2 hP1 hD2
  rw [ev]
  exact kk H locs hok2 ⟨hP1, hD2, hS9⟩
set_option maxHeartbeats 4000000 in
set_option maxRecDepth 100000 in
theorem lw_ch (C0 : cs_C p l s m c b L xs D cy) (hok : cs_okk S) (hLS : cs_LS D s H locs S ad cy) (hl : lv_has ls 14 lv) {r j x : Nat} (hr : r < 4) (hx9 : x < 256) (hj : j < cs_ln S r) (hc : cells + 3 ≤ 600074) (hs : slots + 18 ≤ 7301550) (dd : decode cL_law pc = .ok (.invokestatic 64, 3))
    (kk : ∀ (H : Heap) (locs : List Loc), cs_okk (cs_put S r (cs_ln S r) (va_up (cs_by S r) j x)) → cs_LS D s H locs (cs_put S r (cs_ln S r) (va_up (cs_by S r) j x)) ad cy → W p l e room_1 s m #[.ref b] below meth c H locs (cells + 3) (slots + 18) Q (F0 m (pc + 3) ls [.int (nI (cs_by S r j))])) :
    W p l e room_1 s m #[.ref b] below meth c H locs cells slots Q (F0 m pc ls [.int (nI x), .int (nI j), .int (nI r), .ref (ad 0)]) := by
  obtain ⟨hx, hb, hml, hlf, hown, hts, -, -, -, hE, hz0, hK⟩ := C0
  obtain ⟨hP, hD, hS9⟩ := hLS
  have hF : ∀ q, va_A (cs_L S ad cy) H.size q → (fun q => s.heap.size ≤ q) q := cs_inW hD hS9 (fun _ h => h)
  have hz : cs_zz (va_A (cs_L S ad cy) H.size) s H := (hz0.kept (fun a h1 h2 => hS9.2.1 a h1 h2)).narrow hF
  have h8 := hok.1.2.2.1 r
  have rc : cs_c (nI r) = r := cs_cI (by omega)
  have xc : cs_c (nI x) = x := cs_cI (by omega)
  have jc : cs_c (nI j) = j := cs_cI (by omega)
  have hpl : cs_pl S (nI r) (nI j) = true := by
    rw [cs_pl_r hr]
    obtain ⟨n, hn⟩ : ∃ n, cs_ln S r = n + 1 := ⟨cs_ln S r - 1, by omega⟩
    rw [hn, nI_pred]
    exact cs_in_nI (by omega) (by omega)
  have hk0 : cs_kSet S (nI r) (nI j) (nI x) = 0 := cs_k2_0.mpr (by rw [hpl, show cs_in (nI x) 0 255 = true from cs_in_nI (k := x) (n := 255) (by omega) (by decide)]; rfl)
  have es : cs_sSet S (nI r) (nI j) (nI x) = cs_put S r (cs_ln S r) (va_up (cs_by S r) j x) := by
    unfold cs_sSet
    rw [if_pos hk0, rc, xc, jc]
  have ev : cs_vByt S (nI r) (nI j) = nI (cs_by S r j) := by unfold cs_vByt; rw [rc, jc]
  refine cs_wcalli (vx_runSW (As := [.ref (ad 0), .int (nI r), .int (nI j), .int (nI x)]) (rest := []) ⟨hx, hb, hml, hown, hts⟩ (k_L_changed l hlf D S ad cy H.size hok.1 (nI r) (nI j) (nI x) hk0) (vx_cwSW 4 hts gL_law_L_changed rfl rfl rfl (by decide +kernel) ⟨(Nat.le_of_ble_eq_true rfl), (Nat.le_of_ble_eq_true rfl)⟩) ⟨cs_By.blind, cs_By.at hE hz hP hK hD⟩ rfl rfl hl.1 rfl (lv_room (Nat.le_of_ble_eq_true rfl)) dd ⟨by show cells + 3 ≤ 600074; omega, by show slots + 18 ≤ 7301550; omega⟩) hS9 hF (fun r9 u9 H locs hp hP1 hD1 hz1 hk1 hS9 => ?_)
  have hp : r9 = cs_vByt S (nI r) (nI j) := hp
  subst hp
  have hok2 : cs_okk (cs_put S r (cs_ln S r) (va_up (cs_by S r) j x)) := cs_okk_put hok h8 (cs_up_lt (hok.1.2.2.2 r) hx9)
  have hP1 : va_P D vwCl (cs_L (cs_sSet S (nI r) (nI j) (nI x)) ad cy) H := hP1
  have hD2 : va_D (fun q => s.heap.size ≤ q) (cs_L (cs_sSet S (nI r) (nI j) (nI x)) ad cy) := cs_Dup hD1 hF
  rw [es] at hP1 hD2
  rw [ev]
  exact kk H locs hok2 ⟨hP1, hD2, hS9⟩
set_option maxHeartbeats 4000000 in
set_option maxRecDepth 100000 in
theorem lw_at (C0 : cs_C p l s m c b L xs D cy) (hok : cs_okk S) (hLS : cs_LS D s H locs S ad cy) (hl : lv_has ls 14 lv) {r j : Nat} (hr : r < 4) (hj : j < cs_ln S r) (hc : cells + 2 ≤ 600074) (hs : slots + 12 ≤ 7301550) (dd : decode cL_law pc = .ok (.invokestatic 61, 3))
    (kk : W p l e room_1 s m #[.ref b] below meth c H locs (cells + 2) (slots + 12) Q (F0 m (pc + 3) ls [.int (nI (cs_by S r j))])) :
    W p l e room_1 s m #[.ref b] below meth c H locs cells slots Q (F0 m pc ls [.int (nI j), .int (nI r), .ref (ad 0)]) := by
  obtain ⟨hx, hb, hml, hlf, hown, hts, -, -, -, hE, hz0, hK⟩ := C0
  obtain ⟨hP, hD, hS9⟩ := hLS
  have hz : cs_zz (fun q => H.size ≤ q) s H := (hz0.kept (fun a h1 h2 => hS9.2.1 a h1 h2)).narrow (fun q h => Nat.le_trans hS9.1 h)
  have h8 := hok.1.2.2.1 r
  have rc : cs_c (nI r) = r := cs_cI (by omega)
  have jc : cs_c (nI j) = j := cs_cI (by omega)
  have hpl : cs_pl S (nI r) (nI j) = true := by
    rw [cs_pl_r hr]
    obtain ⟨n, hn⟩ : ∃ n, cs_ln S r = n + 1 := ⟨cs_ln S r - 1, by omega⟩
    rw [hn, nI_pred]
    exact cs_in_nI (by omega) (by omega)
  have ev : cs_vByt S (nI r) (nI j) = nI (cs_by S r j) := by unfold cs_vByt; rw [rc, jc]
  refine cs_ncalli (vx_runSW (As := [.ref (ad 0), .int (nI r), .int (nI j)]) (rest := []) ⟨hx, hb, hml, hown, hts⟩ (k_L_at l hlf D S ad cy hok.1 (nI r) (nI j) (cs_k1_0.mpr hpl)) (vx_cwSW 3 hts gL_law_L_at rfl rfl rfl (by decide +kernel) ⟨(Nat.le_of_ble_eq_true rfl), (Nat.le_of_ble_eq_true rfl)⟩) ⟨cs_Bx.blind, cs_Bx.at hE hz hP hK⟩ rfl rfl hl.1 rfl (lv_room (Nat.le_of_ble_eq_true rfl)) dd ⟨by show cells + 2 ≤ 600074; omega, by show slots + 12 ≤ 7301550; omega⟩) (fun r9 e9 => ?_)
  subst e9
  rw [ev]
  exact kk
set_option maxHeartbeats 4000000 in
set_option maxRecDepth 100000 in
theorem lw_af (C0 : cs_C p l s m c b L xs D cy) (hok : cs_okk S) (hLS : cs_LS D s H locs S ad cy) (hl : lv_has ls 14 lv) {N : Nat} (hln : ∀ r, r < 4 → cs_ln S r = N) (hx4 : cs_x4 (cs_by S 0) (cs_by S 1) (cs_by S 2) (cs_by S 3) N) {t : Nat} (ht3 : t < 3) {mo : Nat} (hm : mo < cs_n S) {fr to : Nat} (hft : fr ≤ to) (hto : to ≤ N) (hc : cells + 12 ≤ 600074) (hs : slots + 72 ≤ 7301550) (dd : decode cL_law pc = .ok (.invokestatic 68, 3))
    (kk : W p l e room_1 s m #[.ref b] below meth c H locs (cells + 12) (slots + 72) Q (F0 m (pc + 3) ls [.int 1])) :
    W p l e room_1 s m #[.ref b] below meth c H locs cells slots Q (F0 m pc ls [.int (nI to), .int (nI fr), .int (nI mo), .int (nI t), .ref (ad 0)]) := by
  obtain ⟨hx, hb, hml, hlf, hown, hts, -, -, -, hE, hz0, hK⟩ := C0
  obtain ⟨hP, hD, hS9⟩ := hLS
  have hz : cs_zz (fun q => H.size ≤ q) s H := (hz0.kept (fun a h1 h2 => hS9.2.1 a h1 h2)).narrow (fun q h => Nat.le_trans hS9.1 h)
  refine cs_ncalli (va_runS (As := [.ref (ad 0), .int (nI t), .int (nI mo), .int (nI fr), .int (nI to)]) (rest := []) ⟨hx, hb, hml, hown, hts⟩ (k_L_isAffine l hlf D S ad cy hok.1 N hln hx4 t ht3 mo hm fr to hft hto) (va_cwS 5 hts gL_law_L_isAffine rfl rfl rfl (by decide +kernel) ⟨(Nat.le_of_ble_eq_true rfl), (Nat.le_of_ble_eq_true rfl)⟩) ⟨cs_Bx.blind, cs_Bx.at hE hz hP hK⟩ rfl rfl hl.1 rfl (lv_room (Nat.le_of_ble_eq_true rfl)) dd ⟨by show cells + 12 ≤ 600074; omega, by show slots + 72 ≤ 7301550; omega⟩) (fun r9 e9 => ?_)
  subst e9
  exact kk
end CSLW
