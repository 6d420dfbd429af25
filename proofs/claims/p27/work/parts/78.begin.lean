/-! the law's beginning -/
section CSBG
variable {p : Program} {l : Launch} {e : Env} {s : State} {m : MethodId} {b : Nat} {below : List Frame} {meth : Method} {c : Code} {Q : State → Prop} {L : Nat} {xs : Nat → Int32} {D : va_G} {cy : Nat → ClassId}
set_option maxHeartbeats 4000000 in
set_option maxRecDepth 100000 in
theorem lw_begin (C0 : cs_C p l s m c b L xs D cy) (hao : va_AO RX0 s ∧ va_AOA .int s) {ls : Array Slot} (hl : lv_has ls 14 [(0, .ref b)])
    (kend : ∀ (H : Heap) (locs : List Loc) (ls : Array Slot), va_S (fun q => s.heap.size ≤ q) s.heap H locs → W p l e room_1 s m #[.ref b] below meth c H locs 600074 7301550 Q (F0 m 472 ls [.int 1])) : W p l e room_1 s m #[.ref b] below meth c s.heap [] 0 0 Q (F0 m 0 ls []) := by
  obtain ⟨hx, hb, hml, hlf, hown, hts, hX, hbl, hL, hE, hz0, hK⟩ := id C0
  have hA : ∀ q : Nat, s.heap.size ≤ q → (fun q : Nat => s.heap.size ≤ q) q := fun _ h => h
  have hS9 : va_S (fun q : Nat => s.heap.size ≤ q) s.heap s.heap [] := va_S.rf
  have hP : va_P D vwCl [] s.heap := fun k q h => by simp at h
  have hD : va_D (fun q : Nat => s.heap.size ≤ q) [] := ⟨fun i j p q h => by simp at h, fun k q h => by simp at h⟩
  obtain ⟨ms, hms, hms2⟩ : ∃ ms : Nat, 1038 ≤ ms ∧ ms ≤ 1038 := ⟨1038, Nat.le_refl _, Nat.le_refl _⟩
  obtain ⟨c1, hc1, hc1'⟩ : ∃ c1 : Nat, 50 ≤ c1 ∧ c1 ≤ 50 := ⟨50, Nat.le_refl _, Nat.le_refl _⟩
  obtain ⟨s1, hs1, hs1'⟩ : ∃ s1 : Nat, 1500 ≤ s1 ∧ s1 ≤ 1500 := ⟨1500, Nat.le_refl _, Nat.le_refl _⟩
  obtain ⟨c2, hc2, hc2'⟩ : ∃ c2 : Nat, 600 ≤ c2 ∧ c2 ≤ 600 := ⟨600, Nat.le_refl _, Nat.le_refl _⟩
  obtain ⟨s2, hs2, hs2'⟩ : ∃ s2 : Nat, 5000 ≤ s2 ∧ s2 ≤ 5000 := ⟨5000, Nat.le_refl _, Nat.le_refl _⟩
  refine va_new (ci := 1) (fs := [.null, .int 0, .null, .null]) (C := RX1) (T := TX1) (N := 4) hx hb hts inlX1 tyX1 tyX1_ok hown (hts (.classLink RL 11 RX1) (by decide +kernel)) (hts (.instantiable RX1 4) (by decide +kernel)) (hts (.initialized RX1) (by decide +kernel)) hK hP hD hS9 hA rfl (fun j hj => by rcases (show j = 0 ∨ j = 1 ∨ j = 2 ∨ j = 3 by omega) with rfl | rfl | rfl | rfl <;> rfl) (by show 0 + 1 ≤ 600074; omega) (by show 0 + 4 ≤ 7301550; omega) dL_law_0 (fun a H hP hD hS9 => ?_)
  have hP : va_P D vwCl [(a, .inr (1, [.null, .int 0, .null, .null]))] H := hP
  have hD : va_D (fun q : Nat => s.heap.size ≤ q) [(a, .inr (1, [.null, .int 0, .null, .null]))] := hD
  refine lv_dup hx hb dL_law_3 rfl ?_
  have hF : ∀ q, va_A [(a, .inr (1, [.null, .int 0, .null, .null]))] H.size q → (fun q : Nat => s.heap.size ≤ q) q := cs_inW hD hS9 hA
  refine cs_wcallv (va_runI (As := []) (rest := [.ref a]) ⟨hx, hb, hml, hown, hts⟩ (k_X1_init l D cy a H.size ms hms) (cwI 0 hts gL_law_X1_init rfl rfl rfl (hts (.initialized RX1) (by decide +kernel)) (hts (.methodLink RL 48 yX1_init) (by decide +kernel)) (hts (.instanceMethod yX1_init) (by decide +kernel)) rfl (by decide +kernel) ⟨(Nat.le_of_ble_eq_true rfl), (Nat.le_of_ble_eq_true rfl)⟩) ⟨cs_Bo.blind, cs_Bo.at hao hE hP hK hD⟩ rfl rfl hl.1 rfl (lv_room (Nat.le_of_ble_eq_true rfl)) dL_law_4 ⟨by show 0 + 1 + 7 ≤ 600074; omega, by show 0 + 4 + ms ≤ 7301550; omega⟩) hS9 hF (fun ad H locs had hP1 hD1 hz1 hk1 hS9 => ?_)
  have hD := hD1.weaken (fun k q _ h => hF q.1 h)
  refine lv_astore_n (lv' := [(1, .ref a), (0, .ref b)]) hx hb dL_law_7 rfl hl (by decide) rfl (fun ls hl => ?_)
  refine lv_iconst (v := nI 1) hx hb dL_law_8 (by decide) ?_
  refine lv_istore_n (lv' := [(2, .int (nI 1)), (1, .ref a), (0, .ref b)]) hx hb dL_law_9 rfl hl (by decide) rfl (fun ls hl => ?_)
  refine lv_iconst (v := nI 0) hx hb dL_law_10 (by decide) ?_
  refine lv_istore_n (lv' := [(3, .int (nI 0)), (2, .int (nI 1)), (1, .ref a), (0, .ref b)]) hx hb dL_law_11 rfl hl (by decide) rfl (fun ls hl => ?_)
  refine lw_l1 C0 (a0 := a) (c1 := c1) (s1 := s1) (by omega) (by omega) (fun S ad H locs ls hok hn hl0 had hLS hl => ?_) 6 0 _ _ cs_0 ad H locs ls (by omega) (by omega) (by omega) cs_okk0 rfl (fun _ => rfl) had ⟨hP1, hD, hS9⟩ (lv_sub hl [3, 2, 1, 0] rfl)
  subst had
  refine lw_mid C0 (by omega) (by omega) hLS hl (fun N ls hN0 hN1 hl => ?_)
  refine lw_l2 C0 hN1 (c1 := c2) (s1 := s2) (by omega) (by omega) (fun S H locs ls hok hn hln hy hLS hl => ?_) N 0 _ _ S H locs ls (by omega) (by omega) (by omega) hok hn (fun r _ => hl0 r) (fun j hj => absurd hj (Nat.not_lt_zero j)) hLS hl
  refine lv_iconst (v := nI 0) hx hb dL_law_256 (by decide) ?_
  refine lv_istore (lv' := [(4, .int (nI 0)), (0, .ref b), (1, .ref (ad 0)), (2, .int (nI 1)), (3, .int (nI N))]) hx hb dL_law_257 hl (by decide) rfl (fun ls hl => ?_)
  refine lw_l3 C0 hN0 hN1 (c1 := 600074) (s1 := 7301550) (Nat.le_refl _) (Nat.le_refl _) (fun H locs ls hS9 hl => ?_) 30 0 _ _ S H locs ls (by omega) (by omega) (by omega) hok hn hln hy hLS (lv_sub hl [1, 2, 3, 4, 0] rfl)
  refine lv_iload_n hx hb dL_law_471 rfl (lv_at hl 2 rfl) ?_
  exact kend H locs ls hS9
end CSBG
