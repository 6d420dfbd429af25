/-- the fourth row, in numbers -/
def cs_y4 (S : cs_St) (n : Nat) : Prop := ∀ j, j < n → cs_by S 3 j = cs_by S 0 j ^^^ cs_by S 1 j ^^^ cs_by S 2 j
theorem cs_y4x {S : cs_St} (hS : cs_ok S) {n : Nat} (h : cs_y4 S n) : cs_x4 (cs_by S 0) (cs_by S 1) (cs_by S 2) (cs_by S 3) n := fun j hj => by
  have h0 := hS.2.2.2 0 j
  have h1 := hS.2.2.2 1 j
  have h2 := hS.2.2.2 2 j
  have h3 := cs_x256 h0 h1
  rw [h j hj, cs_nIx (by omega) (by omega), cs_nIx (by omega) (by omega)]
theorem cs_xn0 (a b c v : Nat) : (a ^^^ b ^^^ c) ^^^ a ^^^ v = v ^^^ b ^^^ c := by
  apply Nat.eq_of_testBit_eq
  intro i
  simp only [Nat.testBit_xor]
  cases a.testBit i <;> cases b.testBit i <;> cases c.testBit i <;> cases v.testBit i <;> rfl
theorem cs_xn1 (a b c v : Nat) : (a ^^^ b ^^^ c) ^^^ b ^^^ v = a ^^^ v ^^^ c := by
  apply Nat.eq_of_testBit_eq
  intro i
  simp only [Nat.testBit_xor]
  cases a.testBit i <;> cases b.testBit i <;> cases c.testBit i <;> cases v.testBit i <;> rfl
theorem cs_xn2 (a b c v : Nat) : (a ^^^ b ^^^ c) ^^^ c ^^^ v = a ^^^ b ^^^ v := by
  apply Nat.eq_of_testBit_eq
  intro i
  simp only [Nat.testBit_xor]
  cases a.testBit i <;> cases b.testBit i <;> cases c.testBit i <;> cases v.testBit i <;> rfl
/-- a row longer by one byte -/
def cs_A (S S' : cs_St) (r k x : Nat) : Prop := cs_n S' = cs_n S ∧ cs_ln S' r = k + 1 ∧ (∀ q, q ≠ r → cs_ln S' q = cs_ln S q) ∧ cs_by S' r k = x ∧ (∀ j, j ≠ k → cs_by S' r j = cs_by S r j) ∧ (∀ q, q ≠ r → cs_by S' q = cs_by S q)
theorem cs_Aput (S : cs_St) (r k x : Nat) : cs_A S (cs_put S r (k + 1) (va_up (cs_by S r) k x)) r k x := by
  refine ⟨rfl, cs_put_ln, fun q h => cs_put_lnN h, ?_, fun j h => ?_, fun q h => cs_put_byN h⟩
  · rw [cs_put_by, va_up_self]
  · rw [cs_put_by, va_up_ne _ _ h]
/-- a byte changed -/
def cs_G (S S' : cs_St) (r k x : Nat) : Prop := cs_n S' = cs_n S ∧ (∀ q, cs_ln S' q = cs_ln S q) ∧ cs_by S' r k = x ∧ (∀ j, j ≠ k → cs_by S' r j = cs_by S r j) ∧ (∀ q, q ≠ r → cs_by S' q = cs_by S q)
theorem cs_Gput (S : cs_St) (r k x : Nat) : cs_G S (cs_put S r (cs_ln S r) (va_up (cs_by S r) k x)) r k x := by
  refine ⟨rfl, fun q => ?_, ?_, fun j h => ?_, fun q h => cs_put_byN h⟩
  · by_cases h : q = r
    · rw [h, cs_put_ln]
    · exact cs_put_lnN h
  · rw [cs_put_by, va_up_self]
  · rw [cs_put_by, va_up_ne _ _ h]
theorem cs_A4 {S S1 S2 S3 S4 : cs_St} {k x y z u : Nat} (h1 : cs_A S S1 0 k x) (h2 : cs_A S1 S2 1 k y) (h3 : cs_A S2 S3 2 k z) (h4 : cs_A S3 S4 3 k u) (hu : u = x ^^^ y ^^^ z) (hy : cs_y4 S k) : cs_n S4 = cs_n S ∧ (∀ r, r < 4 → cs_ln S4 r = k + 1) ∧ cs_y4 S4 (k + 1) := by
  obtain ⟨a1, b1, c1, d1, e1, f1⟩ := h1
  obtain ⟨a2, b2, c2, d2, e2, f2⟩ := h2
  obtain ⟨a3, b3, c3, d3, e3, f3⟩ := h3
  obtain ⟨a4, b4, c4, d4, e4, f4⟩ := h4
  refine ⟨by omega, fun r hr => ?_, fun j hj => ?_⟩
  · rcases (show r = 0 ∨ r = 1 ∨ r = 2 ∨ r = 3 by omega) with rfl | rfl | rfl | rfl
    · rw [c4 0 (by decide), c3 0 (by decide), c2 0 (by decide), b1]
    · rw [c4 1 (by decide), c3 1 (by decide), b2]
    · rw [c4 2 (by decide), b3]
    · exact b4
  · rw [f4 0 (by decide), f3 0 (by decide), f2 0 (by decide), f4 1 (by decide), f3 1 (by decide), f4 2 (by decide)]
    by_cases q : j = k
    · subst q
      rw [d4, d3, d2, d1, hu]
    · rw [e4 j q, e3 j q, e2 j q, e1 j q, f3 3 (by decide), f2 3 (by decide), f1 3 (by decide), f2 2 (by decide), f1 2 (by decide), f1 1 (by decide)]
      exact hy j (by omega)
theorem cs_G2 {S S1 S2 : cs_St} {r i v u N : Nat} (hr : r < 3) (hi : i < N) (h1 : cs_G S S1 r i v) (h2 : cs_G S1 S2 3 i u) (hu : u = cs_by S 3 i ^^^ cs_by S r i ^^^ v) (hy : cs_y4 S N) : cs_n S2 = cs_n S ∧ (∀ r, cs_ln S2 r = cs_ln S r) ∧ cs_y4 S2 N := by
  obtain ⟨a1, b1, c1, d1, e1⟩ := h1
  obtain ⟨a2, b2, c2, d2, e2⟩ := h2
  refine ⟨by omega, fun r => by rw [b2, b1], fun j hj => ?_⟩
  rw [e2 0 (by decide), e2 1 (by decide), e2 2 (by decide)]
  by_cases q : j = i
  · subst q
    rw [c2, hu, hy j hi]
    rcases (show r = 0 ∨ r = 1 ∨ r = 2 by omega) with rfl | rfl | rfl
    · rw [c1, e1 1 (by decide), e1 2 (by decide)]
      exact cs_xn0 _ _ _ _
    · rw [c1, e1 0 (by decide), e1 2 (by decide)]
      exact cs_xn1 _ _ _ _
    · rw [c1, e1 0 (by decide), e1 1 (by decide)]
      exact cs_xn2 _ _ _ _
  · rw [d2 j q, e1 3 (by omega), hy j hj]
    rcases (show r = 0 ∨ r = 1 ∨ r = 2 by omega) with rfl | rfl | rfl
    · rw [d1 j q, e1 1 (by decide), e1 2 (by decide)]
    · rw [d1 j q, e1 0 (by decide), e1 2 (by decide)]
    · rw [d1 j q, e1 0 (by decide), e1 1 (by decide)]
section CSLO
variable {p : Program} {l : Launch} {e : Env} {s : State} {m : MethodId} {b : Nat} {below : List Frame} {meth : Method} {c : Code} {Q : State → Prop} {L : Nat} {xs : Nat → Int32} {D : va_G} {cy : Nat → ClassId}
set_option maxHeartbeats 4000000 in
set_option maxRecDepth 100000 in
theorem lw_l2 (C0 : cs_C p l s m c b L xs D cy) {ad : Nat → Nat} {N c1 s1 : Nat} (hN : N ≤ 40) (hc1 : c1 ≤ 600074) (hs1 : s1 ≤ 7301550)
    (kend : ∀ (S : cs_St) (H : Heap) (locs : List Loc) (ls : Array Slot), cs_okk S → cs_n S = 6 → (∀ r, r < 4 → cs_ln S r = N) → cs_y4 S N → cs_LS D s H locs S ad cy → lv_has ls 14 [(0, .ref b), (1, .ref (ad 0)), (2, .int (nI 1)), (3, .int (nI N)), (4, .int (nI N))] → W p l e room_1 s m #[.ref b] below meth c H locs c1 s1 Q (F0 m 256 ls [])) :
    ∀ (n k cells slots : Nat) (S : cs_St) (H : Heap) (locs : List Loc) (ls : Array Slot), k + n = N → cells + 12 * n ≤ c1 → slots + 72 * n ≤ s1 → cs_okk S → cs_n S = 6 → (∀ r, r < 4 → cs_ln S r = k) → cs_y4 S k → cs_LS D s H locs S ad cy → lv_has ls 14 [(0, .ref b), (1, .ref (ad 0)), (2, .int (nI 1)), (3, .int (nI N)), (4, .int (nI k))] → W p l e room_1 s m #[.ref b] below meth c H locs cells slots Q (F0 m 130 ls []) := by
  obtain ⟨hx, hb, hml, -, hown, hts, -⟩ := id C0
  intro n
  induction n with
  | zero =>
    intro k cells slots S H locs ls hkn hc hs hok hn hln hy hLS hl
    have hk6 : k = N := by omega
    subst hk6
    refine lv_iload hx hb dL_law_130 (lv_at hl 4 rfl) ?_
    refine lv_iload_n hx hb dL_law_132 rfl (lv_at hl 3 rfl) ?_
    exact lv_icmp_ge (tgt := 256) hx hb dL_law_133 (by decide) (fun _ => W.widen (by omega) (by omega) (kend S H locs ls hok hn hln hy hLS hl)) (fun h => absurd (nI_le (Nat.le_refl _) (by omega)) h)
  | succ n ih =>
    intro k cells slots S H locs ls hkn hc hs hok hn hln hy hLS hl
    refine lv_iload hx hb dL_law_130 (lv_at hl 4 rfl) ?_
    refine lv_iload_n hx hb dL_law_132 rfl (lv_at hl 3 rfl) ?_
    refine lv_icmp_ge (tgt := 256) hx hb dL_law_133 (by decide) (fun h => absurd h (nI_ge (by omega) (by omega))) (fun _ => ?_)
    refine lv_iload_n hx hb dL_law_136 rfl (lv_at hl 2 rfl) ?_
    refine lv_if_eq (tgt := 256) hx hb dL_law_137 (by decide) (fun h => absurd h (by decide)) (fun _ => ?_)
    refine lv_aload_n hx hb dL_law_140 rfl (lv_at hl 0 rfl) ?_
    refine lv_bipush (v := nI 7) hx hb dL_law_141 (by decide) ?_
    refine lv_iload hx hb dL_law_143 (lv_at hl 4 rfl) ?_
    refine lv_iadd hx hb dL_law_145 ?_
    refine cs_top (y := nI (7 + k)) (nI_add 7 k) ?_
    refine lw_dr (rest := []) C0 hLS.2.2 hl (k := 7 + k) (by omega) (Nat.le_of_ble_eq_true rfl) (by omega) (by omega) dL_law_146 ?_
    have hz9 := cs_zn_lt L xs (7 + k)
    generalize cs_zn L xs (7 + k) = z at hz9 ⊢
    refine lv_istore (lv' := [(5, .int (nI z)), (0, .ref b), (1, .ref (ad 0)), (2, .int (nI 1)), (3, .int (nI N)), (4, .int (nI k))]) hx hb dL_law_149 hl (by decide) rfl (fun ls hl => ?_)
    refine lv_iload hx hb dL_law_151 (lv_at hl 0 rfl) ?_
    refine lv_sipush (v := nI 256) hx hb dL_law_153 (by decide) ?_
    refine lv_irem hx hb dL_law_156 (nI_ne0 (by omega) (by omega)) ?_
    refine cs_top (y := nI (z % 256)) (pk_rem (by omega) (by omega) (by omega)) ?_
    obtain ⟨ya, hya0, eya⟩ : ∃ ya : Nat, ya < 256 ∧ z % 256 = ya := ⟨_, Nat.mod_lt _ (by decide), rfl⟩
    refine cs_top (y := nI ya) (congrArg nI eya) ?_
    refine lv_istore (lv' := [(6, .int (nI ya)), (5, .int (nI z)), (0, .ref b), (1, .ref (ad 0)), (2, .int (nI 1)), (3, .int (nI N)), (4, .int (nI k))]) hx hb dL_law_157 hl (by decide) rfl (fun ls hl => ?_)
    refine lv_iload hx hb dL_law_159 (lv_at hl 1 rfl) ?_
    refine lv_sipush (v := nI 256) hx hb dL_law_161 (by decide) ?_
    refine lv_idiv hx hb dL_law_164 (nI_ne0 (by omega) (by omega)) ?_
    refine cs_top (y := nI (z / 256)) (pk_div (by omega) (by omega) (by omega)) ?_
    refine lv_sipush (v := nI 256) hx hb dL_law_165 (by decide) ?_
    refine lv_irem hx hb dL_law_168 (nI_ne0 (by omega) (by omega)) ?_
    refine cs_top (y := nI ((z / 256) % 256)) (pk_rem (by omega) (by omega) (by omega)) ?_
    obtain ⟨yb, hyb0, eyb⟩ : ∃ yb : Nat, yb < 256 ∧ (z / 256) % 256 = yb := ⟨_, Nat.mod_lt _ (by decide), rfl⟩
    refine cs_top (y := nI yb) (congrArg nI eyb) ?_
    refine lv_istore (lv' := [(7, .int (nI yb)), (6, .int (nI ya)), (5, .int (nI z)), (0, .ref b), (1, .ref (ad 0)), (2, .int (nI 1)), (3, .int (nI N)), (4, .int (nI k))]) hx hb dL_law_169 hl (by decide) rfl (fun ls hl => ?_)
    refine lv_iload hx hb dL_law_171 (lv_at hl 2 rfl) ?_
    refine lv_ldc (v := nI 65536) hx hb hown (hts (.constant RL 56 (nI 65536)) (by decide +kernel)) dL_law_173 ?_
    refine lv_idiv hx hb dL_law_175 (nI_ne0 (by omega) (by omega)) ?_
    refine cs_top (y := nI (z / 65536)) (pk_div (by omega) (by omega) (by omega)) ?_
    refine lv_sipush (v := nI 256) hx hb dL_law_176 (by decide) ?_
    refine lv_irem hx hb dL_law_179 (nI_ne0 (by omega) (by omega)) ?_
    refine cs_top (y := nI ((z / 65536) % 256)) (pk_rem (by omega) (by omega) (by omega)) ?_
    obtain ⟨yc, hyc0, eyc⟩ : ∃ yc : Nat, yc < 256 ∧ (z / 65536) % 256 = yc := ⟨_, Nat.mod_lt _ (by decide), rfl⟩
    refine cs_top (y := nI yc) (congrArg nI eyc) ?_
    refine lv_istore (lv' := [(8, .int (nI yc)), (7, .int (nI yb)), (6, .int (nI ya)), (5, .int (nI z)), (0, .ref b), (1, .ref (ad 0)), (2, .int (nI 1)), (3, .int (nI N)), (4, .int (nI k))]) hx hb dL_law_180 hl (by decide) rfl (fun ls hl => ?_)
    refine lv_aload_n hx hb dL_law_182 rfl (lv_at hl 5 rfl) ?_
    refine lv_iconst (v := nI 0) hx hb dL_law_183 (by decide) ?_
    refine lv_iload hx hb dL_law_184 (lv_at hl 2 rfl) ?_
    refine lw_ad C0 hok hLS hl (r := 0) (x := ya) (k := k) (by decide) hya0 (hln 0 (by decide)) (by omega) (by omega) (by omega) dL_law_186 (fun H locs hok hLS => ?_)
    have hA1 := cs_Aput S 0 k ya
    generalize cs_put S 0 (k + 1) (va_up (cs_by S 0) k ya) = S1 at hok hLS hA1
    refine lv_iload hx hb dL_law_189 (lv_at hl 8 rfl) ?_
    refine lv_iconst (v := nI 1) hx hb dL_law_191 (by decide) ?_
    refine lv_iadd hx hb dL_law_192 ?_
    refine cs_top (y := nI (k + 1)) (nI_add k 1) ?_
    refine lv_icmp_ne (tgt := 248) hx hb dL_law_193 (by decide) (fun h => absurd (rfl) h) (fun _ => ?_)
    refine lv_aload_n hx hb dL_law_196 rfl (lv_at hl 5 rfl) ?_
    refine lv_iconst (v := nI 1) hx hb dL_law_197 (by decide) ?_
    refine lv_iload hx hb dL_law_198 (lv_at hl 1 rfl) ?_
    refine lw_ad C0 hok hLS hl (r := 1) (x := yb) (k := k) (by decide) hyb0 ((hA1.2.2.1 1 (by decide)).trans (hln 1 (by decide))) (by omega) (by omega) (by omega) dL_law_200 (fun H locs hok hLS => ?_)
    have hA2 := cs_Aput S1 1 k yb
    generalize cs_put S1 1 (k + 1) (va_up (cs_by S1 1) k yb) = S2 at hok hLS hA2
    refine lv_iload hx hb dL_law_203 (lv_at hl 8 rfl) ?_
    refine lv_iconst (v := nI 1) hx hb dL_law_205 (by decide) ?_
    refine lv_iadd hx hb dL_law_206 ?_
    refine cs_top (y := nI (k + 1)) (nI_add k 1) ?_
    refine lv_icmp_ne (tgt := 248) hx hb dL_law_207 (by decide) (fun h => absurd (rfl) h) (fun _ => ?_)
    refine lv_aload_n hx hb dL_law_210 rfl (lv_at hl 5 rfl) ?_
    refine lv_iconst (v := nI 2) hx hb dL_law_211 (by decide) ?_
    refine lv_iload hx hb dL_law_212 (lv_at hl 0 rfl) ?_
    refine lw_ad C0 hok hLS hl (r := 2) (x := yc) (k := k) (by decide) hyc0 ((hA2.2.2.1 2 (by decide)).trans ((hA1.2.2.1 2 (by decide)).trans (hln 2 (by decide)))) (by omega) (by omega) (by omega) dL_law_214 (fun H locs hok hLS => ?_)
    have hA3 := cs_Aput S2 2 k yc
    generalize cs_put S2 2 (k + 1) (va_up (cs_by S2 2) k yc) = S3 at hok hLS hA3
    refine lv_iload hx hb dL_law_217 (lv_at hl 8 rfl) ?_
    refine lv_iconst (v := nI 1) hx hb dL_law_219 (by decide) ?_
    refine lv_iadd hx hb dL_law_220 ?_
    refine cs_top (y := nI (k + 1)) (nI_add k 1) ?_
    refine lv_icmp_ne (tgt := 248) hx hb dL_law_221 (by decide) (fun h => absurd (rfl) h) (fun _ => ?_)
    refine lv_aload_n hx hb dL_law_224 rfl (lv_at hl 5 rfl) ?_
    refine lv_iconst (v := nI 3) hx hb dL_law_225 (by decide) ?_
    refine lv_iload hx hb dL_law_226 (lv_at hl 2 rfl) ?_
    refine lv_iload hx hb dL_law_228 (lv_at hl 1 rfl) ?_
    refine lv_ixor hx hb dL_law_230 ?_
    refine cs_top (y := nI (ya ^^^ yb)) (cs_nIx (by omega) (by omega)) ?_
    obtain ⟨u1, hu10, eu1⟩ : ∃ u1 : Nat, u1 < 256 ∧ ya ^^^ yb = u1 := ⟨_, cs_x256 hya0 hyb0, rfl⟩
    refine cs_top (y := nI u1) (congrArg nI eu1) ?_
    refine lv_iload hx hb dL_law_231 (lv_at hl 0 rfl) ?_
    refine lv_ixor hx hb dL_law_233 ?_
    refine cs_top (y := nI (u1 ^^^ yc)) (cs_nIx (by omega) (by omega)) ?_
    obtain ⟨u2, hu20, eu2⟩ : ∃ u2 : Nat, u2 < 256 ∧ u1 ^^^ yc = u2 := ⟨_, cs_x256 hu10 hyc0, rfl⟩
    refine cs_top (y := nI u2) (congrArg nI eu2) ?_
    refine lw_ad C0 hok hLS hl (r := 3) (x := u2) (k := k) (by decide) hu20 ((hA3.2.2.1 3 (by decide)).trans ((hA2.2.2.1 3 (by decide)).trans ((hA1.2.2.1 3 (by decide)).trans (hln 3 (by decide))))) (by omega) (by omega) (by omega) dL_law_234 (fun H locs hok hLS => ?_)
    have hA4 := cs_Aput S3 3 k u2
    generalize cs_put S3 3 (k + 1) (va_up (cs_by S3 3) k u2) = S4 at hok hLS hA4
    refine lv_iload hx hb dL_law_237 (lv_at hl 8 rfl) ?_
    refine lv_iconst (v := nI 1) hx hb dL_law_239 (by decide) ?_
    refine lv_iadd hx hb dL_law_240 ?_
    refine cs_top (y := nI (k + 1)) (nI_add k 1) ?_
    refine lv_icmp_ne (tgt := 248) hx hb dL_law_241 (by decide) (fun h => absurd (rfl) h) (fun _ => ?_)
    refine lv_iconst (v := nI 1) hx hb dL_law_244 (by decide) ?_
    refine lv_goto (tgt := 249) hx hb dL_law_245 (by decide) ?_
    refine lv_istore_n (lv' := [(2, .int (nI 1)), (8, .int (nI yc)), (7, .int (nI yb)), (6, .int (nI ya)), (5, .int (nI z)), (0, .ref b), (1, .ref (ad 0)), (3, .int (nI N)), (4, .int (nI k))]) hx hb dL_law_249 rfl hl (by decide) rfl (fun ls hl => ?_)
    refine lv_iinc (v := nI (k + 1)) (lv' := [(4, .int (nI (k + 1))), (2, .int (nI 1)), (8, .int (nI yc)), (7, .int (nI yb)), (6, .int (nI ya)), (5, .int (nI z)), (0, .ref b), (1, .ref (ad 0)), (3, .int (nI N))]) hx hb dL_law_250 hl (k := 8) rfl (cs_inc1 k) (by decide) rfl (fun ls hl => ?_)
    refine lv_goto (tgt := 130) hx hb dL_law_253 (by decide) ?_
    obtain ⟨hn4, hln4, hy4⟩ := cs_A4 hA1 hA2 hA3 hA4 (by rw [← eu2, ← eu1]) hy
    exact ih (k + 1) (cells + 3 + 3 + 3 + 3) (slots + 18 + 18 + 18 + 18) S4 H locs ls (by omega) (by omega) (by omega) hok (hn4.trans hn) hln4 hy4 hLS (lv_sub hl [6, 7, 1, 8, 0] rfl)
end CSLO
