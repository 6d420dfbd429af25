/-! what each call answers: k its exception's number, v its answer, s the state behind it -/
theorem cs_inW {A0 : Nat → Prop} {w : va_W} {H0 H : Heap} {locs : List Loc} (hD : va_D A0 w) (hS : va_S A0 H0 H locs) (hA : ∀ q, H0.size ≤ q → A0 q) : ∀ q, va_A w H.size q → A0 q := fun q h => by
  rcases h with ⟨k, e, h⟩ | h
  · exact hD.2 k (q, e) h
  · exact hA q (Nat.le_trans hS.1 h)
section CSP
variable {S : cs_St} {th : Int32} {bd : Nat → Nat} {cy : Nat → ClassId} {r l l' : Nat} {f : Nat → Nat}
theorem cs_put_ln : cs_ln (cs_put S r l f) r = l := va_up_self _ _ _
theorem cs_put_by : cs_by (cs_put S r l f) r = f := va_up_self _ _ _
theorem cs_put_lnN {k : Nat} (h : k ≠ r) : cs_ln (cs_put S r l f) k = cs_ln S k := va_up_ne _ _ h
theorem cs_put_byN {k : Nat} (h : k ≠ r) : cs_by (cs_put S r l f) k = cs_by S k := va_up_ne _ _ h
theorem cs_upup {α : Type} (g : Nat → α) (k : Nat) (x y : α) : va_up (va_up g k x) k y = va_up g k y := bx_uu g k x y
theorem cs_upid {α : Type} (g : Nat → α) (k : Nat) : va_up g k (g k) = g := funext fun j => by
  by_cases h : j = k
  · subst h; rw [va_up_self]
  · rw [va_up_ne _ _ h]
theorem cs_put_put {f' : Nat → Nat} : cs_put (cs_put S r l f) r l' f' = cs_put S r l' f' := by
  unfold cs_put
  rw [cs_upup, cs_upup]
theorem cs_put_id : cs_put S r (cs_ln S r) (cs_by S r) = S := by
  unfold cs_put cs_ln cs_by
  rw [cs_upid, cs_upid]
theorem cs_setB {j0 b : Nat} (hj : j0 < 256) : (cs_R S th bd cy).set 7 (bd 7, .inl (cy 0, 1024, .inl (upd (fun j => nI (cs_by S (j / 256) (j % 256))) (256 * r + j0) (nI b)))) = cs_R (cs_put S r (cs_ln S r) (va_up (cs_by S r) j0 b)) th bd cy := by
  have e1 : upd (fun j => nI (cs_by S (j / 256) (j % 256))) (256 * r + j0) (nI b) = fun j => nI (cs_by (cs_put S r (cs_ln S r) (va_up (cs_by S r) j0 b)) (j / 256) (j % 256)) := funext fun j => by
    by_cases h : j = 256 * r + j0
    · subst h
      rw [pk_us, show (256 * r + j0) / 256 = r by omega, show (256 * r + j0) % 256 = j0 by omega, cs_put_by, va_up_self]
    · rw [pk_un h]
      by_cases h2 : j / 256 = r
      · rw [h2, cs_put_by, va_up_ne _ _ (by omega)]
      · rw [cs_put_byN h2]
  have e2 : cs_ln (cs_put S r (cs_ln S r) (va_up (cs_by S r) j0 b)) = cs_ln S := cs_upid _ _
  rw [e1]
  unfold cs_R
  rw [e2]
  rfl
theorem cs_setL : (cs_R S th bd cy).set 8 (bd 8, .inl (cy 0, 4, .inl (upd (fun j => nI (cs_ln S j)) r (nI l)))) = cs_R (cs_put S r l (cs_by S r)) th bd cy := by
  have e1 : upd (fun j => nI (cs_ln S j)) r (nI l) = fun j => nI (cs_ln (cs_put S r l (cs_by S r)) j) := funext fun j => by
    by_cases h : j = r
    · subst h; rw [pk_us, cs_put_ln]
    · rw [pk_un h, cs_put_lnN h]
  have e2 : cs_by (cs_put S r l (cs_by S r)) = cs_by S := cs_upid _ _
  rw [e1]
  unfold cs_R
  rw [e2]
  rfl
end CSP
theorem cs_ok_put {S : cs_St} (hS : cs_ok S) {r l : Nat} {f : Nat → Nat} (hl : l ≤ 256) (hf : ∀ j, f j < 256) : cs_ok (cs_put S r l f) := by
  refine ⟨hS.1, hS.2.1, fun k => ?_, fun k j => ?_⟩
  · by_cases h : k = r
    · subst h; rw [cs_put_ln]; exact hl
    · rw [cs_put_lnN h]; exact hS.2.2.1 k
  · by_cases h : k = r
    · subst h; rw [cs_put_by]; exact hf j
    · rw [cs_put_byN h]; exact hS.2.2.2 k j
theorem cs_up_lt {f : Nat → Nat} (hf : ∀ j, f j < 256) {k b : Nat} (hb : b < 256) : ∀ j, va_up f k b j < 256 := fun j => by
  by_cases h : j = k
  · subst h; rw [va_up_self]; exact hb
  · rw [va_up_ne _ _ h]; exact hf j
def cs_c (v : Int32) : Nat := v.toNatClampNeg
theorem cs_cI {k : Nat} (h : k < 2 ^ 31) : cs_c (nI k) = k := nI_clamp h
def cs_M (S : cs_St) (m : Int32) : Bool := cs_in m 0 (nI (cs_n S) - 1)
def cs_nS (S : cs_St) (m v : Int32) : Bool := cs_nb v (nI (cs_w S (cs_c m)))
/-- define -/
def cs_bDef (a0 a1 a2 a5 : Int32) : Bool := cs_in a0 1 32 && cs_nb a1 a0 && cs_nb a2 a0 && cs_nb a5 a0
def cs_kDef (S : cs_St) (a0 a1 a2 a5 : Int32) : Int32 := cs_k2 (cs_bDef a0 a1 a2 a5) (decide (cs_n S < 6))
def cs_sDef (S : cs_St) (a0 a1 a2 : Int32) (a3 a4 : Bool) (a5 : Int32) : cs_St := if cs_kDef S a0 a1 a2 a5 = 0 then cs_def S (cs_c a0) a1 a2 a3 a4 a5 else S
/-- check -/
def cs_psS (S : cs_St) (m : Int32) (f : Nat → Nat) (a n : Nat) : Int32 := cs_so (cs_ro S (cs_c m)) (cs_w S (cs_c m)) (cs_ps (cs_w S (cs_c m)) (cs_p S (cs_c m)) (cs_ri S (cs_c m)) (cs_i S (cs_c m)) f a n) ^^^ cs_x S (cs_c m)
def cs_vChk (S : cs_St) (m : Int32) : Int32 := cs_psS S m (fun j => j) 49 9
/-- multiply -/
def cs_kMul (S : cs_St) (m a b : Int32) : Int32 := cs_k2 (cs_M S m) (cs_M S m && cs_nS S m a && cs_nS S m b)
def cs_vMul (S : cs_St) (m a b : Int32) : Int32 := cs_mul (cs_w S (cs_c m)) (cs_p S (cs_c m)) a b (cs_w S (cs_c m))
/-- power -/
def cs_kPow (S : cs_St) (m : Int32) (x : Int64) : Int32 := cs_k2 (cs_M S m) (decide (0 ≤ x))
def cs_vPow (S : cs_St) (m : Int32) (x : Int64) : Int32 := cs_pow (cs_w S (cs_c m)) (cs_p S (cs_c m)) x
/-- period -/
def cs_kPer (S : cs_St) (m a : Int32) : Int32 := cs_k2 (cs_M S m) (cs_in a 1 70000)
def cs_vPer (S : cs_St) (m a : Int32) : Int32 := cs_pe (cs_w S (cs_c m)) (cs_p S (cs_c m)) (cs_c a) 1 1
/-- append -/
def cs_kApp (S : cs_St) (r a : Int32) : Int32 := if cs_in r 0 3 = true then (if cs_in a 0 255 = true then (if cs_ln S (cs_c r) = 256 then 3 else 0) else 2) else 1
def cs_sApp (S : cs_St) (r a : Int32) : cs_St := if cs_kApp S r a = 0 then cs_put S (cs_c r) (cs_ln S (cs_c r) + 1) (va_up (cs_by S (cs_c r)) (cs_ln S (cs_c r)) (cs_c a)) else S
def cs_vApp (S : cs_St) (r : Int32) : Int32 := nI (cs_ln S (cs_c r) + 1)
/-- appendSeries -/
def cs_bSer (a b n : Int32) : Bool := cs_in a 0 255 && cs_in b 0 255 && cs_in n 1 256
def cs_kSer (S : cs_St) (r a b n : Int32) : Int32 := if cs_in r 0 3 = true then (if cs_bSer a b n = true then (if 256 < cs_ln S (cs_c r) + cs_c n then 3 else 0) else 2) else 1
/-- g put behind the first l of f, m of them -/
def cs_fil (f g : Nat → Nat) (l : Nat) : Nat → Nat → Nat
  | 0 => f
  | m + 1 => va_up (cs_fil f g l m) (l + m) (g m)
def cs_gSer (a b : Int32) (j : Nat) : Nat := (cs_c a + cs_c b * j) % 256
def cs_sSer (S : cs_St) (r a b n : Int32) : cs_St := if cs_kSer S r a b n = 0 then cs_put S (cs_c r) (cs_ln S (cs_c r) + cs_c n) (cs_fil (cs_by S (cs_c r)) (cs_gSer a b) (cs_ln S (cs_c r)) (cs_c n)) else S
def cs_vSer (S : cs_St) (r n : Int32) : Int32 := nI (cs_ln S (cs_c r) + cs_c n)
/-- appendRow -/
def cs_bRow (r q : Int32) : Bool := cs_in r 0 3 && cs_in q 0 3
def cs_kRow (S : cs_St) (r q : Int32) : Int32 := cs_k2 (cs_bRow r q) (cs_bRow r q && decide (cs_ln S (cs_c r) + cs_ln S (cs_c q) ≤ 256))
def cs_sRow (S : cs_St) (r q : Int32) : cs_St := if cs_kRow S r q = 0 then cs_put S (cs_c r) (cs_ln S (cs_c r) + cs_ln S (cs_c q)) (cs_fil (cs_by S (cs_c r)) (cs_by S (cs_c q)) (cs_ln S (cs_c r)) (cs_ln S (cs_c q))) else S
def cs_vRow (S : cs_St) (r q : Int32) : Int32 := nI (cs_ln S (cs_c r) + cs_ln S (cs_c q))
/-- setByte -/
def cs_kSet (S : cs_St) (r j a : Int32) : Int32 := cs_k2 (cs_pl S r j) (cs_in a 0 255)
def cs_sSet (S : cs_St) (r j a : Int32) : cs_St := if cs_kSet S r j a = 0 then cs_put S (cs_c r) (cs_ln S (cs_c r)) (va_up (cs_by S (cs_c r)) (cs_c j) (cs_c a)) else S
def cs_vByt (S : cs_St) (r j : Int32) : Int32 := nI (cs_by S (cs_c r) (cs_c j))
/-- truncate -/
def cs_kTru (S : cs_St) (r n : Int32) : Int32 := cs_k2 (cs_in r 0 3) (cs_in r 0 3 && cs_in n 0 (nI (cs_ln S (cs_c r))))
def cs_sTru (S : cs_St) (r n : Int32) : cs_St := if cs_kTru S r n = 0 then cs_put S (cs_c r) (cs_c n) (cs_by S (cs_c r)) else S
def cs_vTru (S : cs_St) (r n : Int32) : Int32 := nI (cs_ln S (cs_c r)) - n
/-- sum, sumOfPart, remainder -/
def cs_vSum (S : cs_St) (m r : Int32) : Int32 := cs_psS S m (cs_by S (cs_c r)) 0 (cs_ln S (cs_c r))
def cs_kPar (S : cs_St) (m r a b : Int32) : Int32 := cs_k1 (cs_M S m && cs_in r 0 3 && cs_in a 0 (nI (cs_ln S (cs_c r))) && cs_in b a (nI (cs_ln S (cs_c r))))
def cs_vPar (S : cs_St) (m r a b : Int32) : Int32 := cs_psS S m (cs_by S (cs_c r)) (cs_c a) (cs_c b - cs_c a)
def cs_vRem (S : cs_St) (m r : Int32) : Int32 := cs_rs (cs_w S (cs_c m)) (cs_p S (cs_c m)) (cs_by S (cs_c r)) (cs_ln S (cs_c r))
/-- joined, patched, wrongBit -/
def cs_kJoi (S : cs_St) (m a b n : Int32) : Int32 := cs_k2 (cs_M S m) (cs_M S m && cs_nS S m a && cs_nS S m b && decide (0 ≤ n))
def cs_reg (S : cs_St) (m a : Int32) : Int32 := cs_so (cs_ro S (cs_c m)) (cs_w S (cs_c m)) (a ^^^ cs_x S (cs_c m))
def cs_sum (S : cs_St) (m a : Int32) : Int32 := cs_so (cs_ro S (cs_c m)) (cs_w S (cs_c m)) a ^^^ cs_x S (cs_c m)
def cs_vJoi (S : cs_St) (m a b n : Int32) : Int32 := cs_sum S m (cs_reg S m b ^^^ cs_mul (cs_w S (cs_c m)) (cs_p S (cs_c m)) (cs_reg S m a ^^^ cs_i S (cs_c m)) (cs_pow (cs_w S (cs_c m)) (cs_p S (cs_c m)) (8 * n.toInt64)) (cs_w S (cs_c m)))
def cs_kPat (S : cs_St) (m a n d : Int32) : Int32 := cs_k2 (cs_M S m) (cs_M S m && cs_nS S m a && decide (0 ≤ n) && cs_in d 0 255)
def cs_vPat (S : cs_St) (m a n d : Int32) : Int32 := cs_sum S m (cs_reg S m a ^^^ cs_mul (cs_w S (cs_c m)) (cs_p S (cs_c m)) (cs_pow (cs_w S (cs_c m)) (cs_p S (cs_c m)) (8 * n.toInt64 + (nI (cs_w S (cs_c m))).toInt64)) (cs_od (cs_ri S (cs_c m)) d) 8)
def cs_kWro (S : cs_St) (m d n : Int32) : Int32 := cs_k2 (cs_M S m) (cs_M S m && cs_nS S m d && cs_in n 0 4000)
def cs_vWro (S : cs_St) (m d n : Int32) : Int32 := cs_wb (cs_w S (cs_c m)) (cs_p S (cs_c m)) (cs_so (cs_ro S (cs_c m)) (cs_w S (cs_c m)) d) (8 * cs_c n) (-1) (cs_p S (cs_c m))
/-- fletcher, adler -/
def cs_vFle (S : cs_St) (r : Int32) : Int32 := 256 * (cs_ra 255 0 (cs_by S (cs_c r)) (cs_ln S (cs_c r))).2 + (cs_ra 255 0 (cs_by S (cs_c r)) (cs_ln S (cs_c r))).1
def cs_kFlj (a b n : Int32) : Int32 := cs_k1 (cs_fk a && cs_fk b && decide (0 ≤ n))
def cs_vFlj (a b n : Int32) : Int32 := 256 * (cs_remL ((a / 256 + b / 256).toInt64 + n.toInt64 * (cs_rem a 256).toInt64) 255).toInt32 + cs_rem (cs_rem a 256 + cs_rem b 256) 255
def cs_vAdl (S : cs_St) (r : Int32) : Int32 := 65536 * (cs_ra 65521 1 (cs_by S (cs_c r)) (cs_ln S (cs_c r))).2 + (cs_ra 65521 1 (cs_by S (cs_c r)) (cs_ln S (cs_c r))).1
def cs_kAdj (a b n : Int32) : Int32 := cs_k1 (cs_ak a && cs_ak b && decide (0 ≤ n))
def cs_vAdj (a b n : Int32) : Int32 := cs_ad (((a &&& 65535) + (b &&& 65535)) - 1).toInt64 ((cs_ur a 16 + cs_ur b 16).toInt64 + n.toInt64 * ((a &&& 65535) - 1).toInt64)
def cs_kAdr (a n o i : Int32) : Int32 := cs_k1 (cs_ak a && decide (1 ≤ n) && cs_in o 0 255 && cs_in i 0 255)
def cs_vAdr (a n o i : Int32) : Int32 := cs_ad (((a &&& 65535) + i) - o).toInt64 ((((cs_ur a 16).toInt64 - n.toInt64 * o.toInt64) + (((a &&& 65535) + i) - o).toInt64) - 1)
theorem cs_k1_0 {b : Bool} : cs_k1 b = 0 ↔ b = true := by cases b <;> decide
theorem cs_k2_0 {b c : Bool} : cs_k2 b c = 0 ↔ (b && c) = true := by cases b <;> cases c <;> decide
theorem cs_and {b c : Bool} (h : (b && c) = true) : b = true ∧ c = true := by cases b <;> cases c <;> first | exact ⟨rfl, rfl⟩ | (exact absurd h (by decide))
theorem cs_in1_of {v : Int32} {n : Nat} (hn : n < 2 ^ 31) (h : cs_in v 1 (nI n) = true) : ∃ k, 1 ≤ k ∧ k ≤ n ∧ v = nI k := by
  have h1 := (cs_and h).1
  have h2 := (cs_and h).2
  rw [decide_eq_true_eq, Int32.le_iff_toInt_le] at h1
  have e1 : (1 : Int32).toInt = 1 := by decide
  have e0 : (0 : Int32).toInt = 0 := by decide
  have h4 : (0 : Int32) ≤ v := Int32.le_iff_toInt_le.mpr (by omega)
  obtain ⟨k, h3, rfl⟩ := cs_in_of (v := v) hn (by unfold cs_in; rw [h2, Bool.and_true]; exact decide_eq_true h4)
  rw [nI_toInt (by omega)] at h1
  exact ⟨k, by omega, h3, rfl⟩
theorem cs_serR {a b i : Nat} (ha : a < 256) (hb : b < 256) (hi : i < 256) : cs_rem (nI a + nI b * nI i) 256 = nI ((a + b * i) % 256) := by
  have h : b * i ≤ 255 * 255 := Nat.mul_le_mul (by omega) (by omega)
  rw [pk_mul, nI_add]
  exact pk_rem (by omega) (by decide) (by decide)
theorem cs_fil_lt {f g : Nat → Nat} (hf : ∀ j, f j < 256) (hg : ∀ j, g j < 256) (l : Nat) : ∀ m j, cs_fil f g l m j < 256
  | 0, j => hf j
  | m + 1, j => cs_up_lt (cs_fil_lt hf hg l m) (hg m) j
theorem cs_gSer_lt (a b : Int32) (j : Nat) : cs_gSer a b j < 256 := Nat.mod_lt _ (by decide)
theorem cs_pl_of {S : cs_St} (hS : cs_ok S) {v u : Int32} (h : cs_pl S v u = true) : ∃ r j, r < 4 ∧ j < cs_ln S r ∧ v = nI r ∧ u = nI j := by
  obtain ⟨h1, h2⟩ := cs_and h
  obtain ⟨r, hr, rfl⟩ := cs_row_of h1
  rw [nI_clamp (by omega)] at h2
  have hl := hS.2.2.1 r
  rcases Nat.eq_zero_or_pos (cs_ln S r) with h0 | h0
  · rw [h0] at h2
    obtain ⟨h3, h4⟩ := cs_and h2
    rw [decide_eq_true_eq, Int32.le_iff_toInt_le] at h3 h4
    have e2 : (nI 0 - 1).toInt = -1 := by decide
    have e3 : (0 : Int32).toInt = 0 := by decide
    omega
  · obtain ⟨n, hn⟩ : ∃ n, cs_ln S r = n + 1 := ⟨cs_ln S r - 1, by omega⟩
    rw [hn, nI_pred] at h2
    obtain ⟨j, h5, rfl⟩ := cs_in_of (by omega) h2
    exact ⟨r, j, hr, by omega, rfl, rfl⟩
theorem cs_in2_of {v : Int32} {a n : Nat} (ha : a < 2 ^ 31) (hn : n < 2 ^ 31) (h : cs_in v (nI a) (nI n) = true) : ∃ k, a ≤ k ∧ k ≤ n ∧ v = nI k := by
  have h1 := (cs_and h).1
  have h2 := (cs_and h).2
  rw [decide_eq_true_eq, Int32.le_iff_toInt_le, nI_toInt ha] at h1
  have e0 : (0 : Int32).toInt = 0 := by decide
  have h4 : (0 : Int32) ≤ v := Int32.le_iff_toInt_le.mpr (by omega)
  obtain ⟨k, h3, rfl⟩ := cs_in_of (v := v) hn (by unfold cs_in; rw [h2, Bool.and_true]; exact decide_eq_true h4)
  rw [nI_toInt (by omega)] at h1
  exact ⟨k, by omega, h3, rfl⟩
theorem cs_rmB : ∀ b, b < 256 → ∀ i, i < 8 → (nI b >>> ((7 - nI i) &&& 31)) &&& 1 = cs_bit (nI b) (nI (7 - i)) := cs_tqF
theorem cs_rm_rs {w : Nat} {p : Int32} {f : Nat → Nat} (hf : ∀ j, f j < 256) : ∀ n, cs_rm w p f (8 * n) = cs_rs w p f n
  | 0 => rfl
  | n + 1 => by
    have h : ∀ i, i < 8 → ((nI (f ((8 * n + i) / 8)) >>> ((7 - nI ((8 * n + i) % 8)) &&& 31)) &&& 1) = cs_bit (nI (f n)) (nI (7 - i)) := fun i hi => by
      rw [show (8 * n + i) / 8 = n by omega, show (8 * n + i) % 8 = i by omega]
      exact cs_rmB _ (hf n) i hi
    have h0 := h 0 (by decide)
    have h1 := h 1 (by decide)
    have h2 := h 2 (by decide)
    have h3 := h 3 (by decide)
    have h4 := h 4 (by decide)
    have h5 := h 5 (by decide)
    have h6 := h 6 (by decide)
    have h7 := h 7 (by decide)
    rw [Nat.add_zero] at h0
    rw [cs_rs, ← cs_rm_rs hf n, show 8 * (n + 1) = 8 * n + 7 + 1 from rfl]
    simp only [cs_rm, cs_dv, h0, h1, h2, h3, h4, h5, h6, h7]
theorem cs_fil_lo {f g : Nat → Nat} {l j : Nat} (h : j < l) : ∀ m, cs_fil f g l m j = f j
  | 0 => rfl
  | m + 1 => by rw [cs_fil, va_up_ne _ _ (by omega), cs_fil_lo h m]
theorem cs_rowE {S : cs_St} {r l m o i : Nat} (hi : i < cs_ln S o) (h2 : i < 256) : cs_by (cs_put S r l (cs_fil (cs_by S r) (cs_by S o) (cs_ln S r) m)) ((256 * o + i) / 256) ((256 * o + i) % 256) = cs_by S o i := by
  rw [show (256 * o + i) / 256 = o by omega, show (256 * o + i) % 256 = i by omega]
  by_cases h : o = r
  · subst h
    rw [cs_put_by, cs_fil_lo hi]
  · rw [cs_put_byN h]
theorem cs_upI {f : Nat → Int32} {k : Nat} {x : Int32} : upd f k x = va_up f k x := rfl
theorem cs_upN {f : Nat → Nat} {k b : Nat} : upd (fun j => nI (f j)) k (nI b) = fun j => nI (va_up f k b j) := funext fun j => by
  by_cases h : j = k
  · subst h; rw [pk_us, va_up_self]
  · rw [pk_un h, va_up_ne _ _ h]
theorem cs_upZ {f : Nat → Bool} {k : Nat} {b : Bool} : upd (fun j => cs_z (f j)) k (cs_z b) = fun j => cs_z (va_up f k b j) := funext fun j => by
  by_cases h : j = k
  · subst h; rw [pk_us, va_up_self]
  · rw [pk_un h, va_up_ne _ _ h]
theorem cs_defE {S : cs_St} {th : Int32} {bd : Nat → Nat} {cy : Nat → ClassId} {wd : Nat} {po ini xo : Int32} {ri ro : Bool} : ([
  (bd 0, .inr (2, [.ref (bd 1), .ref (bd 2), .ref (bd 3), .ref (bd 4), .ref (bd 5), .ref (bd 6), .int (nI (cs_n S + 1)), .ref (bd 7), .ref (bd 8), .int th])),
  (bd 1, .inl (cy 0, 6, .inl (upd (fun j => nI (cs_w S j)) (cs_n S) (nI wd)))),
  (bd 2, .inl (cy 0, 6, .inl (upd (fun j => cs_p S j) (cs_n S) po))),
  (bd 3, .inl (cy 0, 6, .inl (upd (fun j => cs_i S j) (cs_n S) ini))),
  (bd 4, .inl (cy 0, 6, .inl (upd (fun j => cs_x S j) (cs_n S) xo))),
  (bd 5, .inl (cy 1, 6, .inl (upd (fun j => cs_z (cs_ri S j)) (cs_n S) (cs_z ri)))),
  (bd 6, .inl (cy 1, 6, .inl (upd (fun j => cs_z (cs_ro S j)) (cs_n S) (cs_z ro)))),
  (bd 7, .inl (cy 0, 1024, .inl (fun j => nI (cs_by S (j / 256) (j % 256))))),
  (bd 8, .inl (cy 0, 4, .inl (fun j => nI (cs_ln S j))))] : va_W) = cs_R (cs_def S wd po ini ri ro xo) th bd cy := by
  rw [cs_upN, cs_upZ, cs_upZ, cs_upI, cs_upI, cs_upI]
  rfl

