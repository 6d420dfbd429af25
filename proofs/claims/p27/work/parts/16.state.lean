/-! the state of a laboratory: number of models, width, polynomial, first register, last, reflections; lengths of the rows, their bytes -/
abbrev cs_St : Type := Nat × (Nat → Nat) × (Nat → Int32) × (Nat → Int32) × (Nat → Int32) × (Nat → Bool) × (Nat → Bool) × (Nat → Nat) × (Nat → Nat → Nat)
def cs_n (S : cs_St) : Nat := S.1
def cs_w (S : cs_St) : Nat → Nat := S.2.1
def cs_p (S : cs_St) : Nat → Int32 := S.2.2.1
def cs_i (S : cs_St) : Nat → Int32 := S.2.2.2.1
def cs_x (S : cs_St) : Nat → Int32 := S.2.2.2.2.1
def cs_ri (S : cs_St) : Nat → Bool := S.2.2.2.2.2.1
def cs_ro (S : cs_St) : Nat → Bool := S.2.2.2.2.2.2.1
def cs_ln (S : cs_St) : Nat → Nat := S.2.2.2.2.2.2.2.1
def cs_by (S : cs_St) : Nat → Nat → Nat := S.2.2.2.2.2.2.2.2
def cs_ok (S : cs_St) : Prop := cs_n S ≤ 6 ∧ (∀ k, k < cs_n S → 1 ≤ cs_w S k ∧ cs_w S k ≤ 32) ∧ (∀ r, cs_ln S r ≤ 256) ∧ (∀ r j, cs_by S r j < 256)
/-- row r has l bytes, f its bytes -/
def cs_put (S : cs_St) (r l : Nat) (f : Nat → Nat) : cs_St := (S.1, S.2.1, S.2.2.1, S.2.2.2.1, S.2.2.2.2.1, S.2.2.2.2.2.1, S.2.2.2.2.2.2.1, va_up S.2.2.2.2.2.2.2.1 r l, va_up S.2.2.2.2.2.2.2.2 r f)
/-- one model more -/
def cs_def (S : cs_St) (wd : Nat) (po ini : Int32) (ri ro : Bool) (xo : Int32) : cs_St := (S.1 + 1, va_up S.2.1 S.1 wd, va_up S.2.2.1 S.1 po, va_up S.2.2.2.1 S.1 ini, va_up S.2.2.2.2.1 S.1 xo, va_up S.2.2.2.2.2.1 S.1 ri, va_up S.2.2.2.2.2.2.1 S.1 ro, S.2.2.2.2.2.2.2.1, S.2.2.2.2.2.2.2.2)
def cs_0 : cs_St := (0, fun _ => 0, fun _ => 0, fun _ => 0, fun _ => 0, fun _ => false, fun _ => false, fun _ => 0, fun _ _ => 0)
abbrev cs_tys (cy : Nat → ClassId) : List (ClassId × FieldType) := [(cy 0, .int), (cy 0, .int), (cy 0, .int), (cy 3, .object "ChecksumLab$Model"), (cy 4, .array .int)]
/-! the reference's world -/
def cs_R (S : cs_St) (th : Int32) (bd : Nat → Nat) (cy : Nat → ClassId) : va_W := [
  (bd 0, .inr (2, [.ref (bd 1), .ref (bd 2), .ref (bd 3), .ref (bd 4), .ref (bd 5), .ref (bd 6), .int (nI (cs_n S)), .ref (bd 7), .ref (bd 8), .int th])),
  (bd 1, .inl (cy 0, 6, .inl (fun j => nI (cs_w S j)))),
  (bd 2, .inl (cy 0, 6, .inl (fun j => cs_p S j))),
  (bd 3, .inl (cy 0, 6, .inl (fun j => cs_i S j))),
  (bd 4, .inl (cy 0, 6, .inl (fun j => cs_x S j))),
  (bd 5, .inl (cy 1, 6, .inl (fun j => cs_z (cs_ri S j)))),
  (bd 6, .inl (cy 1, 6, .inl (fun j => cs_z (cs_ro S j)))),
  (bd 7, .inl (cy 0, 1024, .inl (fun j => nI (cs_by S (j / 256) (j % 256))))),
  (bd 8, .inl (cy 0, 4, .inl (fun j => nI (cs_ln S j))))]
section CSW
variable {S : cs_St} {th : Int32} {bd : Nat → Nat} {cy : Nat → ClassId}
theorem cs_R0 : (cs_R S th bd cy)[0]? = some (bd 0, .inr (2, [.ref (bd 1), .ref (bd 2), .ref (bd 3), .ref (bd 4), .ref (bd 5), .ref (bd 6), .int (nI (cs_n S)), .ref (bd 7), .ref (bd 8), .int th])) := rfl
theorem cs_R1 : (cs_R S th bd cy)[1]? = some (bd 1, .inl (cy 0, 6, .inl (fun j => nI (cs_w S j)))) := rfl
theorem cs_R2 : (cs_R S th bd cy)[2]? = some (bd 2, .inl (cy 0, 6, .inl (fun j => cs_p S j))) := rfl
theorem cs_R3 : (cs_R S th bd cy)[3]? = some (bd 3, .inl (cy 0, 6, .inl (fun j => cs_i S j))) := rfl
theorem cs_R4 : (cs_R S th bd cy)[4]? = some (bd 4, .inl (cy 0, 6, .inl (fun j => cs_x S j))) := rfl
theorem cs_R5 : (cs_R S th bd cy)[5]? = some (bd 5, .inl (cy 1, 6, .inl (fun j => cs_z (cs_ri S j)))) := rfl
theorem cs_R6 : (cs_R S th bd cy)[6]? = some (bd 6, .inl (cy 1, 6, .inl (fun j => cs_z (cs_ro S j)))) := rfl
theorem cs_R7 : (cs_R S th bd cy)[7]? = some (bd 7, .inl (cy 0, 1024, .inl (fun j => nI (cs_by S (j / 256) (j % 256))))) := rfl
theorem cs_R8 : (cs_R S th bd cy)[8]? = some (bd 8, .inl (cy 0, 4, .inl (fun j => nI (cs_ln S j)))) := rfl
end CSW
theorem cs_256 (r j : Nat) : (256 : Int32) * nI r + nI j = nI (256 * r + j) := by
  show nI 256 * nI r + nI j = _
  rw [pk_mul, nI_add]
theorem cs_byE {S : cs_St} {r j : Nat} (hj : j < 256) : cs_by S ((256 * r + j) / 256) ((256 * r + j) % 256) = cs_by S r j := by
  rw [show (256 * r + j) / 256 = r by omega, show (256 * r + j) % 256 = j by omega]
/-! what is asked of arguments -/
theorem cs_inT {v lo hi : Int32} (h1 : lo ≤ v) (h2 : v ≤ hi) : cs_in v lo hi = true := by unfold cs_in; rw [decide_eq_true h1, decide_eq_true h2]; rfl
theorem cs_inF1 {v lo hi : Int32} (h1 : ¬ lo ≤ v) : cs_in v lo hi = false := by unfold cs_in; rw [decide_eq_false h1]; rfl
theorem cs_inF2 {v lo hi : Int32} (h2 : ¬ v ≤ hi) : cs_in v lo hi = false := by unfold cs_in; rw [decide_eq_false h2, Bool.and_false]
theorem cs_in_of {v : Int32} {n : Nat} (hn : n < 2 ^ 31) (h : cs_in v 0 (nI n) = true) : ∃ k, k ≤ n ∧ v = nI k := by
  unfold cs_in at h
  rw [Bool.and_eq_true, decide_eq_true_eq, decide_eq_true_eq] at h
  exact nI_of2 (nI_toInt hn) (fun z => by rw [Int32.lt_iff_toInt_lt] at z; have h1 := h.1; rw [Int32.le_iff_toInt_le] at h1; omega) h.2
theorem cs_row_of {v : Int32} (h : cs_in v 0 3 = true) : ∃ r, r < 4 ∧ v = nI r := by
  obtain ⟨k, h1, h2⟩ := cs_in_of (n := 3) (by omega) h
  exact ⟨k, by omega, h2⟩
theorem cs_byte_of {v : Int32} (h : cs_in v 0 255 = true) : ∃ b, b < 256 ∧ v = nI b := by
  obtain ⟨k, h1, h2⟩ := cs_in_of (n := 255) (by omega) h
  exact ⟨k, by omega, h2⟩
theorem cs_mod_of {S : cs_St} (hS : cs_ok S) {v : Int32} (h : cs_in v 0 (nI (cs_n S) - 1) = true) : ∃ k, k < cs_n S ∧ v = nI k := by
  have h6 := hS.1
  rcases Nat.eq_zero_or_pos (cs_n S) with h0 | h0
  · rw [h0] at h
    unfold cs_in at h
    rw [Bool.and_eq_true, decide_eq_true_eq, decide_eq_true_eq, Int32.le_iff_toInt_le, Int32.le_iff_toInt_le] at h
    have h2 : (nI 0 - 1).toInt = -1 := by decide
    have h3 : (0 : Int32).toInt = 0 := by decide
    omega
  · obtain ⟨n, hn⟩ : ∃ n, cs_n S = n + 1 := ⟨cs_n S - 1, by omega⟩
    rw [hn, nI_pred] at h
    obtain ⟨k, h1, h2⟩ := cs_in_of (by omega) h
    exact ⟨k, by omega, h2⟩
theorem cs_in_nI {k n : Nat} (h : k ≤ n) (hn : n < 2 ^ 31) : cs_in (nI k) 0 (nI n) = true := cs_inT (nI_pos' (by omega)) (nI_le h hn)
theorem cs_in_mod {k n : Nat} (h : k < n) (hn : n ≤ 6) : cs_in (nI k) 0 (nI n - 1) = true := by
  obtain ⟨m, rfl⟩ : ∃ m, n = m + 1 := ⟨n - 1, by omega⟩
  rw [nI_pred]
  exact cs_in_nI (by omega) (by omega)
def cs_k1 (b : Bool) : Int32 := if b = true then 0 else 1
def cs_k2 (b c : Bool) : Int32 := if b = true then (if c = true then 0 else 2) else 1
/-! the reference's own arithmetic -/
theorem cs_b1 (x : Int32) : x &&& 1 = 0 ∨ x &&& 1 = 1 := by
  have h : ∀ i, i < 32 → bt (x &&& 1) i = (decide (i = 0) && bt x 0) := fun i hi => by
    rw [b_and, (by decide +kernel : ∀ i, i < 32 → bt 1 i = decide (i = 0)) i hi]
    by_cases h0 : i = 0
    · subst h0; simp
    · simp [h0]
  cases hb : bt x 0
  · exact Or.inl (b_ext (fun i hi => by rw [h i hi, hb, b_0, Bool.and_false]))
  · exact Or.inr (b_ext (fun i hi => by rw [h i hi, hb, Bool.and_true, (by decide +kernel : ∀ i, i < 32 → bt 1 i = decide (i = 0)) i hi]))
theorem cs_hi {w : Nat} {v : Int32} (h1 : 1 ≤ w) (h2 : w ≤ 32) : cs_ur v (nI w - 1) &&& 1 = 1 ↔ ¬ v &&& cs_hb w = 0 := by
  obtain ⟨l, rfl⟩ : ∃ l, w = l + 1 := ⟨w - 1, by omega⟩
  rw [nI_pred]
  have h := nf_bit v l (by omega)
  have e : (1 : Int32) <<< (nI l &&& 31) = cs_hb (l + 1) := (by decide +kernel : ∀ l, l < 32 → (1 : Int32) <<< (nI l &&& 31) = cs_hb (l + 1)) l (by omega)
  rw [e] at h
  constructor
  · intro q z
    have := h.mpr z
    unfold cs_ur at q
    rw [q] at this
    exact absurd this (by decide)
  · intro q
    rcases cs_b1 (cs_ur v (nI l)) with z | z
    · exact absurd (h.mp z) q
    · exact z
theorem cs_mkR : ∀ w, w < 32 → 1 ≤ w → ((1 : Int32) <<< (nI w &&& 31)) - 1 = cs_mk w := by decide +kernel
theorem cs_mk32 (x : Int32) : x &&& cs_mk 32 = x := b_ext (fun i hi => by rw [b_and, show cs_mk 32 = -1 from by decide, b_m1 i hi, Bool.and_true])
theorem cs_T_r {w : Nat} {p v : Int32} (h1 : 1 ≤ w) (h2 : w ≤ 32) {t : Int32} (ht : t = (v <<< ((1 : Int32) &&& 31)) &&& cs_mk w) (b : Bool) (hb : b = true ↔ cs_ur v (nI w - 1) &&& 1 = 1) : (if b = true then t ^^^ p else t) = cs_T w p v := by
  subst ht
  by_cases h : cs_ur v (nI w - 1) &&& 1 = 1
  · rw [if_pos (hb.mpr h), cs_T_hi ((cs_hi h1 h2).mp h)]
  · rw [if_neg (fun z => h (hb.mp z)), cs_T_lo (Classical.byContradiction (fun z => h ((cs_hi h1 h2).mpr z)))]
/-! the reference's loops and questions -/
theorem cs_lb64 : ∀ n, n < 63 → (((nI n).toInt64 &&& 63).toBitVec.smod 64).toNat = n := by decide +kernel
theorem cs_ub64 : ∀ n, n < 63 → (((nI n).toInt64.toUInt64 &&& Int64.toUInt64 63).toBitVec % 64).toNat = n := by decide +kernel
theorem cs_lbR (x : Int64) (n : Nat) (hn : n < 63) : (x >>> ((nI n).toInt64 &&& 63)) &&& 1 = cs_lb x (nI n) := by
  unfold cs_lb
  apply Int64.toBitVec_inj.mp
  rw [Int64.toBitVec_and, Int64.toBitVec_and]
  apply BitVec.eq_of_getLsbD_eq
  intro i hi
  rw [BitVec.getLsbD_and, BitVec.getLsbD_and]
  by_cases h0 : i = 0
  · subst h0
    congr 1
    have e1 : (x >>> ((nI n).toInt64 &&& 63)).toBitVec.getLsbD 0 = x.toBitVec.getLsbD n := by
      rw [Int64.toBitVec_shiftRight]
      show (x.toBitVec.sshiftRight (((nI n).toInt64 &&& 63).toBitVec.smod 64).toNat).getLsbD 0 = _
      rw [cs_lb64 n hn, BitVec.getLsbD_sshiftRight]
      simp [show n < 64 by omega]
    have e2 : ((x.toUInt64 >>> ((nI n).toInt64.toUInt64 &&& Int64.toUInt64 63)).toInt64).toBitVec.getLsbD 0 = x.toBitVec.getLsbD n := by
      show (x.toUInt64 >>> ((nI n).toInt64.toUInt64 &&& Int64.toUInt64 63)).toBitVec.getLsbD 0 = x.toUInt64.toBitVec.getLsbD n
      rw [UInt64.toBitVec_shiftRight]
      show (x.toUInt64.toBitVec >>> (((nI n).toInt64.toUInt64 &&& Int64.toUInt64 63).toBitVec % 64).toNat).getLsbD 0 = _
      rw [cs_ub64 n hn, BitVec.getLsbD_ushiftRight, Nat.add_zero]
    rw [e1, e2]
  · have h1 : (1 : Int64).toBitVec.getLsbD i = false := (by decide +kernel : ∀ i, i < 64 → i ≠ 0 → (1 : Int64).toBitVec.getLsbD i = false) i hi h0
    rw [h1, Bool.and_false, Bool.and_false]
theorem cs_bt1 (v : Int32) (k : Nat) (hk : k < 32) (i : Nat) (hi : i < 32) : bt (cs_bit v (nI k)) i = (decide (i = 0) && bt v k) := by
  unfold cs_bit cs_ur
  rw [b_and, b_ushr k hk, (by decide +kernel : ∀ i, i < 32 → bt 1 i = decide (i = 0)) i hi]
  by_cases h0 : i = 0
  · subst h0; simp
  · simp [h0]
theorem cs_rv_b (v : Int32) : ∀ (k : Nat), k ≤ 32 → ∀ i, i < 32 → bt (cs_rv v k) i = (decide (i < k) && bt v (k - 1 - i))
  | 0, _, i, hi => by rw [cs_rv, b_0]; simp
  | k + 1, hk, i, hi => by
    rw [cs_rv, b_or, cs_bt1 v k (by omega) i hi]
    have e : bt (cs_rv v k <<< ((1 : Int32) &&& 31)) i = (decide (1 ≤ i) && bt (cs_rv v k) (i - 1)) := b_shl 1 (by omega) _ hi
    rw [e]
    rcases Nat.eq_zero_or_pos i with h0 | h0
    · subst h0; simp
    · rw [cs_rv_b v k (by omega) (i - 1) (by omega)]
      have h1 : ¬ i = 0 := by omega
      by_cases h2 : i < k + 1
      · simp [h1, h2, show 1 ≤ i by omega, show i - 1 < k by omega, show k - 1 - (i - 1) = k - i by omega]
      · simp [h1, h2, show ¬ i - 1 < k by omega]
theorem cs_sb : ∀ b, b ≤ 32 → ∀ k, k < b → nI b - 1 - nI k = nI (b - 1 - k) := by decide +kernel
theorem cs_rw_b (v : Int32) (b : Nat) (hb : b ≤ 32) : ∀ (k : Nat), k ≤ b → ∀ i, i < 32 → bt (cs_rw v (nI b) k) i = (decide (i < b) && decide (b - 1 - i < k) && bt v (b - 1 - i))
  | 0, _, i, hi => by rw [cs_rw, b_0]; simp
  | k + 1, hk, i, hi => by
    rw [cs_rw, b_or, cs_sb b hb k (by omega), cs_rw_b v b hb k (by omega) i hi, b_shl (b - 1 - k) (by omega) _ hi]
    by_cases h1 : b - 1 - k ≤ i
    · rw [cs_bt1 v k (by omega) _ (by omega)]
      by_cases h2 : i = b - 1 - k
      · simp [h2, show b - 1 - (b - 1 - k) = k by omega, show b - 1 - k < b by omega]
      · simp [h1, show ¬ i - (b - 1 - k) = 0 by omega]
        by_cases h3 : i < b
        · simp [h3, show b - 1 - i < k by omega, show b - 1 - i < k + 1 by omega]
        · simp [h3]
    · simp [h1, show ¬ b - 1 - i < k by omega, show ¬ b - 1 - i < k + 1 by omega]
theorem cs_rw_rv (v : Int32) (b : Nat) (hb : b ≤ 32) : cs_rw v (nI b) b = cs_rv v b := b_ext (fun i hi => by
  rw [cs_rw_b v b hb b (Nat.le_refl _) i hi, cs_rv_b v b hb i hi]
  by_cases h : i < b
  · simp [h, show b - 1 - i < b by omega]
  · simp [h])
def cs_tq (ri : Bool) (i : Nat) : Int32 := if ri = true then nI i else 7 - nI i
def cs_tz (w : Nat) (p : Int32) (ri : Bool) (v r : Int32) : Nat → Int32
  | 0 => r
  | i + 1 => cs_tb w p (cs_tz w p ri v r i) ((v >>> (cs_tq ri i &&& 31)) &&& 1)
theorem cs_tqT : ∀ b, b < 256 → ∀ i, i < 8 → (nI b >>> (nI i &&& 31)) &&& 1 = cs_bit (cs_rv (nI b) 8) (nI (7 - i)) := by decide +kernel
theorem cs_tqF : ∀ b, b < 256 → ∀ i, i < 8 → (nI b >>> ((7 - nI i) &&& 31)) &&& 1 = cs_bit (nI b) (nI (7 - i)) := by decide +kernel
theorem cs_tqE {ri : Bool} {b i : Nat} (hb : b < 256) (hi : i < 8) : (nI b >>> (cs_tq ri i &&& 31)) &&& 1 = cs_bit (cs_od ri (nI b)) (nI (7 - i)) := by
  cases ri
  · exact cs_tqF b hb i hi
  · exact cs_tqT b hb i hi
theorem cs_tz8 {w : Nat} {p : Int32} {ri : Bool} {b : Nat} {r : Int32} (hb : b < 256) : cs_tz w p ri (nI b) r 8 = cs_tk w p ri r (nI b) := by
  unfold cs_tk
  simp only [cs_tz, cs_ty, cs_tqE hb (show 0 < 8 by decide), cs_tqE hb (show 1 < 8 by decide), cs_tqE hb (show 2 < 8 by decide), cs_tqE hb (show 3 < 8 by decide), cs_tqE hb (show 4 < 8 by decide), cs_tqE hb (show 5 < 8 by decide), cs_tqE hb (show 6 < 8 by decide), cs_tqE hb (show 7 < 8 by decide)]
def cs_pl (S : cs_St) (v u : Int32) : Bool := cs_in v 0 3 && cs_in u 0 (nI (cs_ln S v.toNatClampNeg) - 1)
theorem cs_pl_r {S : cs_St} {r : Nat} {u : Int32} (hr : r < 4) : cs_pl S (nI r) u = cs_in u 0 (nI (cs_ln S r) - 1) := by
  unfold cs_pl
  rw [nI_clamp (by omega), show (3 : Int32) = nI 3 from rfl, cs_in_nI (by omega) (by omega), Bool.true_and]
def cs_fk (v : Int32) : Bool := decide (0 ≤ v) && decide (v / 256 < 255) && decide (cs_rem v 256 < 255)
def cs_ak (v : Int32) : Bool := decide (v &&& 65535 < 65521) && decide (cs_ur v 16 < 65521)

