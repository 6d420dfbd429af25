/-! sums of three rows: register, bit orders and remainder are linear -/
theorem cs_shx (x y k : Int32) : (x ^^^ y) <<< k = (x <<< k) ^^^ (y <<< k) := by
  apply Int32.toBitVec_inj.mp
  rw [Int32.toBitVec_xor, Int32.toBitVec_shiftLeft, Int32.toBitVec_shiftLeft, Int32.toBitVec_shiftLeft, Int32.toBitVec_xor, BitVec.shiftLeft_eq', BitVec.shiftLeft_eq', BitVec.shiftLeft_eq', BitVec.shiftLeft_xor_distrib]
theorem cs_x3mix (a b c x y z : Int32) : (a ^^^ b ^^^ c) ^^^ (x ^^^ y ^^^ z) = (a ^^^ x) ^^^ (b ^^^ y) ^^^ (c ^^^ z) := b_ext fun i hi => by
  simp only [b_xor]
  cases bt a i <;> cases bt b i <;> cases bt c i <;> cases bt x i <;> cases bt y i <;> cases bt z i <;> rfl
theorem cs_x3one (a : Int32) : a = a ^^^ a ^^^ a := b_ext fun i hi => by
  simp only [b_xor]
  cases bt a i <;> rfl
theorem cs_x3out (a b c x : Int32) : (a ^^^ b ^^^ c) ^^^ x = (a ^^^ x) ^^^ (b ^^^ x) ^^^ (c ^^^ x) := b_ext fun i hi => by
  simp only [b_xor]
  cases bt a i <;> cases bt b i <;> cases bt c i <;> cases bt x i <;> rfl
theorem cs_x3T {w : Nat} {p : Int32} (h1 : 1 ≤ w) (h2 : w ≤ 32) (a b c : Int32) : cs_T w p (a ^^^ b ^^^ c) = cs_T w p a ^^^ cs_T w p b ^^^ cs_T w p c := by
  rw [cs_Tx h1 h2, cs_Tx h1 h2]
theorem cs_x3bit (a b c : Int32) {n : Nat} (hn : n < 32) : cs_bit (a ^^^ b ^^^ c) (nI n) = cs_bit a (nI n) ^^^ cs_bit b (nI n) ^^^ cs_bit c (nI n) := b_ext fun i hi => by
  simp only [b_xor, cs_bt1 _ n hn i hi]
  cases decide (i = 0) <;> cases bt a n <;> cases bt b n <;> cases bt c n <;> rfl
theorem cs_x3tb {w : Nat} {p : Int32} (h1 : 1 ≤ w) (h2 : w ≤ 32) (a b c x y z : Int32) : cs_tb w p (a ^^^ b ^^^ c) (x ^^^ y ^^^ z) = cs_tb w p a x ^^^ cs_tb w p b y ^^^ cs_tb w p c z := by
  unfold cs_tb
  rw [cs_shx, cs_shx, cs_x3mix, cs_x3T h1 h2]
theorem cs_x3ty {w : Nat} {p : Int32} (h1 : 1 ≤ w) (h2 : w ≤ 32) (x y z : Int32) : ∀ (n : Nat), n ≤ 32 → ∀ a b c : Int32, cs_ty w p (x ^^^ y ^^^ z) n (a ^^^ b ^^^ c) = cs_ty w p x n a ^^^ cs_ty w p y n b ^^^ cs_ty w p z n c
  | 0, _, _, _, _ => rfl
  | n + 1, hn, a, b, c => by
    rw [cs_ty, cs_ty, cs_ty, cs_ty, cs_x3bit x y z (by omega), cs_x3tb h1 h2]
    exact cs_x3ty h1 h2 x y z n (by omega) _ _ _
theorem cs_x3rv (a b c : Int32) {k : Nat} (hk : k ≤ 32) : cs_rv (a ^^^ b ^^^ c) k = cs_rv a k ^^^ cs_rv b k ^^^ cs_rv c k := b_ext fun i hi => by
  simp only [b_xor, cs_rv_b _ k hk i hi]
  cases decide (i < k) <;> cases bt a (k - 1 - i) <;> cases bt b (k - 1 - i) <;> cases bt c (k - 1 - i) <;> rfl
theorem cs_x3od (ri : Bool) (a b c : Int32) : cs_od ri (a ^^^ b ^^^ c) = cs_od ri a ^^^ cs_od ri b ^^^ cs_od ri c := by
  unfold cs_od
  cases ri
  · rfl
  · exact cs_x3rv a b c (by decide)
theorem cs_x3so (ro : Bool) {w : Nat} (h2 : w ≤ 32) (a b c : Int32) : cs_so ro w (a ^^^ b ^^^ c) = cs_so ro w a ^^^ cs_so ro w b ^^^ cs_so ro w c := by
  unfold cs_so
  cases ro
  · rfl
  · exact cs_x3rv a b c h2
/-- the fourth row is the exclusive or of the three -/
def cs_x4 (f g h k : Nat → Nat) (n : Nat) : Prop := ∀ j, j < n → nI (k j) = nI (f j) ^^^ nI (g j) ^^^ nI (h j)
theorem cs_x3ps {w : Nat} {p : Int32} (h1 : 1 ≤ w) (h2 : w ≤ 32) (ri : Bool) (i : Int32) {f g h k : Nat → Nat} {a N : Nat} (hx : cs_x4 f g h k N) : ∀ n, a + n ≤ N → cs_ps w p ri i k a n = cs_ps w p ri i f a n ^^^ cs_ps w p ri i g a n ^^^ cs_ps w p ri i h a n
  | 0, _ => cs_x3one i
  | n + 1, hn => by
    rw [cs_ps, cs_ps, cs_ps, cs_ps, cs_x3ps h1 h2 ri i hx n (by omega), hx (a + n) (by omega)]
    unfold cs_tk
    rw [cs_x3od]
    exact cs_x3ty h1 h2 _ _ _ 8 (by decide) _ _ _
theorem cs_x3dv {w : Nat} {p : Int32} (h1 : 1 ≤ w) (h2 : w ≤ 32) (x y z : Int32) : ∀ (n : Nat), n ≤ 32 → ∀ a b c : Int32, cs_dv w p (x ^^^ y ^^^ z) n (a ^^^ b ^^^ c) = cs_dv w p x n a ^^^ cs_dv w p y n b ^^^ cs_dv w p z n c
  | 0, _, _, _, _ => rfl
  | n + 1, hn, a, b, c => by
    rw [cs_dv, cs_dv, cs_dv, cs_dv, cs_x3bit x y z (by omega), cs_x3T h1 h2, cs_x3mix]
    exact cs_x3dv h1 h2 x y z n (by omega) _ _ _
theorem cs_x3rs {w : Nat} {p : Int32} (h1 : 1 ≤ w) (h2 : w ≤ 32) {f g h k : Nat → Nat} {N : Nat} (hx : cs_x4 f g h k N) : ∀ n, n ≤ N → cs_rs w p k n = cs_rs w p f n ^^^ cs_rs w p g n ^^^ cs_rs w p h n
  | 0, _ => by
    show (0 : Int32) = 0 ^^^ 0 ^^^ 0
    decide
  | n + 1, hn => by
    rw [cs_rs, cs_rs, cs_rs, cs_rs, cs_x3rs h1 h2 hx n (by omega), hx n (by omega)]
    exact cs_x3dv h1 h2 _ _ _ 8 (by decide) _ _ _
theorem cs_nIx {a b : Nat} (ha : a < 2 ^ 31) (hb : b < 2 ^ 31) : nI a ^^^ nI b = nI (a ^^^ b) := by
  have h : a ^^^ b < 2 ^ 31 := Nat.xor_lt_two_pow ha hb
  apply Int32.toBitVec_inj.mp
  apply BitVec.eq_of_toNat_eq
  rw [Int32.toBitVec_xor, BitVec.toNat_xor, pk_tn (by omega), pk_tn (by omega), pk_tn (by omega)]
theorem cs_x256 {a b : Nat} (ha : a < 256) (hb : b < 256) : a ^^^ b < 256 := Nat.xor_lt_two_pow (n := 8) ha hb
/-- the law's sums: of a part (0), of the row (1), the remainder (2) -/
def cs_sm (S : cs_St) (t : Nat) (m r a b : Int32) : Int32 := if t = 0 then cs_vPar S m r a b else if t = 1 then cs_vSum S m r else cs_vRem S m r
theorem cs_x3psS {S : cs_St} {m : Int32} (h1 : 1 ≤ cs_w S (cs_c m)) (h2 : cs_w S (cs_c m) ≤ 32) {f g h k : Nat → Nat} {a n N : Nat} (hx : cs_x4 f g h k N) (hn : a + n ≤ N) : cs_psS S m k a n = cs_psS S m f a n ^^^ cs_psS S m g a n ^^^ cs_psS S m h a n := by
  unfold cs_psS
  rw [cs_x3ps h1 h2 _ _ hx n hn, cs_x3so _ h2, cs_x3out]
theorem cs_x3sm {S : cs_St} (hS : cs_ok S) {N : Nat} (hln : ∀ r, r < 4 → cs_ln S r = N) (hx : cs_x4 (cs_by S 0) (cs_by S 1) (cs_by S 2) (cs_by S 3) N) {mo : Nat} (hm : mo < cs_n S) (t : Nat) {a b : Nat} (ha : a ≤ b) (hb : b ≤ N) :
    cs_sm S t (nI mo) (nI 3) (nI a) (nI b) = cs_sm S t (nI mo) (nI 0) (nI a) (nI b) ^^^ cs_sm S t (nI mo) (nI 1) (nI a) (nI b) ^^^ cs_sm S t (nI mo) (nI 2) (nI a) (nI b) := by
  have h6 := hS.1
  have hN : N ≤ 256 := by rw [← hln 0 (by decide)]; exact hS.2.2.1 0
  have hmc : cs_c (nI mo) = mo := cs_cI (by omega)
  obtain ⟨h1, h2⟩ := hS.2.1 mo hm
  have h1' : 1 ≤ cs_w S (cs_c (nI mo)) := by rw [hmc]; exact h1
  have h2' : cs_w S (cs_c (nI mo)) ≤ 32 := by rw [hmc]; exact h2
  have e0 : cs_c (nI 0) = 0 := cs_cI (by decide)
  have e1 : cs_c (nI 1) = 1 := cs_cI (by decide)
  have e2 : cs_c (nI 2) = 2 := cs_cI (by decide)
  have e3 : cs_c (nI 3) = 3 := cs_cI (by decide)
  have ea : cs_c (nI a) = a := cs_cI (by omega)
  have eb : cs_c (nI b) = b := cs_cI (by omega)
  unfold cs_sm
  by_cases c0 : t = 0
  · rw [if_pos c0, if_pos c0, if_pos c0, if_pos c0]
    unfold cs_vPar
    rw [e0, e1, e2, e3, ea, eb]
    exact cs_x3psS h1' h2' hx (by omega)
  · rw [if_neg c0, if_neg c0, if_neg c0, if_neg c0]
    by_cases c1 : t = 1
    · rw [if_pos c1, if_pos c1, if_pos c1, if_pos c1]
      unfold cs_vSum
      rw [e0, e1, e2, e3, hln 0 (by decide), hln 1 (by decide), hln 2 (by decide), hln 3 (by decide)]
      exact cs_x3psS h1' h2' hx (by omega)
    · rw [if_neg c1, if_neg c1, if_neg c1, if_neg c1]
      unfold cs_vRem
      rw [e0, e1, e2, e3, hln 0 (by decide), hln 1 (by decide), hln 2 (by decide), hln 3 (by decide)]
      exact cs_x3rs h1' h2' hx N (Nat.le_refl _)
