/-! the arithmetic of both sides, as functions of numbers -/
def cs_mk (w : Nat) : Int32 := nI (2 ^ w - 1)
def cs_hb (w : Nat) : Int32 := nI (2 ^ (w - 1))
def cs_ur (x y : Int32) : Int32 := (x.toUInt32 >>> (y.toUInt32 &&& Int32.toUInt32 31)).toInt32
def cs_bit (v n : Int32) : Int32 := cs_ur v n &&& 1
def cs_rem (x y : Int32) : Int32 := x - x / y * y
def cs_remL (x y : Int64) : Int64 := x - x / y * y
/-- a polynomial times x, modulo P -/
def cs_T (w : Nat) (p v : Int32) : Int32 := if v &&& cs_hb w = 0 then (v <<< ((1 : Int32) &&& 31)) &&& cs_mk w else ((v <<< ((1 : Int32) &&& 31)) &&& cs_mk w) ^^^ p
theorem cs_T_lo {w : Nat} {p v : Int32} (h : v &&& cs_hb w = 0) : cs_T w p v = (v <<< ((1 : Int32) &&& 31)) &&& cs_mk w := if_pos h
theorem cs_T_hi {w : Nat} {p v : Int32} (h : ¬ v &&& cs_hb w = 0) : cs_T w p v = ((v <<< ((1 : Int32) &&& 31)) &&& cs_mk w) ^^^ p := if_neg h
/-- the product, the bits of b from bit n - 1 on -/
def cs_pd (w : Nat) (p a b : Int32) : Nat → Int32 → Int32
  | 0, r => r
  | n + 1, r => cs_pd w p a b n (if cs_bit b (nI n) = 1 then cs_T w p r ^^^ a else cs_T w p r)
theorem cs_pd_1 {w : Nat} {p a b : Int32} {n : Nat} {r : Int32} (h : cs_bit b (nI n) = 1) : cs_pd w p a b (n + 1) r = cs_pd w p a b n (cs_T w p r ^^^ a) := by rw [cs_pd, if_pos h]
theorem cs_pd_0 {w : Nat} {p a b : Int32} {n : Nat} {r : Int32} (h : ¬ cs_bit b (nI n) = 1) : cs_pd w p a b (n + 1) r = cs_pd w p a b n (cs_T w p r) := by rw [cs_pd, if_neg h]
def cs_mul (w : Nat) (p a b : Int32) (n : Nat) : Int32 := cs_pd w p a b n 0
def cs_lb (x : Int64) (n : Int32) : Int64 := (x.toUInt64 >>> (n.toInt64.toUInt64 &&& Int64.toUInt64 63)).toInt64 &&& 1
/-- the power of x, the bits of the exponent from bit n - 1 on -/
def cs_pq (w : Nat) (p : Int32) (x : Int64) : Nat → Int32 → Int32
  | 0, r => r
  | n + 1, r => cs_pq w p x n (if cs_lb x (nI n) = 1 then cs_T w p (cs_mul w p r r w) else cs_mul w p r r w)
theorem cs_pq_1 {w : Nat} {p : Int32} {x : Int64} {n : Nat} {r : Int32} (h : cs_lb x (nI n) = 1) : cs_pq w p x (n + 1) r = cs_pq w p x n (cs_T w p (cs_mul w p r r w)) := by rw [cs_pq, if_pos h]
theorem cs_pq_0 {w : Nat} {p : Int32} {x : Int64} {n : Nat} {r : Int32} (h : ¬ cs_lb x (nI n) = 1) : cs_pq w p x (n + 1) r = cs_pq w p x n (cs_mul w p r r w) := by rw [cs_pq, if_neg h]
def cs_pow (w : Nat) (p : Int32) (x : Int64) : Int32 := cs_pq w p x 63 1
/-- the first n bits of v, reversed -/
def cs_rv (v : Int32) : Nat → Int32
  | 0 => 0
  | k + 1 => (cs_rv v k <<< ((1 : Int32) &&& 31)) ||| cs_bit v (nI k)
/-- the same, each bit put at its place -/
def cs_rw (v b : Int32) : Nat → Int32
  | 0 => 0
  | k + 1 => cs_rw v b k ||| (cs_bit v (nI k) <<< ((b - 1 - nI k) &&& 31))
def cs_tb (w : Nat) (p r x : Int32) : Int32 := cs_T w p (r ^^^ (x <<< ((nI w - 1) &&& 31)))
/-- the register takes the bits of o from bit n - 1 on -/
def cs_ty (w : Nat) (p o : Int32) : Nat → Int32 → Int32
  | 0, r => r
  | n + 1, r => cs_ty w p o n (cs_tb w p r (cs_bit o (nI n)))
def cs_od (ri : Bool) (v : Int32) : Int32 := if ri = true then cs_rv v 8 else v
def cs_tk (w : Nat) (p : Int32) (ri : Bool) (r v : Int32) : Int32 := cs_ty w p (cs_od ri v) 8 r
def cs_dv (w : Nat) (p v : Int32) : Nat → Int32 → Int32
  | 0, r => r
  | n + 1, r => cs_dv w p v n (cs_T w p r ^^^ cs_bit v (nI n))
def cs_so (ro : Bool) (w : Nat) (v : Int32) : Int32 := if ro = true then cs_rv v w else v
/-- the register behind k bytes of a part -/
def cs_ps (w : Nat) (p : Int32) (ri : Bool) (i : Int32) (f : Nat → Nat) (a : Nat) : Nat → Int32
  | 0 => i
  | k + 1 => cs_tk w p ri (cs_ps w p ri i f a k) (nI (f (a + k)))
/-- the remainder of n bytes -/
def cs_rs (w : Nat) (p : Int32) (f : Nat → Nat) : Nat → Int32
  | 0 => 0
  | n + 1 => cs_dv w p (nI (f n)) 8 (cs_rs w p f n)
/-- the same, of k bits -/
def cs_rm (w : Nat) (p : Int32) (f : Nat → Nat) : Nat → Int32
  | 0 => 0
  | k + 1 => cs_T w p (cs_rm w p f k) ^^^ ((nI (f (k / 8)) >>> ((7 - nI (k % 8)) &&& 31)) &&& 1)
/-- the period, from exponent k on -/
def cs_pe (w : Nat) (p : Int32) : Nat → Nat → Int32 → Int32
  | 0, _, _ => -1
  | n + 1, k, v => if cs_T w p v = 1 then nI k else cs_pe w p n (k + 1) (cs_T w p v)
/-- the wrong bit, n bits left -/
def cs_wb (w : Nat) (p d : Int32) : Nat → Int32 → Int32 → Int32
  | 0, f, _ => f
  | n + 1, f, t => cs_wb w p d n (if t = d then nI n else f) (cs_T w p t)
/-- the two numbers of a running sum over n bytes -/
def cs_ra (base a0 : Int32) (f : Nat → Nat) : Nat → Int32 × Int32
  | 0 => (a0, 0)
  | n + 1 => (cs_rem ((cs_ra base a0 f n).1 + nI (f n)) base, cs_rem ((cs_ra base a0 f n).2 + cs_rem ((cs_ra base a0 f n).1 + nI (f n)) base) base)
/-- a long modulo m, from 0 on -/
def cs_fm (x m : Int64) : Int64 := if cs_remL x m < 0 then cs_remL x m + m else cs_remL x m
def cs_ad (a b : Int64) : Int32 := 65536 * (cs_fm b 65521).toInt32 + (cs_fm a 65521).toInt32
def cs_in (v lo hi : Int32) : Bool := decide (lo ≤ v) && decide (v ≤ hi)
def cs_nb (v w : Int32) : Bool := decide (w = 32) || decide (cs_ur v w = 0)
theorem cs_dec (x : Int32) : x + Int32.ofInt (-1) = x - 1 := by rw [Int32.sub_eq_add_neg]; rfl
theorem cs_inc1 (i : Nat) : nI i + Int32.ofInt 1 = nI (i + 1) := nI_1 i
theorem cs_inc7 (i : Nat) : nI i + Int32.ofInt 7 = nI (i + 7) := nI_add i 7
theorem cs_m1 : nI 0 - 1 < 0 := by decide
theorem cs_mkI : ∀ w, w ≤ 32 → 1 ≤ w → cs_ur (-1) (32 - nI w) = cs_mk w := by decide +kernel
theorem cs_hbI : ∀ w, w ≤ 32 → 1 ≤ w → (1 : Int32) <<< ((nI w - 1) &&& 31) = cs_hb w := by decide +kernel
/-- the fields of a model object -/
abbrev cs_F (wd : Nat) (po ini : Int32) (ri ro : Bool) (xo : Int32) : List Value := [.int (nI wd), .int po, .int ini, .int (cs_z ri), .int (cs_z ro), .int xo, .int (cs_mk wd), .int (cs_hb wd)]

