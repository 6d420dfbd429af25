/-! a product from the remainder of a byte, sums of longs -/
def cs_bw (w : Nat) (v : Int32) : Prop := ∀ i, w ≤ i → bt v i = false
theorem cs_mkb : ∀ w, w < 33 → ∀ i, i < 32 → bt (cs_mk w) i = decide (i < w) := by decide +kernel
theorem cs_bt2 {v : Int32} {n : Nat} (hn : n < 32) : cs_bit v (nI n) = 1 ↔ bt v n = true := by
  have e : bt (cs_bit v (nI n)) 0 = bt v n := by rw [cs_bt1 v n hn 0 (by decide)]; simp
  constructor
  · intro h
    rw [← e, h]
    decide
  · intro h
    apply b_ext
    intro i hi
    rw [cs_bt1 v n hn i hi, h, Bool.and_true]
    have : ∀ i, i < 32 → decide (i = 0) = bt 1 i := by decide +kernel
    exact this i hi
theorem cs_Tb {w : Nat} {p v : Int32} (h1 : 1 ≤ w) (h2 : w ≤ 32) {i : Nat} (hi : i < 32) : bt (cs_T w p v) i = ((decide (1 ≤ i) && bt v (i - 1) && decide (i < w)) ^^ (bt v (w - 1) && bt p i)) := by
  have e : nI w - 1 = nI (w - 1) := by obtain ⟨n, rfl⟩ : ∃ n, w = n + 1 := ⟨w - 1, by omega⟩; rw [nI_pred]; rfl
  have hh := cs_hi (v := v) h1 h2
  rw [e] at hh
  have h9 := cs_bt2 (v := v) (n := w - 1) (by omega)
  have hs : bt (v <<< ((1 : Int32) &&& 31)) i = (decide (1 ≤ i) && bt v (i - 1)) := b_shl 1 (by omega) v hi
  by_cases c : v &&& cs_hb w = 0
  · rw [cs_T_lo c, b_and, cs_mkb w (by omega) i hi, hs]
    have : bt v (w - 1) = false := by
      rcases Bool.eq_false_or_eq_true (bt v (w - 1)) with z | z
      · exact absurd c (hh.mp (h9.mpr z))
      · exact z
    rw [this]
    simp
  · rw [cs_T_hi c, b_xor, b_and, cs_mkb w (by omega) i hi, hs, h9.mp (hh.mpr c)]
    simp
theorem cs_Tx {w : Nat} {p : Int32} (h1 : 1 ≤ w) (h2 : w ≤ 32) (a b : Int32) : cs_T w p (a ^^^ b) = cs_T w p a ^^^ cs_T w p b := b_ext fun i hi => by
  rw [b_xor, cs_Tb h1 h2 hi, cs_Tb h1 h2 hi, cs_Tb h1 h2 hi, b_xor, b_xor]
  cases decide (1 ≤ i) <;> cases bt a (i - 1) <;> cases bt b (i - 1) <;> cases decide (i < w) <;> cases bt a (w - 1) <;> cases bt b (w - 1) <;> cases bt p i <;> rfl
theorem cs_T0 {w : Nat} {p : Int32} (h1 : 1 ≤ w) (h2 : w ≤ 32) : cs_T w p 0 = 0 := b_ext fun i hi => by
  rw [cs_Tb h1 h2 hi, b_0, b_0, b_0]; simp
theorem cs_pdx {w : Nat} {p : Int32} (h1 : 1 ≤ w) (h2 : w ≤ 32) (b : Int32) : ∀ (n : Nat) (a a' r r' : Int32), cs_pd w p (a ^^^ a') b n (r ^^^ r') = cs_pd w p a b n r ^^^ cs_pd w p a' b n r'
  | 0, _, _, _, _ => rfl
  | n + 1, a, a', r, r' => by
    by_cases c : cs_bit b (nI n) = 1
    · rw [cs_pd_1 c, cs_pd_1 c, cs_pd_1 c, ← cs_pdx h1 h2 b n, cs_Tx h1 h2]
      congr 1
      exact b_ext fun i hi => by simp only [b_xor]; cases bt (cs_T w p r) i <;> cases bt (cs_T w p r') i <;> cases bt a i <;> cases bt a' i <;> rfl
    · rw [cs_pd_0 c, cs_pd_0 c, cs_pd_0 c, ← cs_pdx h1 h2 b n, cs_Tx h1 h2]
theorem cs_pdT {w : Nat} {p : Int32} (h1 : 1 ≤ w) (h2 : w ≤ 32) (b : Int32) : ∀ (n : Nat) (a r : Int32), cs_pd w p (cs_T w p a) b n (cs_T w p r) = cs_T w p (cs_pd w p a b n r)
  | 0, _, _ => rfl
  | n + 1, a, r => by
    by_cases c : cs_bit b (nI n) = 1
    · rw [cs_pd_1 c, cs_pd_1 c, ← cs_pdT h1 h2 b n, cs_Tx h1 h2]
    · rw [cs_pd_0 c, cs_pd_0 c, ← cs_pdT h1 h2 b n]
theorem cs_mulx {w : Nat} {p : Int32} (h1 : 1 ≤ w) (h2 : w ≤ 32) (b a a' : Int32) (n : Nat) : cs_mul w p (a ^^^ a') b n = cs_mul w p a b n ^^^ cs_mul w p a' b n := by
  have := cs_pdx h1 h2 (p := p) b n a a' 0 0
  rwa [show (0 : Int32) ^^^ 0 = 0 from rfl] at this
theorem cs_mulT {w : Nat} {p : Int32} (h1 : 1 ≤ w) (h2 : w ≤ 32) (b a : Int32) (n : Nat) : cs_mul w p (cs_T w p a) b n = cs_T w p (cs_mul w p a b n) := by
  have := cs_pdT h1 h2 (p := p) b n a 0
  rwa [cs_T0 h1 h2] at this
theorem cs_mul0 {w : Nat} {p : Int32} (h1 : 1 ≤ w) (h2 : w ≤ 32) (b : Int32) (n : Nat) : cs_mul w p 0 b n = 0 := by
  have := cs_mulx h1 h2 (p := p) b 0 0 n
  rw [show (0 : Int32) ^^^ 0 = 0 from rfl] at this
  rw [this]
  exact b_ext fun i hi => by rw [b_xor, b_0]; cases bt (cs_mul w p 0 b n) i <;> rfl
theorem cs_mulpd {w : Nat} {p : Int32} (h1 : 1 ≤ w) (h2 : w ≤ 32) (far c : Int32) : ∀ (n : Nat) (a r : Int32), cs_mul w p (cs_pd w p a c n r) far w = cs_pd w p (cs_mul w p a far w) c n (cs_mul w p r far w)
  | 0, _, _ => rfl
  | n + 1, a, r => by
    by_cases c1 : cs_bit c (nI n) = 1
    · rw [cs_pd_1 c1, cs_pd_1 c1, cs_mulpd h1 h2 far c n, cs_mulx h1 h2, cs_mulT h1 h2]
    · rw [cs_pd_0 c1, cs_pd_0 c1, cs_mulpd h1 h2 far c n, cs_mulT h1 h2]
theorem cs_mul1 {w : Nat} {p : Int32} (h1 : 1 ≤ w) (h2 : w ≤ 32) {far : Int32} (hB : cs_bw w far) : ∀ (n : Nat) (r : Int32), n ≤ w → (∀ i, i < 32 → bt r i = bt far (i + n)) → cs_pd w p 1 far n r = far
  | 0, r, _, h => b_ext fun i hi => h i hi
  | n + 1, r, hn, h => by
    have o1 : ∀ i, i < 32 → bt 1 i = decide (i = 0) := by decide +kernel
    have ht : bt r (w - 1) = false := by rw [h (w - 1) (by omega)]; exact hB _ (by omega)
    have hT : ∀ i, i < 32 → bt (cs_T w p r) i = (decide (1 ≤ i) && bt far (i + n)) := fun i hi => by
      rw [cs_Tb h1 h2 hi, ht]
      by_cases z : 1 ≤ i
      · rw [h (i - 1) (by omega), show i - 1 + (n + 1) = i + n by omega]
        by_cases y : i < w
        · simp [y]
        · rw [hB (i + n) (by omega)]; simp
      · simp [z]
    by_cases c1 : cs_bit far (nI n) = 1
    · rw [cs_pd_1 c1]
      refine cs_mul1 h1 h2 hB n _ (by omega) (fun i hi => ?_)
      rw [b_xor, hT i hi, o1 i hi]
      by_cases z : i = 0
      · subst z
        rw [Nat.zero_add, (cs_bt2 (by omega)).mp c1]; rfl
      · have : 1 ≤ i := by omega
        simp [z, this]
    · rw [cs_pd_0 c1]
      refine cs_mul1 h1 h2 hB n _ (by omega) (fun i hi => ?_)
      rw [hT i hi]
      by_cases z : i = 0
      · subst z
        have : bt far n = false := by
          rcases Bool.eq_false_or_eq_true (bt far n) with y | y
          · exact absurd ((cs_bt2 (by omega)).mpr y) c1
          · exact y
        rw [Nat.zero_add, this]; rfl
      · have : 1 ≤ i := by omega
        simp [this]
theorem cs_dv_pd {w : Nat} {p : Int32} (h1 : 1 ≤ w) (h2 : w ≤ 32) (v : Int32) : ∀ (n : Nat) (r : Int32), n ≤ 32 → cs_dv w p v n r = cs_pd w p 1 v n r
  | 0, _, _ => rfl
  | n + 1, r, hn => by
    by_cases c1 : cs_bit v (nI n) = 1
    · rw [cs_pd_1 c1, cs_dv, c1, cs_dv_pd h1 h2 v n _ (by omega)]
    · have c0 : cs_bit v (nI n) = 0 := (cs_b1 (cs_ur v (nI n))).resolve_right c1
      rw [cs_pd_0 c1, cs_dv, c0, cs_dv_pd h1 h2 v n _ (by omega)]
      congr 1
      exact b_ext fun i hi => by rw [b_xor, b_0, Bool.xor_false]
theorem cs_patE {w : Nat} {p : Int32} (h1 : 1 ≤ w) (h2 : w ≤ 32) {far c : Int32} (hB : cs_bw w far) : cs_mul w p (cs_dv w p c 8 0) far w = cs_mul w p far c 8 := by
  rw [cs_dv_pd h1 h2 c 8 0 (by decide), cs_mulpd h1 h2, cs_mul0 h1 h2]
  congr 1
  exact cs_mul1 h1 h2 hB w 0 (Nat.le_refl _) (fun i _ => by rw [b_0, hB _ (by omega)])
theorem cs_bwT {w : Nat} {p : Int32} (h1 : 1 ≤ w) (h2 : w ≤ 32) {v : Int32} (hp : cs_bw w p) : cs_bw w (cs_T w p v) := fun i hi => by
  rcases Nat.lt_or_ge i 32 with h | h
  · rw [cs_Tb h1 h2 h, hp i hi, show decide (i < w) = false from decide_eq_false (by omega)]; simp
  · exact b_big h
theorem cs_bwpd {w : Nat} {p : Int32} (h1 : 1 ≤ w) (h2 : w ≤ 32) (hp : cs_bw w p) (b : Int32) : ∀ (n : Nat) (a r : Int32), cs_bw w a → cs_bw w r → cs_bw w (cs_pd w p a b n r)
  | 0, _, _, _, hr => hr
  | n + 1, a, r, ha, hr => by
    by_cases c : cs_bit b (nI n) = 1
    · rw [cs_pd_1 c]
      exact cs_bwpd h1 h2 hp b n _ _ ha (fun i hi => by rw [b_xor, cs_bwT h1 h2 hp i hi, ha i hi]; rfl)
    · rw [cs_pd_0 c]
      exact cs_bwpd h1 h2 hp b n _ _ ha (cs_bwT h1 h2 hp)
theorem cs_bwpq {w : Nat} {p : Int32} (h1 : 1 ≤ w) (h2 : w ≤ 32) (hp : cs_bw w p) (x : Int64) : ∀ (n : Nat) (r : Int32), cs_bw w r → cs_bw w (cs_pq w p x n r)
  | 0, _, hr => hr
  | n + 1, r, hr => by
    have hm : cs_bw w (cs_mul w p r r w) := cs_bwpd h1 h2 hp r w r 0 hr (fun i _ => b_0 i)
    by_cases c : cs_lb x (nI n) = 1
    · rw [cs_pq_1 c]
      exact cs_bwpq h1 h2 hp x n _ (cs_bwT h1 h2 hp)
    · rw [cs_pq_0 c]
      exact cs_bwpq h1 h2 hp x n _ hm
theorem cs_bwpow {w : Nat} {p : Int32} (h1 : 1 ≤ w) (h2 : w ≤ 32) (hp : cs_bw w p) (x : Int64) : cs_bw w (cs_pow w p x) := cs_bwpq h1 h2 hp x 63 1 (fun i hi => by
  rcases Nat.lt_or_ge i 32 with h | h
  · have o1 : ∀ i, i < 32 → bt 1 i = decide (i = 0) := by decide +kernel
    rw [o1 i h]; exact decide_eq_false (by omega)
  · exact b_big h)
theorem cs_bwnb {w : Nat} {p : Int32} (h1 : 1 ≤ w) (h2 : w ≤ 32) {v : Int32} (h : cs_nb v (nI w) = true) : cs_bw w v := fun i hi => by
  rcases Nat.lt_or_ge i 32 with h3 | h3
  · unfold cs_nb at h
    rw [Bool.or_eq_true, decide_eq_true_eq, decide_eq_true_eq] at h
    rcases h with h | h
    · have := congrArg Int32.toInt h
      rw [nI_toInt (by omega)] at this
      have e : (32 : Int32).toInt = 32 := by decide
      omega
    · have := b_ushr w (by omega) v (i - w)
      rw [show w + (i - w) = i by omega] at this
      rw [← this]
      show bt (cs_ur v (nI w)) _ = false
      rw [h]; exact b_0 _
  · exact b_big h3
/-! numbers of a model keep their width -/
def cs_okp (S : cs_St) : Prop := ∀ k, k < cs_n S → cs_nb (cs_p S k) (nI (cs_w S k)) = true
theorem cs_l64 {u : Nat} (h : u < 2 ^ 31) : (nI u).toInt64.toInt = u := by rw [Int32.toInt_toInt64, nI_toInt h]
theorem cs_fmN {u : Nat} (h : u < 65521) : (cs_fm (nI u).toInt64 65521).toInt32 = nI u := by
  have e : cs_remL (nI u).toInt64 65521 = (nI u).toInt64 := by
    apply Int64.toInt_inj.mp
    rw [cs_rm5, cs_l64 (by omega)]
    exact Int.tmod_eq_of_lt (by omega) (by omega)
  have h0 : ¬ (nI u).toInt64 < 0 := fun z => by
    rw [Int64.lt_iff_toInt_lt, cs_l64 (by omega)] at z
    have e0 : (0 : Int64).toInt = 0 := by decide
    omega
  unfold cs_fm
  rw [e, if_neg h0]
  exact Int32.toInt32_toInt64 _
theorem cs_raN {base : Nat} (h0 : 0 < base) (hb : base ≤ 65521) (a0 : Nat) (ha : a0 < base) {f : Nat → Nat} (hf : ∀ j, f j < 256) : ∀ n, ∃ u v, u < base ∧ v < base ∧ cs_ra (nI base) (nI a0) f n = (nI u, nI v)
  | 0 => ⟨a0, 0, ha, h0, rfl⟩
  | n + 1 => by
    obtain ⟨u, v, h1, h2, e⟩ := cs_raN h0 hb a0 ha hf n
    have hfn := hf n
    have e1 : cs_rem (nI u + nI (f n)) (nI base) = nI ((u + f n) % base) := by rw [nI_add]; exact pk_rem (by omega) h0 (by omega)
    have l1 : (u + f n) % base < base := Nat.mod_lt _ h0
    have e2 : cs_rem (nI v + nI ((u + f n) % base)) (nI base) = nI ((v + (u + f n) % base) % base) := by rw [nI_add]; exact pk_rem (by omega) h0 (by omega)
    refine ⟨(u + f n) % base, (v + (u + f n) % base) % base, l1, Nat.mod_lt _ h0, ?_⟩
    rw [cs_ra, e]
    show (cs_rem (nI u + nI (f n)) (nI base), cs_rem (nI v + cs_rem (nI u + nI (f n)) (nI base)) (nI base)) = _
    rw [e1, e2]
theorem cs_adlN {f : Nat → Nat} (hf : ∀ j, f j < 256) (n : Nat) : cs_ad (cs_ra 65521 1 f n).1.toInt64 (cs_ra 65521 1 f n).2.toInt64 = 65536 * (cs_ra 65521 1 f n).2 + (cs_ra 65521 1 f n).1 := by
  obtain ⟨u, v, h1, h2, e⟩ := cs_raN (base := 65521) (by decide) (by decide) 1 (by decide) hf n
  have e' : cs_ra 65521 1 f n = (nI u, nI v) := e
  rw [e']
  unfold cs_ad
  rw [cs_fmN h1, cs_fmN h2]
theorem cs_and16 (v : Int32) : ∃ u, u < 65536 ∧ v &&& 65535 = nI u := by
  refine ⟨v.toBitVec.toNat % 65536, Nat.mod_lt _ (by decide), ?_⟩
  apply Int32.toBitVec_inj.mp
  apply BitVec.eq_of_toNat_eq
  rw [Int32.toBitVec_and, BitVec.toNat_and, show (65535 : Int32).toBitVec.toNat = 2 ^ 16 - 1 by decide, Nat.and_two_pow_sub_one_eq_mod]
  show v.toBitVec.toNat % 2 ^ 16 = (BitVec.ofNat 32 (v.toBitVec.toNat % 65536)).toNat
  rw [BitVec.toNat_ofNat]
  omega
theorem cs_ur16 (v : Int32) : ∃ u, u < 65536 ∧ cs_ur v 16 = nI u := by
  have e : cs_ur v 16 = cs_ur v 16 &&& 65535 := b_ext fun i hi => by
    rw [b_and, b_65535]
    have := b_ushr 16 (by decide) v i
    have h9 : bt (cs_ur v 16) i = bt v (16 + i) := this
    rw [h9]
    by_cases z : i < 16
    · simp [z]
    · rw [b_big (by omega)]; rfl
  obtain ⟨u, h, h1⟩ := cs_and16 (cs_ur v 16)
  exact ⟨u, h, by rw [e, h1]⟩
theorem cs_l64i (x : Int32) : x.toInt64.toInt = x.toInt := Int32.toInt_toInt64 x
theorem cs_addL {x y : Int32} (h : -2147483648 ≤ x.toInt + y.toInt) (h' : x.toInt + y.toInt < 2147483648) : (x + y).toInt64 = x.toInt64 + y.toInt64 := by
  apply Int64.toInt_inj.mp
  rw [Int64.toInt_add, cs_l64i, cs_l64i, cs_l64i, Int32.toInt_add, Int.bmod_eq_of_le (by omega) (by omega), Int.bmod_eq_of_le (by omega) (by omega)]
theorem cs_subL {x y : Int32} (h : -2147483648 ≤ x.toInt - y.toInt) (h' : x.toInt - y.toInt < 2147483648) : (x - y).toInt64 = x.toInt64 - y.toInt64 := by
  apply Int64.toInt_inj.mp
  rw [Int64.toInt_sub, cs_l64i, cs_l64i, cs_l64i, Int32.toInt_sub, Int.bmod_eq_of_le (by omega) (by omega), Int.bmod_eq_of_le (by omega) (by omega)]
theorem cs_adjE {a b n : Int32} : cs_ad ((a &&& 65535).toInt64 + (b &&& 65535).toInt64 - 1) ((cs_ur a 16).toInt64 + (cs_ur b 16).toInt64 + n.toInt64 * ((a &&& 65535).toInt64 - 1)) = cs_vAdj a b n := by
  obtain ⟨u, hu, eu⟩ := cs_and16 a
  obtain ⟨v, hv, ev⟩ := cs_and16 b
  obtain ⟨u', hu', eu'⟩ := cs_ur16 a
  obtain ⟨v', hv', ev'⟩ := cs_ur16 b
  have i1 := nI_toInt (n := u) (by omega)
  have i2 := nI_toInt (n := v) (by omega)
  have i3 := nI_toInt (n := u') (by omega)
  have i4 := nI_toInt (n := v') (by omega)
  have o : (1 : Int32).toInt = 1 := by decide
  have i5 : (nI u + nI v).toInt = u + v := by rw [nI_add, nI_toInt (by omega)]; omega
  have a1 : (nI u + nI v).toInt64 = (nI u).toInt64 + (nI v).toInt64 := cs_addL (by omega) (by omega)
  have a2 : (nI u + nI v - 1).toInt64 = (nI u + nI v).toInt64 - (1 : Int32).toInt64 := cs_subL (by omega) (by omega)
  have a3 : (nI u - 1).toInt64 = (nI u).toInt64 - (1 : Int32).toInt64 := cs_subL (by omega) (by omega)
  have a4 : (nI u' + nI v').toInt64 = (nI u').toInt64 + (nI v').toInt64 := cs_addL (by omega) (by omega)
  unfold cs_vAdj
  rw [eu, ev, eu', ev', a2, a1, a3, a4]
  rfl
theorem cs_adrE {a n : Int32} {o i : Nat} (ho : o < 256) (hi : i < 256) : cs_ad ((a &&& 65535).toInt64 + (nI i).toInt64 - (nI o).toInt64) ((cs_ur a 16).toInt64 - n.toInt64 * (nI o).toInt64 + ((a &&& 65535).toInt64 + (nI i).toInt64 - (nI o).toInt64) - 1) = cs_vAdr a n (nI o) (nI i) := by
  obtain ⟨u, hu, eu⟩ := cs_and16 a
  have i1 := nI_toInt (n := u) (by omega)
  have i2 := nI_toInt (n := i) (by omega)
  have i3 := nI_toInt (n := o) (by omega)
  have i5 : (nI u + nI i).toInt = u + i := by rw [nI_add, nI_toInt (by omega)]; omega
  have a1 : (nI u + nI i).toInt64 = (nI u).toInt64 + (nI i).toInt64 := cs_addL (by omega) (by omega)
  have a2 : (nI u + nI i - nI o).toInt64 = (nI u + nI i).toInt64 - (nI o).toInt64 := cs_subL (by omega) (by omega)
  unfold cs_vAdr
  rw [eu, a2, a1]

