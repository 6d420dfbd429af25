/-! numbers: the long remainder by 65521, shifts, indexes -/
theorem cs_rm5 (x : Int64) : (cs_remL x 65521).toInt = x.toInt.tmod 65521 := by
  have e : (65521 : Int64).toInt = 65521 := by decide
  have hq : (x / 65521).toInt = x.toInt.tdiv 65521 := by
    have := Int64.toInt_div_of_ne_right x 65521 (by decide)
    rw [this, e]
  have h1 := x.toInt_lt
  have h2 := x.le_toInt
  have hm := Int.tmod_add_mul_tdiv x.toInt 65521
  have hlt : (x.toInt.tmod 65521).natAbs < 65521 := by
    rw [Int.natAbs_tmod]
    exact Nat.mod_lt _ (by decide)
  unfold cs_remL
  rw [Int64.toInt_sub, Int64.toInt_mul, hq, e]
  rw [show x.toInt.tdiv 65521 * 65521 = x.toInt - x.toInt.tmod 65521 by omega]
  rw [Int.sub_bmod_bmod]
  rw [show x.toInt - (x.toInt - x.toInt.tmod 65521) = x.toInt.tmod 65521 by omega]
  exact Int.bmod_eq_of_le (by omega) (by omega)
theorem cs_xs5 (x : Int64) : x ^^^ 65521 < 0 ↔ x < 0 := by
  rw [Int64.lt_iff_toInt_lt, Int64.lt_iff_toInt_lt]
  have e0 : (0 : Int64).toInt = 0 := by decide
  rw [e0, ← Int64.toInt_toBitVec, ← Int64.toInt_toBitVec, Int64.toBitVec_xor]
  have h1 := BitVec.toInt_neg_iff (x := x.toBitVec)
  have h2 := BitVec.toInt_neg_iff (x := x.toBitVec ^^^ (65521 : Int64).toBitVec)
  have h3 := BitVec.msb_eq_true_iff_two_mul_ge (x := x.toBitVec)
  have h4 := BitVec.msb_eq_true_iff_two_mul_ge (x := x.toBitVec ^^^ (65521 : Int64).toBitVec)
  have h5 : (x.toBitVec ^^^ (65521 : Int64).toBitVec).msb = x.toBitVec.msb := by
    rw [BitVec.msb_xor, show (65521 : Int64).toBitVec.msb = false by decide, Bool.xor_false]
  rw [h5] at h4
  rw [h1, h2]
  exact h4.symm.trans h3
theorem cs_fm0 {x : Int64} (h : 0 ≤ lg_cmp (x ^^^ 65521) 0) : cs_remL x 65521 = cs_fm x 65521 := by
  have h1 := (lg_cmp_ge _ _).mp h
  have h2 : ¬ x < 0 := fun z => absurd ((cs_xs5 x).mpr z) (Int64.not_lt.mpr h1)
  unfold cs_fm
  rw [if_neg]
  intro z
  apply h2
  rw [Int64.lt_iff_toInt_lt] at z ⊢
  have e0 : (0 : Int64).toInt = 0 := by decide
  rw [cs_rm5, e0] at z
  rw [e0]
  rcases Int.lt_or_le x.toInt 0 with h | h
  · exact h
  · have := Int.tmod_nonneg (a := x.toInt) 65521 h
    omega
theorem cs_fm1 {x : Int64} (h : lg_cmp (cs_remL x 65521) 0 = 0) : cs_remL x 65521 = cs_fm x 65521 := by
  have h1 := (lg_cmp_eq _ _).mp h
  unfold cs_fm
  rw [if_neg]
  rw [h1]
  decide
theorem cs_fm2 {x : Int64} (h : ¬ 0 ≤ lg_cmp (x ^^^ 65521) 0) (h0 : ¬ lg_cmp (cs_remL x 65521) 0 = 0) : cs_remL x 65521 + 65521 = cs_fm x 65521 := by
  have h1 : ¬ (0 : Int64) ≤ x ^^^ 65521 := fun z => h ((lg_cmp_ge _ _).mpr z)
  have h2 : x < 0 := (cs_xs5 x).mp (Int64.not_le.mp h1)
  have h3 : ¬ cs_remL x 65521 = 0 := fun z => h0 ((lg_cmp_eq _ _).mpr z)
  unfold cs_fm
  rw [if_pos]
  rw [Int64.lt_iff_toInt_lt] at h2 ⊢
  have e0 : (0 : Int64).toInt = 0 := by decide
  rw [e0] at h2 ⊢
  have h4 : ¬ (cs_remL x 65521).toInt = 0 := fun z => h3 (Int64.toInt_inj.mp (by rw [z, e0]))
  rw [cs_rm5] at h4 ⊢
  have h5 := Int.neg_tmod x.toInt 65521
  have h6 := Int.tmod_nonneg (a := -x.toInt) 65521 (by omega)
  omega
theorem cs_sh16 (x : Int32) : x <<< ((16 : Int32) &&& 31) = 65536 * x := by
  apply Int32.toBitVec_inj.mp
  rw [Int32.toBitVec_shiftLeft, Int32.toBitVec_mul]
  have e : (((16 : Int32) &&& 31).toBitVec.smod 32) = 16#32 := by decide
  have e2 : (65536 : Int32).toBitVec = BitVec.twoPow 32 16 := by decide
  rw [e, e2, BitVec.mul_comm, ← BitVec.shiftLeft_eq_mul_twoPow]
  rfl
theorem cs_adE (x y : Int64) : ((cs_fm y 65521).toInt32 <<< ((16 : Int32) &&& 31)) + (cs_fm x 65521).toInt32 = cs_ad x y := by
  rw [cs_sh16]; rfl
theorem cs_pl1 {l : Nat} (hl : l ≤ 256) {v : Int32} (h1 : ¬ v < 0) (h2 : v < nI l) : cs_in v 0 (nI l - 1) = true := by
  have h3 := Int32.lt_iff_toInt_lt.mp h2
  have h4 := Int32.le_iff_toInt_le.mp (Int32.not_lt.mp h1)
  have e0 : (0 : Int32).toInt = 0 := by decide
  rw [nI_toInt (by omega)] at h3
  rw [e0] at h4
  obtain ⟨n, rfl⟩ : ∃ n, l = n + 1 := ⟨l - 1, by omega⟩
  rw [nI_pred]
  refine cs_inT (Int32.not_lt.mp h1) ?_
  rw [Int32.le_iff_toInt_le, nI_toInt (by omega)]
  omega
theorem cs_pl0 {l : Nat} (hl : l ≤ 256) {v : Int32} (h2 : ¬ v < nI l) : cs_in v 0 (nI l - 1) = false := by
  have h3 := Int32.le_iff_toInt_le.mp (Int32.not_lt.mp h2)
  rw [nI_toInt (by omega)] at h3
  refine cs_inF2 (fun z => ?_)
  have h4 := Int32.le_iff_toInt_le.mp z
  rcases Nat.eq_zero_or_pos l with h0 | h0
  · subst h0
    have e : (nI 0 - 1).toInt = -1 := by decide
    rw [e] at h4
    omega
  · obtain ⟨n, rfl⟩ : ∃ n, l = n + 1 := ⟨l - 1, by omega⟩
    rw [nI_pred, nI_toInt (by omega)] at h4
    omega
theorem cs_M6 {S : cs_St} (h6 : cs_n S ≤ 6) {v : Int32} (h : (6 : Int32) ≤ v) : cs_M S v = false := cs_pl0 (by omega) (fun z => by
  have h1 := Int32.lt_iff_toInt_lt.mp z
  have h2 := Int32.le_iff_toInt_le.mp h
  have e : (6 : Int32).toInt = 6 := by decide
  rw [nI_toInt (by omega)] at h1
  omega)
theorem cs_ix6 {v : Int32} (h1 : ¬ v < 0) (h2 : ¬ (6 : Int32) ≤ v) : ∃ k, k < 6 ∧ v = nI k := by
  rcases pk_ix v (n := 6) (by decide) with h | h | h
  · exact absurd h h1
  · exact absurd h h2
  · exact h
theorem cs_Mn {S : cs_St} (h6 : cs_n S ≤ 6) {k : Nat} (hk6 : k < 6) (hk : ¬ k < cs_n S) : cs_M S (nI k) = false := cs_pl0 (by omega) (fun z => by
  have h1 := Int32.lt_iff_toInt_lt.mp z
  rw [nI_toInt (by omega), nI_toInt (by omega)] at h1
  omega)
theorem cs_k1_1 {b : Bool} (h : b = false) : cs_k1 b = 1 := by rw [h]; rfl
theorem cs_k2_1 {b c : Bool} (h : b = false) : cs_k2 b c = 1 := by rw [h]; rfl
theorem cs_k2_2 {b c : Bool} (h1 : b = true) (h : c = false) : cs_k2 b c = 2 := by rw [h1, h]; rfl

