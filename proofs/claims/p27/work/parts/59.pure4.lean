theorem cs_roomF {l c : Nat} (hl : l ≤ 256) (hc : c ≤ 256) (h : decide (nI c ≤ 256 - nI l) = false) : ¬ l + c ≤ 256 := fun z => of_decide_eq_false h ((cs_room hl hc).mpr z)
theorem cs_rowF {S : cs_St} {r l m o i : Nat} (hi : i < cs_ln S o) : cs_by (cs_put S r l (cs_fil (cs_by S r) (cs_by S o) (cs_ln S r) m)) o i = cs_by S o i := by
  by_cases h : o = r
  · subst h
    rw [cs_put_by, cs_fil_lo hi]
  · rw [cs_put_byN h]
theorem cs_kApp3 {S : cs_St} {r : Nat} {a : Int32} (hr : cs_in (nI r) 0 3 = true) (ha : cs_in a 0 255 = true) (rc : cs_c (nI r) = r) (hl : cs_ln S r ≤ 256) (h : decide (1 ≤ 256 - nI (cs_ln S r)) = false) : cs_kApp S (nI r) a = 3 := by
  have := cs_roomF hl (c := 1) (by decide) h
  unfold cs_kApp
  rw [if_pos hr, if_pos ha, rc, if_pos (by omega)]
theorem cs_kApp0 {S : cs_St} {r : Nat} {a : Int32} (hr : cs_in (nI r) 0 3 = true) (ha : cs_in a 0 255 = true) (rc : cs_c (nI r) = r) (hl : cs_ln S r ≤ 256) (h : 1 ≤ 256 - nI (cs_ln S r)) : cs_kApp S (nI r) a = 0 ∧ cs_ln S r + 1 ≤ 256 := by
  have := (cs_room hl (c := 1) (by decide)).mp h
  unfold cs_kApp
  rw [if_pos hr, if_pos ha, rc, if_neg (by omega)]
  exact ⟨rfl, this⟩
theorem cs_kSer3 {S : cs_St} {r n : Nat} {a b : Int32} (hr : cs_in (nI r) 0 3 = true) (ha : cs_bSer a b (nI n) = true) (rc : cs_c (nI r) = r) (nc : cs_c (nI n) = n) (hl : cs_ln S r ≤ 256) (hn : n ≤ 256) (h : decide (nI n ≤ 256 - nI (cs_ln S r)) = false) : cs_kSer S (nI r) a b (nI n) = 3 := by
  have := cs_roomF hl hn h
  unfold cs_kSer
  rw [if_pos hr, if_pos ha, rc, nc, if_pos (by omega)]
theorem cs_kSer0 {S : cs_St} {r n : Nat} {a b : Int32} (hr : cs_in (nI r) 0 3 = true) (ha : cs_bSer a b (nI n) = true) (rc : cs_c (nI r) = r) (nc : cs_c (nI n) = n) (hl : cs_ln S r ≤ 256) (hn : n ≤ 256) (h : nI n ≤ 256 - nI (cs_ln S r)) : cs_kSer S (nI r) a b (nI n) = 0 ∧ cs_ln S r + n ≤ 256 := by
  have := (cs_room hl hn).mp h
  unfold cs_kSer
  rw [if_pos hr, if_pos ha, rc, nc, if_neg (by omega)]
  exact ⟨rfl, this⟩
theorem cs_kRow2 {S : cs_St} {r o : Nat} (hr : cs_in (nI r) 0 3 = true) (ho : cs_in (nI o) 0 3 = true) (rc : cs_c (nI r) = r) (oc : cs_c (nI o) = o) (hl : cs_ln S r ≤ 256) (hn : cs_ln S o ≤ 256) (h : decide (nI (cs_ln S o) ≤ 256 - nI (cs_ln S r)) = false) : cs_kRow S (nI r) (nI o) = 2 := by
  have := cs_roomF hl hn h
  exact cs_k2_2 (by unfold cs_bRow; rw [hr, ho]; rfl) (by rw [rc, oc, decide_eq_false this, Bool.and_false])
theorem cs_kRow0 {S : cs_St} {r o : Nat} (hr : cs_in (nI r) 0 3 = true) (ho : cs_in (nI o) 0 3 = true) (rc : cs_c (nI r) = r) (oc : cs_c (nI o) = o) (hl : cs_ln S r ≤ 256) (hn : cs_ln S o ≤ 256) (h : nI (cs_ln S o) ≤ 256 - nI (cs_ln S r)) : cs_kRow S (nI r) (nI o) = 0 ∧ cs_ln S r + cs_ln S o ≤ 256 := by
  have := (cs_room hl hn).mp h
  exact ⟨cs_k2_0.mpr (by unfold cs_bRow; rw [hr, ho, rc, oc, decide_eq_true this]; rfl), this⟩

