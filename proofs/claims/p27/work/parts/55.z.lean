theorem cs_idx {l : Nat} (hl : l ≤ 256) {v : Int32} (h : cs_in v 0 (nI l - 1) = true) : ∃ j, j < l ∧ v = nI j := by
  rcases Nat.eq_zero_or_pos l with h0 | h0
  · subst h0
    obtain ⟨h3, h4⟩ := cs_and h
    rw [decide_eq_true_eq, Int32.le_iff_toInt_le] at h3 h4
    have e2 : (nI 0 - 1).toInt = -1 := by decide
    have e3 : (0 : Int32).toInt = 0 := by decide
    omega
  · obtain ⟨n, rfl⟩ : ∃ n, l = n + 1 := ⟨l - 1, by omega⟩
    rw [nI_pred] at h
    obtain ⟨j, h5, rfl⟩ := cs_in_of (by omega) h
    exact ⟨j, by omega, rfl⟩
theorem cs_par1 {S : cs_St} {m r a b : Int32} (h : (cs_M S m && cs_in r 0 3 && cs_in a 0 (nI (cs_ln S (cs_c r))) && cs_in b a (nI (cs_ln S (cs_c r)))) = false) : cs_kPar S m r a b = 1 := cs_k1_1 h

