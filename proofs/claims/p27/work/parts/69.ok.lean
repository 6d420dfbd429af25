/-! the state stays in order -/
def cs_okk (S : cs_St) : Prop := cs_ok S ∧ cs_okp S
theorem cs_okk0 : cs_okk cs_0 := ⟨⟨by decide, fun k hk => absurd hk (Nat.not_lt_zero k), fun _ => Nat.zero_le _, fun _ _ => by show 0 < 256; decide⟩, fun k hk => absurd hk (Nat.not_lt_zero k)⟩
theorem cs_okk_put {S : cs_St} (h : cs_okk S) {r l : Nat} {f : Nat → Nat} (hl : l ≤ 256) (hf : ∀ j, f j < 256) : cs_okk (cs_put S r l f) := ⟨cs_ok_put h.1 hl hf, h.2⟩
theorem cs_okk_def {S : cs_St} (h : cs_okk S) (a0 a1 a2 : Int32) (a3 a4 : Bool) (a5 : Int32) : cs_okk (cs_sDef S a0 a1 a2 a3 a4 a5) := by
  unfold cs_sDef
  by_cases hk : cs_kDef S a0 a1 a2 a5 = 0
  · rw [if_pos hk]
    have hb := cs_k2_0.mp hk
    rw [Bool.and_eq_true, decide_eq_true_eq] at hb
    obtain ⟨hb, hn⟩ := hb
    unfold cs_bDef at hb
    rw [Bool.and_eq_true, Bool.and_eq_true, Bool.and_eq_true] at hb
    obtain ⟨⟨⟨hw, h1⟩, h2⟩, h3⟩ := hb
    obtain ⟨wd, hw1, hw2, rfl⟩ := cs_in1_of (n := 32) (by decide) hw
    have wc : cs_c (nI wd) = wd := cs_cI (by omega)
    rw [wc]
    have hn1 : cs_n (cs_def S wd a1 a2 a3 a4 a5) = cs_n S + 1 := rfl
    refine ⟨⟨by rw [hn1]; omega, fun k hk => ?_, h.1.2.2.1, h.1.2.2.2⟩, fun k hk => ?_⟩
    · show 1 ≤ va_up (cs_w S) (cs_n S) wd k ∧ va_up (cs_w S) (cs_n S) wd k ≤ 32
      by_cases e : k = cs_n S
      · rw [e, va_up_self]; exact ⟨hw1, hw2⟩
      · rw [va_up_ne _ _ e]; exact h.1.2.1 k (by rw [hn1] at hk; omega)
    · show cs_nb (va_up (cs_p S) (cs_n S) a1 k) (nI (va_up (cs_w S) (cs_n S) wd k)) = true
      by_cases e : k = cs_n S
      · rw [e, va_up_self, va_up_self]; exact h1
      · rw [va_up_ne _ _ e, va_up_ne _ _ e]; exact h.2 k (by rw [hn1] at hk; omega)
  · rw [if_neg hk]; exact h
theorem cs_okk_app {S : cs_St} (h : cs_okk S) (r a : Int32) : cs_okk (cs_sApp S r a) := by
  unfold cs_sApp
  by_cases hk : cs_kApp S r a = 0
  · rw [if_pos hk]
    unfold cs_kApp at hk
    by_cases h1 : cs_in r 0 3 = true
    · rw [if_pos h1] at hk
      by_cases h2 : cs_in a 0 255 = true
      · rw [if_pos h2] at hk
        by_cases h3 : cs_ln S (cs_c r) = 256
        · rw [if_pos h3] at hk; exact absurd hk (by decide)
        · obtain ⟨b, hb, rfl⟩ := cs_byte_of h2
          have := h.1.2.2.1 (cs_c r)
          exact cs_okk_put h (by omega) (cs_up_lt (h.1.2.2.2 _) (by rw [cs_cI (by omega)]; exact hb))
      · rw [if_neg h2] at hk; exact absurd hk (by decide)
    · rw [if_neg h1] at hk; exact absurd hk (by decide)
  · rw [if_neg hk]; exact h
theorem cs_okk_ser {S : cs_St} (h : cs_okk S) (r a b n : Int32) : cs_okk (cs_sSer S r a b n) := by
  unfold cs_sSer
  by_cases hk : cs_kSer S r a b n = 0
  · rw [if_pos hk]
    unfold cs_kSer at hk
    by_cases h1 : cs_in r 0 3 = true
    · rw [if_pos h1] at hk
      by_cases h2 : cs_bSer a b n = true
      · rw [if_pos h2] at hk
        by_cases h3 : 256 < cs_ln S (cs_c r) + cs_c n
        · rw [if_pos h3] at hk; exact absurd hk (by decide)
        · exact cs_okk_put h (by omega) (cs_fil_lt (h.1.2.2.2 _) (fun j => Nat.mod_lt _ (by decide)) _ _)
      · rw [if_neg h2] at hk; exact absurd hk (by decide)
    · rw [if_neg h1] at hk; exact absurd hk (by decide)
  · rw [if_neg hk]; exact h
theorem cs_okk_row {S : cs_St} (h : cs_okk S) (r q : Int32) : cs_okk (cs_sRow S r q) := by
  unfold cs_sRow
  by_cases hk : cs_kRow S r q = 0
  · rw [if_pos hk]
    have hb := cs_k2_0.mp hk
    rw [Bool.and_eq_true, Bool.and_eq_true, decide_eq_true_eq] at hb
    exact cs_okk_put h hb.2.2 (cs_fil_lt (h.1.2.2.2 _) (h.1.2.2.2 _) _ _)
  · rw [if_neg hk]; exact h
theorem cs_okk_set {S : cs_St} (h : cs_okk S) (r j a : Int32) : cs_okk (cs_sSet S r j a) := by
  unfold cs_sSet
  by_cases hk : cs_kSet S r j a = 0
  · rw [if_pos hk]
    have hb := cs_k2_0.mp hk
    rw [Bool.and_eq_true] at hb
    obtain ⟨b, hb9, rfl⟩ := cs_byte_of hb.2
    exact cs_okk_put h (h.1.2.2.1 _) (cs_up_lt (h.1.2.2.2 _) (by rw [cs_cI (by omega)]; exact hb9))
  · rw [if_neg hk]; exact h
theorem cs_okk_tru {S : cs_St} (h : cs_okk S) (r n : Int32) : cs_okk (cs_sTru S r n) := by
  unfold cs_sTru
  by_cases hk : cs_kTru S r n = 0
  · rw [if_pos hk]
    have hb := cs_k2_0.mp hk
    rw [Bool.and_eq_true, Bool.and_eq_true] at hb
    have hl := h.1.2.2.1 (cs_c r)
    obtain ⟨k, hk9, rfl⟩ := cs_in_of (n := cs_ln S (cs_c r)) (by omega) hb.2.2
    exact cs_okk_put h (by rw [cs_cI (by omega)]; omega) (h.1.2.2.2 _)
  · rw [if_neg hk]; exact h

