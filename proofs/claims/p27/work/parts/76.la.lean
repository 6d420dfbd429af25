section CSLO
variable {p : Program} {l : Launch} {e : Env} {s : State} {m : MethodId} {b : Nat} {below : List Frame} {meth : Method} {c : Code} {Q : State → Prop} {L : Nat} {xs : Nat → Int32} {D : va_G} {cy : Nat → ClassId}
set_option maxHeartbeats 4000000 in
set_option maxRecDepth 100000 in
theorem lw_l1 (C0 : cs_C p l s m c b L xs D cy) {a0 c1 s1 : Nat} (hc1 : c1 ≤ 600074) (hs1 : s1 ≤ 7301550)
    (kend : ∀ (S : cs_St) (ad : Nat → Nat) (H : Heap) (locs : List Loc) (ls : Array Slot), cs_okk S → cs_n S = 6 → (∀ r, cs_ln S r = 0) → ad 0 = a0 → cs_LS D s H locs S ad cy → lv_has ls 14 [(0, .ref b), (1, .ref a0), (2, .int (nI 1)), (3, .int (nI 6))] → W p l e room_1 s m #[.ref b] below meth c H locs c1 s1 Q (F0 m 115 ls [])) :
    ∀ (n k cells slots : Nat) (S : cs_St) (ad : Nat → Nat) (H : Heap) (locs : List Loc) (ls : Array Slot), k + n = 6 → cells + 5 * n ≤ c1 → slots + 32 * n ≤ s1 → cs_okk S → cs_n S = k → (∀ r, cs_ln S r = 0) → ad 0 = a0 → cs_LS D s H locs S ad cy → lv_has ls 14 [(0, .ref b), (1, .ref a0), (2, .int (nI 1)), (3, .int (nI k))] → W p l e room_1 s m #[.ref b] below meth c H locs cells slots Q (F0 m 12 ls []) := by
  obtain ⟨hx, hb, hml, -, hown, hts, -⟩ := id C0
  intro n
  induction n with
  | zero =>
    intro k cells slots S ad H locs ls hkn hc hs hok hn hl0 had hLS hl
    have hk6 : k = 6 := by omega
    subst hk6
    refine lv_iload_n hx hb dL_law_12 rfl (lv_at hl 3 rfl) ?_
    refine lv_bipush (v := nI 6) hx hb dL_law_13 (by decide) ?_
    exact lv_icmp_ge (tgt := 115) hx hb dL_law_15 (by decide) (fun _ => W.widen (by omega) (by omega) (kend S ad H locs ls hok hn hl0 had hLS hl)) (fun h => absurd (nI_le (Nat.le_refl _) (by decide)) h)
  | succ n ih =>
    intro k cells slots S ad H locs ls hkn hc hs hok hn hl0 had hLS hl
    refine lv_iload_n hx hb dL_law_12 rfl (lv_at hl 3 rfl) ?_
    refine lv_bipush (v := nI 6) hx hb dL_law_13 (by decide) ?_
    refine lv_icmp_ge (tgt := 115) hx hb dL_law_15 (by decide) (fun h => absurd h (nI_ge (by omega) (by decide))) (fun _ => ?_)
    refine lv_iload_n hx hb dL_law_18 rfl (lv_at hl 2 rfl) ?_
    refine lv_if_eq (tgt := 115) hx hb dL_law_19 (by decide) (fun h => absurd h (by decide)) (fun _ => ?_)
    refine lv_aload_n hx hb dL_law_22 rfl (lv_at hl 0 rfl) ?_
    refine lv_iload_n hx hb dL_law_23 rfl (lv_at hl 3 rfl) ?_
    refine lw_dr (rest := []) C0 hLS.2.2 hl (k := k) (by omega) (Nat.le_of_ble_eq_true rfl) (by omega) (by omega) dL_law_24 ?_
    have hz9 := cs_zn_lt L xs (k)
    generalize cs_zn L xs (k) = z at hz9 ⊢
    refine lv_istore (lv' := [(4, .int (nI z)), (0, .ref b), (1, .ref a0), (2, .int (nI 1)), (3, .int (nI k))]) hx hb dL_law_27 hl (by decide) rfl (fun ls hl => ?_)
    refine lv_iconst (v := nI 1) hx hb dL_law_29 (by decide) ?_
    refine lv_iload hx hb dL_law_30 (lv_at hl 0 rfl) ?_
    refine lv_bipush (v := nI 32) hx hb dL_law_32 (by decide) ?_
    refine lv_irem hx hb dL_law_34 (nI_ne0 (by omega) (by omega)) ?_
    refine cs_top (y := nI (z % 32)) (pk_rem (by omega) (by omega) (by omega)) ?_
    refine lv_iadd hx hb dL_law_35 ?_
    refine cs_top (y := nI (1 + (z % 32))) (nI_add 1 (z % 32)) ?_
    obtain ⟨wd, hwd0, hwd1, ewd⟩ : ∃ wd : Nat, 1 ≤ wd ∧ wd ≤ 32 ∧ 1 + (z % 32) = wd := ⟨_, by omega, by omega, rfl⟩
    refine cs_top (y := nI wd) (congrArg nI ewd) ?_
    refine lv_istore (lv' := [(5, .int (nI wd)), (4, .int (nI z)), (0, .ref b), (1, .ref a0), (2, .int (nI 1)), (3, .int (nI k))]) hx hb dL_law_36 hl (by decide) rfl (fun ls hl => ?_)
    refine lv_iload hx hb dL_law_38 (lv_at hl 0 rfl) ?_
    refine lv_bipush (v := nI 32) hx hb dL_law_40 (by decide) ?_
    have k55 : W p l e room_1 s m #[.ref b] below meth c H locs cells slots Q (F0 m 55 ls [.int (cs_mk wd)]) := by
      refine lv_istore (lv' := [(6, .int (cs_mk wd)), (5, .int (nI wd)), (4, .int (nI z)), (0, .ref b), (1, .ref a0), (2, .int (nI 1)), (3, .int (nI k))]) hx hb dL_law_55 hl (by decide) rfl (fun ls hl => ?_)
      refine lv_aload_n hx hb dL_law_57 rfl (lv_at hl 4 rfl) ?_
      refine lv_iload hx hb dL_law_58 (lv_at hl 1 rfl) ?_
      refine lv_iload hx hb dL_law_60 (lv_at hl 2 rfl) ?_
      refine lv_sipush (v := nI 128) hx hb dL_law_62 (by decide) ?_
      refine lv_idiv hx hb dL_law_65 (nI_ne0 (by omega) (by omega)) ?_
      refine cs_top (y := nI (z / 128)) (pk_div (by omega) (by omega) (by omega)) ?_
      refine lv_iconst (v := nI 5) hx hb dL_law_66 (by decide) ?_
      refine lv_imul hx hb dL_law_67 ?_
      refine lv_iload hx hb dL_law_68 (lv_at hl 0 rfl) ?_
      refine lv_iand hx hb dL_law_70 ?_
      refine lv_iload hx hb dL_law_71 (lv_at hl 2 rfl) ?_
      refine lv_iconst (v := nI 3) hx hb dL_law_73 (by decide) ?_
      refine lv_idiv hx hb dL_law_74 (nI_ne0 (by omega) (by omega)) ?_
      refine cs_top (y := nI (z / 3)) (pk_div (by omega) (by omega) (by omega)) ?_
      refine lv_iload hx hb dL_law_75 (lv_at hl 0 rfl) ?_
      refine lv_iand hx hb dL_law_77 ?_
      refine lv_iload hx hb dL_law_78 (lv_at hl 2 rfl) ?_
      refine lv_bipush (v := nI 32) hx hb dL_law_80 (by decide) ?_
      refine lv_idiv hx hb dL_law_82 (nI_ne0 (by omega) (by omega)) ?_
      refine cs_top (y := nI (z / 32)) (pk_div (by omega) (by omega) (by omega)) ?_
      refine lv_iconst (v := nI 4) hx hb dL_law_83 (by decide) ?_
      refine lv_irem hx hb dL_law_84 (nI_ne0 (by omega) (by omega)) ?_
      refine cs_top (y := nI ((z / 32) % 4)) (pk_rem (by omega) (by omega) (by omega)) ?_
      refine lv_iload hx hb dL_law_85 (lv_at hl 2 rfl) ?_
      refine lv_bipush (v := nI 7) hx hb dL_law_87 (by decide) ?_
      refine lv_idiv hx hb dL_law_89 (nI_ne0 (by omega) (by omega)) ?_
      refine cs_top (y := nI (z / 7)) (pk_div (by omega) (by omega) (by omega)) ?_
      refine lv_bipush (v := nI 11) hx hb dL_law_90 (by decide) ?_
      refine lv_imul hx hb dL_law_92 ?_
      refine lv_iload hx hb dL_law_93 (lv_at hl 0 rfl) ?_
      refine lv_iand hx hb dL_law_95 ?_
      subst had
      refine lw_md C0 hok hLS hl hwd0 hwd1 (nI (z / 128) * nI 5) (nI (z / 3)) (nI (z / 32 % 4)) (nI (z / 7) * nI 11) (by omega) (by omega) (by omega) dL_law_96 (fun S1 ad1 H locs hok hn1 hl1 had hLS => ?_)
      refine lv_iload_n hx hb dL_law_99 rfl (lv_at hl 6 rfl) ?_
      refine lv_icmp_ne (tgt := 107) hx hb dL_law_100 (by decide) (fun h => absurd (congrArg nI hn) h) (fun _ => ?_)
      refine lv_iconst (v := nI 1) hx hb dL_law_103 (by decide) ?_
      refine lv_goto (tgt := 108) hx hb dL_law_104 (by decide) ?_
      refine lv_istore_n (lv' := [(2, .int (nI 1)), (6, .int (cs_mk wd)), (5, .int (nI wd)), (4, .int (nI z)), (0, .ref b), (1, .ref (ad 0)), (3, .int (nI k))]) hx hb dL_law_108 rfl hl (by decide) rfl (fun ls hl => ?_)
      refine lv_iinc (v := nI (k + 1)) (lv' := [(3, .int (nI (k + 1))), (2, .int (nI 1)), (6, .int (cs_mk wd)), (5, .int (nI wd)), (4, .int (nI z)), (0, .ref b), (1, .ref (ad 0))]) hx hb dL_law_109 hl (k := 6) rfl (cs_inc1 k) (by decide) rfl (fun ls hl => ?_)
      refine lv_goto (tgt := 12) hx hb dL_law_112 (by decide) ?_
      exact ih (k + 1) (cells + 5) (slots + 32) S1 ad1 H locs ls (by omega) (by omega) (by omega) hok (by rw [hn1, hn]) (fun r => by rw [hl1]; exact hl0 r) had hLS (lv_sub hl [5, 6, 1, 0] rfl)
    refine lv_icmp_ne (tgt := 49) hx hb dL_law_42 (by decide) (fun h => ?_) (fun h => ?_)
    · have h32 : wd < 32 := by
        rcases Nat.lt_or_ge wd 32 with q | q
        · exact q
        · exact absurd (congrArg nI (show wd = 32 by omega)) h
      refine lv_iconst (v := 1) hx hb dL_law_49 (by decide) ?_
      refine lv_iload hx hb dL_law_50 (lv_at hl 0 rfl) ?_
      refine lv_ishl hx hb dL_law_52 ?_
      refine lv_iconst (v := 1) hx hb dL_law_53 (by decide) ?_
      refine lv_isub hx hb dL_law_54 ?_
      exact cs_top (cs_mkR wd h32 hwd0) k55
    · have h32 : wd = 32 := (nI_eq (by omega) (by decide)).mp h
      have e9 : cs_mk wd = -1 := by rw [h32]; decide
      refine lv_iconst (v := -1) hx hb dL_law_45 (by decide) ?_
      refine lv_goto (tgt := 55) hx hb dL_law_46 (by decide) ?_
      rw [← e9]
      exact k55
end CSLO
