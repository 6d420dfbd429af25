/-! the law: what its draws answer -/
/-- the number drawn at place k -/
def cs_zn (L : Nat) (xs : Nat → Int32) (k : Nat) : Nat := (if k < L then xs k else 214013 * nI k * nI k + 2531011).toBitVec.toNat % 2 ^ 31
theorem cs_zn_lt (L : Nat) (xs : Nat → Int32) (k : Nat) : cs_zn L xs k < 2 ^ 31 := Nat.mod_lt _ (Nat.two_pow_pos 31)
/-- the start of a draw: the script -/
def cs_Bs (b L : Nat) (xs : Nat → Int32) (U : State) : Prop := va_X b L xs U U.heap
theorem cs_Bs.blind {b L : Nat} {xs : Nat → Int32} {av : List Value} : FrameBlind (va_Pc av (cs_Bs b L xs)) := fun a U g mk q => ⟨q.1, va_X.moved (u := U) (U := U.calling g mk a) (Vm.Alike.refl U.vm) q.2⟩
theorem cs_Bs.at {b L : Nat} {xs : Nat → Int32} {av : List Value} {s : State} {A : Nat → Prop} {H : Heap} {locs : List Loc} (hX : va_X b L xs s s.heap) (hbl : b < s.heap.size) (hA : ¬ A b) (hS : va_S A s.heap H locs) : ∀ U : State, U.heap = H → s.WarmedH U.vm → va_Pc av (cs_Bs b L xs) av.toArray U := fun U hU hW =>
  ⟨rfl, by
    have h := va_X.moved hW.alike (hX.kept (hS.2.1 b hbl hA))
    show va_X b L xs U U.heap
    rw [hU]
    exact h⟩
set_option maxHeartbeats 4000000 in
set_option maxRecDepth 100000 in
theorem k_L_drawn (l : Launch) (b L : Nat) (xs : Nat → Int32) (k : Nat) (hk : k < 2 ^ 31) (hL : L ≤ 260) : Met l yL_drawn wsL_drawn ({ frames := 1, cells := 0, slots := 0, locals := 8 }) (va_Pc [.ref b, .int (nI k)] (cs_Bs b L xs)) (vp_Si (fun r => r = nI (cs_zn L xs k))) 0 0 (fun _ => False) := by
  refine Met.ofW (cc := cL_drawn) (maxL := 3) (ret := (some .int)) (by decide) rfl ?_
  intro pg e s m args below meth c s₁ B hml hv
  obtain ⟨rfl, hX⟩ := hv
  have hx := B.exec
  have hb := B.bytes
  have hr := B.returns
  have hts := atoms_spec (ws := wsL_drawn) B.pre
  have hown : s.vm.findClass RL = some m.cls := findClass_of_methodNamed B.named
  have hlocks := B.notSynchronized
  have hl := lv_entry ([.ref b, .int (nI k)]) (n := 3) (Nat.le_of_ble_eq_true rfl)
  rw [lg_entry_eq]
  generalize (lg_sl ([.ref b, .int (nI k)]) ++ List.replicate (3 - (lg_sl ([.ref b, .int (nI k)])).length) Slot.unset).toArray = ls at hl ⊢
  have hl : lv_has ls 3 [(0, .ref b), (1, .int (nI k))] := hl
  have hbl : b < s.heap.size := by obtain ⟨scr, h1, -⟩ := hX; exact (Array.getElem?_eq_some_iff.mp h1).1
  have hS9 : va_S (fun q => s.heap.size ≤ q) s.heap s.heap [] := va_S.rf
  have kk : ∀ v : Int32, (if k < L then xs k else 214013 * nI k * nI k + 2531011) = v → W pg l e (headSpec wsL_drawn ({ frames := 1, cells := 0, slots := 0, locals := 8 })).room s m [Value.ref b, Value.int (nI k)].toArray below meth c s.heap [] 0 0 (MQ below (vp_Si (fun r => r = nI (cs_zn L xs k))) [Value.ref b, Value.int (nI k)].toArray s 0 0 (fun _ => False)) (F0 m 21 ls [.int v]) := by
    intro v hv
    refine lv_istore_n (lv' := [(2, .int v), (0, .ref b), (1, .int (nI k))]) hx hb dL_drawn_21 rfl hl (by decide) rfl (fun ls hl => ?_)
    refine lv_iload_n hx hb dL_drawn_22 rfl (lv_at hl 0 rfl) ?_
    refine lv_ldc (v := 2147483647) hx hb hown (hts (.constant RL 9 2147483647) (by decide +kernel)) dL_drawn_23 ?_
    refine lv_iand hx hb dL_drawn_25 ?_
    refine cs_top (y := nI (cs_zn L xs k)) (by unfold cs_zn; rw [hv]; exact pk_and v 31 (by decide)) ?_
    exact W.iret (v := nI (cs_zn L xs k)) hx hb hr (fun t ht _ => ⟨nI (cs_zn L xs k), rfl, rfl, ht⟩) (fun q h => by cases h) dL_drawn_26
  refine lv_iload_n hx hb dL_drawn_0 rfl (lv_at hl 1 rfl) ?_
  refine lv_aload_n hx hb dL_drawn_1 rfl (lv_at hl 0 rfl) ?_
  refine va_slen hx hb hX hbl (Nat.not_le.mpr hbl) hS9 dL_drawn_2 ?_
  refine lv_icmp_ge (tgt := 12) hx hb dL_drawn_3 (by decide) (fun h => ?_) (fun h => ?_)
  · have h9 : ¬ k < L := fun z => absurd h (nI_ge z (by omega))
    refine lv_ldc (v := 214013) hx hb hown (hts (.constant RL 7 214013) (by decide +kernel)) dL_drawn_12 ?_
    refine lv_iload_n hx hb dL_drawn_14 rfl (lv_at hl 1 rfl) ?_
    refine lv_imul hx hb dL_drawn_15 ?_
    refine lv_iload_n hx hb dL_drawn_16 rfl (lv_at hl 1 rfl) ?_
    refine lv_imul hx hb dL_drawn_17 ?_
    refine lv_ldc (v := 2531011) hx hb hown (hts (.constant RL 8 2531011) (by decide +kernel)) dL_drawn_18 ?_
    refine lv_iadd hx hb dL_drawn_20 ?_
    exact kk _ (if_neg h9)
  · have h9 : k < L := Classical.byContradiction (fun z => h (nI_le (by omega) hk))
    refine lv_aload_n hx hb dL_drawn_6 rfl (lv_at hl 0 rfl) ?_
    refine lv_iload_n hx hb dL_drawn_7 rfl (lv_at hl 1 rfl) ?_
    refine va_sld hx hb hX hbl (Nat.not_le.mpr hbl) hS9 (vp_in_nI h9 (by omega)) dL_drawn_8 ?_
    rw [nI_clamp hk]
    refine lv_goto (tgt := 21) hx hb dL_drawn_9 (by decide) ?_
    exact kk _ (if_pos h9)
