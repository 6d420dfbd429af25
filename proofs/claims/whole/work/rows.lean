section
-- ===== PART A: goes FIRST, ahead of the names: the tables' words, and 'selects' of the private methods out of them =====
/-- a private method of a class that the tables say can be made, by its rows of tables_1 -/
def lw_okq (q : MethodName × Nat) : Prop := (q.1.cls ≠ "java/lang/invoke/MethodHandle" ∧ q.1.cls ≠ "java/lang/invoke/VarHandle") ∧ Cond.instantiable q.1.cls q.2 ∈ tables_1 ∧ Cond.privateMethod q.1 ∈ tables_1 ∧ Cond.instanceMethod q.1 ∈ tables_1
theorem lw_p0 : lw_okq (⟨"java/lang/Throwable", "fillInStackTrace", "(I)Ljava/lang/Throwable;"⟩, 6) := ⟨⟨by decide +kernel, by decide +kernel⟩, List.mem_of_getElem? (i := 89) (by decide +kernel), List.mem_of_getElem? (i := 87) (by decide +kernel), List.mem_of_getElem? (i := 88) (by decide +kernel)⟩
theorem lw_p1 : lw_okq (⟨"ChecksumLab", "findModel", "(I)LChecksumLab$Model;"⟩, 4) := ⟨⟨by decide +kernel, by decide +kernel⟩, List.mem_of_getElem? (i := 12) (by decide +kernel), List.mem_of_getElem? (i := 180) (by decide +kernel), List.mem_of_getElem? (i := 181) (by decide +kernel)⟩
theorem lw_p2 : lw_okq (⟨"ChecksumLab", "requireRoom", "(II)V"⟩, 4) := ⟨⟨by decide +kernel, by decide +kernel⟩, List.mem_of_getElem? (i := 12) (by decide +kernel), List.mem_of_getElem? (i := 276) (by decide +kernel), List.mem_of_getElem? (i := 277) (by decide +kernel)⟩
theorem lw_p3 : lw_okq (⟨"ChecksumLab", "requireIndex", "(II)V"⟩, 4) := ⟨⟨by decide +kernel, by decide +kernel⟩, List.mem_of_getElem? (i := 12) (by decide +kernel), List.mem_of_getElem? (i := 303) (by decide +kernel), List.mem_of_getElem? (i := 304) (by decide +kernel)⟩
theorem lw_p4 : lw_okq (⟨"ChecksumLab", "partSum", "(LChecksumLab$Model;III)I"⟩, 4) := ⟨⟨by decide +kernel, by decide +kernel⟩, List.mem_of_getElem? (i := 12) (by decide +kernel), List.mem_of_getElem? (i := 337) (by decide +kernel), List.mem_of_getElem? (i := 338) (by decide +kernel)⟩
theorem lw_p5 : lw_okq (⟨"ChecksumLabModel", "asked", "(ZZ)Z"⟩, 10) := ⟨⟨by decide +kernel, by decide +kernel⟩, List.mem_of_getElem? (i := 452) (by decide +kernel), List.mem_of_getElem? (i := 504) (by decide +kernel), List.mem_of_getElem? (i := 505) (by decide +kernel)⟩
theorem lw_p6 : lw_okq (⟨"ChecksumLabModel", "isModel", "(I)Z"⟩, 10) := ⟨⟨by decide +kernel, by decide +kernel⟩, List.mem_of_getElem? (i := 452) (by decide +kernel), List.mem_of_getElem? (i := 516) (by decide +kernel), List.mem_of_getElem? (i := 517) (by decide +kernel)⟩
theorem lw_p7 : lw_okq (⟨"ChecksumLabModel", "asked", "(Z)Z"⟩, 10) := ⟨⟨by decide +kernel, by decide +kernel⟩, List.mem_of_getElem? (i := 452) (by decide +kernel), List.mem_of_getElem? (i := 520) (by decide +kernel), List.mem_of_getElem? (i := 521) (by decide +kernel)⟩
theorem lw_p8 : lw_okq (⟨"ChecksumLabModel", "takes", "(III)I"⟩, 10) := ⟨⟨by decide +kernel, by decide +kernel⟩, List.mem_of_getElem? (i := 452) (by decide +kernel), List.mem_of_getElem? (i := 524) (by decide +kernel), List.mem_of_getElem? (i := 525) (by decide +kernel)⟩
theorem lw_p9 : lw_okq (⟨"ChecksumLabModel", "timesX", "(II)I"⟩, 10) := ⟨⟨by decide +kernel, by decide +kernel⟩, List.mem_of_getElem? (i := 452) (by decide +kernel), List.mem_of_getElem? (i := 528) (by decide +kernel), List.mem_of_getElem? (i := 529) (by decide +kernel)⟩
theorem lw_p10 : lw_okq (⟨"ChecksumLabModel", "sumOf", "(II)I"⟩, 10) := ⟨⟨by decide +kernel, by decide +kernel⟩, List.mem_of_getElem? (i := 452) (by decide +kernel), List.mem_of_getElem? (i := 532) (by decide +kernel), List.mem_of_getElem? (i := 533) (by decide +kernel)⟩
theorem lw_p11 : lw_okq (⟨"ChecksumLabModel", "isNumber", "(II)Z"⟩, 10) := ⟨⟨by decide +kernel, by decide +kernel⟩, List.mem_of_getElem? (i := 452) (by decide +kernel), List.mem_of_getElem? (i := 543) (by decide +kernel), List.mem_of_getElem? (i := 544) (by decide +kernel)⟩
theorem lw_p12 : lw_okq (⟨"ChecksumLabModel", "times", "(IIII)I"⟩, 10) := ⟨⟨by decide +kernel, by decide +kernel⟩, List.mem_of_getElem? (i := 452) (by decide +kernel), List.mem_of_getElem? (i := 547) (by decide +kernel), List.mem_of_getElem? (i := 548) (by decide +kernel)⟩
theorem lw_p13 : lw_okq (⟨"ChecksumLabModel", "powerOf", "(IJ)I"⟩, 10) := ⟨⟨by decide +kernel, by decide +kernel⟩, List.mem_of_getElem? (i := 452) (by decide +kernel), List.mem_of_getElem? (i := 555) (by decide +kernel), List.mem_of_getElem? (i := 556) (by decide +kernel)⟩
theorem lw_p14 : lw_okq (⟨"ChecksumLabModel", "puts", "(II)V"⟩, 10) := ⟨⟨by decide +kernel, by decide +kernel⟩, List.mem_of_getElem? (i := 452) (by decide +kernel), List.mem_of_getElem? (i := 574) (by decide +kernel), List.mem_of_getElem? (i := 575) (by decide +kernel)⟩
theorem lw_p15 : lw_okq (⟨"ChecksumLabModel", "isPlace", "(II)Z"⟩, 10) := ⟨⟨by decide +kernel, by decide +kernel⟩, List.mem_of_getElem? (i := 452) (by decide +kernel), List.mem_of_getElem? (i := 590) (by decide +kernel), List.mem_of_getElem? (i := 591) (by decide +kernel)⟩
def lw_privs_1 : List (MethodName × Nat) := [(⟨"java/lang/Throwable", "fillInStackTrace", "(I)Ljava/lang/Throwable;"⟩, 6), (⟨"ChecksumLab", "findModel", "(I)LChecksumLab$Model;"⟩, 4), (⟨"ChecksumLab", "requireRoom", "(II)V"⟩, 4), (⟨"ChecksumLab", "requireIndex", "(II)V"⟩, 4), (⟨"ChecksumLab", "partSum", "(LChecksumLab$Model;III)I"⟩, 4), (⟨"ChecksumLabModel", "asked", "(ZZ)Z"⟩, 10), (⟨"ChecksumLabModel", "isModel", "(I)Z"⟩, 10), (⟨"ChecksumLabModel", "asked", "(Z)Z"⟩, 10), (⟨"ChecksumLabModel", "takes", "(III)I"⟩, 10), (⟨"ChecksumLabModel", "timesX", "(II)I"⟩, 10), (⟨"ChecksumLabModel", "sumOf", "(II)I"⟩, 10), (⟨"ChecksumLabModel", "isNumber", "(II)Z"⟩, 10), (⟨"ChecksumLabModel", "times", "(IIII)I"⟩, 10), (⟨"ChecksumLabModel", "powerOf", "(IJ)I"⟩, 10), (⟨"ChecksumLabModel", "puts", "(II)V"⟩, 10), (⟨"ChecksumLabModel", "isPlace", "(II)Z"⟩, 10)]
theorem lw_r1 : ∀ q ∈ lw_privs_1, lw_okq q := List.forall_mem_cons.mpr ⟨lw_p0, List.forall_mem_cons.mpr ⟨lw_p1, List.forall_mem_cons.mpr ⟨lw_p2, List.forall_mem_cons.mpr ⟨lw_p3, List.forall_mem_cons.mpr ⟨lw_p4, List.forall_mem_cons.mpr ⟨lw_p5, List.forall_mem_cons.mpr ⟨lw_p6, List.forall_mem_cons.mpr ⟨lw_p7, List.forall_mem_cons.mpr ⟨lw_p8, List.forall_mem_cons.mpr ⟨lw_p9, List.forall_mem_cons.mpr ⟨lw_p10, List.forall_mem_cons.mpr ⟨lw_p11, List.forall_mem_cons.mpr ⟨lw_p12, List.forall_mem_cons.mpr ⟨lw_p13, List.forall_mem_cons.mpr ⟨lw_p14, List.forall_mem_cons.mpr ⟨lw_p15, fun _ h => absurd h List.not_mem_nil⟩⟩⟩⟩⟩⟩⟩⟩⟩⟩⟩⟩⟩⟩⟩⟩
theorem lw_p16 : lw_okq (⟨"ChecksumLabModel", "part", "(IIII)I"⟩, 10) := ⟨⟨by decide +kernel, by decide +kernel⟩, List.mem_of_getElem? (i := 452) (by decide +kernel), List.mem_of_getElem? (i := 610) (by decide +kernel), List.mem_of_getElem? (i := 611) (by decide +kernel)⟩
theorem lw_p17 : lw_okq (⟨"ChecksumLabModel", "registerOf", "(II)I"⟩, 10) := ⟨⟨by decide +kernel, by decide +kernel⟩, List.mem_of_getElem? (i := 452) (by decide +kernel), List.mem_of_getElem? (i := 626) (by decide +kernel), List.mem_of_getElem? (i := 627) (by decide +kernel)⟩
def lw_privs_2 : List (MethodName × Nat) := [(⟨"ChecksumLabModel", "part", "(IIII)I"⟩, 10), (⟨"ChecksumLabModel", "registerOf", "(II)I"⟩, 10)]
theorem lw_r2 : ∀ q ∈ lw_privs_2, lw_okq q := List.forall_mem_cons.mpr ⟨lw_p16, List.forall_mem_cons.mpr ⟨lw_p17, fun _ h => absurd h List.not_mem_nil⟩⟩
def lw_privs : List (MethodName × Nat) := lw_privs_1 ++ (lw_privs_2)
def lw_tbl : List Cond := k2_sels lw_privs ++ tables_1
theorem lw_privs_ok : ∀ q ∈ lw_privs, lw_okq q := by
  show ∀ q ∈ lw_privs_1 ++ (lw_privs_2), lw_okq q
  exact List.forall_mem_append.mpr ⟨lw_r1, lw_r2⟩
end
section
/-! what the printed text below rests on and no printed text of this claim has: arrays of arrays -/
def va_AOA (t : FieldType) (U : State) : Prop := (Cond.arrayOver (.array t)).before #[] U = true
theorem va_AOA.use {t : FieldType} {A : Array Value} {U : State} (h : va_AOA t U) : (Cond.arrayOver (.array t)).before A U = true := h
/-! ===== BEGIN words of one list among another's, by their places ===== -/
theorem goodIn_r {big : List Cond} (ws : List Cond) (ps : List Nat) (hp : ws = ps.filterMap (fun i => big[i]?)) (h : ws.all goodWord = true) : GoodIn big ws := by
  intro w hw
  have h1 := List.all_eq_true.mp h w hw
  rw [hp] at hw
  obtain ⟨i, -, hi⟩ := List.mem_filterMap.mp hw
  have hm : w ∈ big := by first | exact List.mem_of_getElem? hi | exact List.getElem?_mem hi
  exact ⟨hm, good_of_word h1⟩
theorem goodIn_app {big a b : List Cond} (ha : GoodIn big a) (hb : GoodIn big b) : GoodIn big (a ++ b) := fun w h => (List.mem_append.mp h).elim (ha w) (hb w)
theorem goodIn_ca {big a b : List Cond} {c : Cond} (ha : GoodIn big (c :: a)) (hb : GoodIn big b) : GoodIn big (c :: (a ++ b)) := fun w h => (List.mem_cons.mp h).elim (fun e => ha w (List.mem_cons.mpr (Or.inl e))) (fun h => (List.mem_append.mp h).elim (fun h => ha w (List.mem_cons.mpr (Or.inr h))) (hb w))
theorem goodIn_sub {big ws : List Cond} (hm : ∀ w ∈ ws, w ∈ big) (h : ws.all goodWord = true) : GoodIn big ws := fun w hw => ⟨hm w hw, good_of_word (List.all_eq_true.mp h w hw)⟩
/-! ===== END ===== -/

/-! ===== BEGIN new T[n][m]: the outer array a place, the inner ones among the pooled ===== -/
/-- f, but v at every address of l -/
def vr_up {α : Type} (f : Nat → α) (l : List Nat) (v : α) : Nat → α := fun a => if a ∈ l then v else f a
theorem vr_up_in {α : Type} {f : Nat → α} {l : List Nat} {v : α} {a : Nat} (h : a ∈ l) : vr_up f l v a = v := if_pos h
theorem vr_up_ne {α : Type} {f : Nat → α} {l : List Nat} {v : α} {a : Nat} (h : a ∉ l) : vr_up f l v a = f a := if_neg h
theorem vr_rows {L l : List Nat} {f : Nat → va_E} {e : va_E} (h : ∀ a, a ∈ l → a ∉ L) : va_pl L f ++ l.map (fun a => (a, e)) = va_pl (L ++ l) (vr_up f l e) := by
  unfold va_pl
  rw [List.map_append]
  congr 1
  · apply List.map_congr_left
    intro a ha
    rw [vr_up_ne (fun q => h a q ha)]
  · apply List.map_congr_left
    intro a ha
    rw [vr_up_in ha]
theorem vr_lay {X rows : va_W} {x : Nat × va_E} {pl : va_W} {D : va_G} {cl : List vw_C} {H : Heap} (hP : va_P D cl (((X ++ pl) ++ [x]) ++ rows) H) : va_P D cl ((X ++ [x]) ++ (pl ++ rows)) H := by
  rw [List.append_assoc (X ++ pl)] at hP
  have h := va_P.swap hP
  rw [← List.append_assoc X] at h
  have h2 := va_P.swap h
  rw [List.append_assoc (X ++ [x])] at h2
  exact h2
theorem vr_layD {X rows : va_W} {x : Nat × va_E} {pl : va_W} {A : Nat → Prop} (hD : va_D A (((X ++ pl) ++ [x]) ++ rows)) : va_D A ((X ++ [x]) ++ (pl ++ rows)) := by
  rw [List.append_assoc (X ++ pl)] at hD
  have h := va_D.swap hD
  rw [← List.append_assoc X] at h
  have h2 := va_D.swap h
  rw [List.append_assoc (X ++ [x])] at h2
  exact h2
theorem vr_outer (c : ClassId) (N h0 : Nat) : ∀ i : Nat, Jvm.Free.Multi.outerC c N h0 i = arrV c N (fun j => va_rf (if j < i then some (h0 + 1 + j) else none))
  | 0 => by
    show ({ cls := c, slots := Array.replicate N .null, vm := .none } : Cell) = _
    rw [arrV_new]
    refine congrArg (arrV c N) (funext fun j => ?_)
    simp [va_rf]
  | i + 1 => by
    show (Jvm.Free.Multi.outerC c N h0 i).setSlot i (.ref (h0 + 1 + i)) = _
    rw [vr_outer c N h0 i, arrV_store]
    refine congrArg (arrV c N) (funext fun j => ?_)
    by_cases e : j = i
    · subst e
      simp [updV, va_rf]
    · by_cases h : j < i
      · simp [updV, e, h, Nat.lt_succ_of_lt h]
      · simp [updV, e, h, show ¬ j < i + 1 by omega]
section VGM
variable {p : Program} {l : Launch} {e : Env} {R : Room} {s : State} {m : MethodId} {args : Array Value} {below : List Frame} {meth : Method} {c : Code} {H : Heap} {locs : List Loc} {cells slots : Nat} {Q : State → Prop}
variable {cc : ByteArray} {pc : Nat} {ls : Array Slot} {rest : List Value} {D : va_G} {cl : List vw_C} {A : Nat → Prop} {a : Nat} {tys : List (ClassId × FieldType)} {ws : va_W} {H0 : Heap}
theorem va_mna {X : va_W} {L : List Nat} {f : Nat → va_E} {cc : ByteArray} (hexec : p.tables.exec = Jvm.exec) (hb : c.code = cc) {own : String} {index : Nat} {ty : FieldType} {cy : ClassId} (hown : s.vm.findClass own = some m.cls) (hclink : (Cond.classLink own index ("[" ++ (FieldType.array ty).toString)).before args s = true) (hover : va_AOA ty s) (harr : (Cond.arrayClass ty).before args s = true) (hcy : s.vm.findClass (FieldType.array ty).toString = some cy)
    (hK : va_K D cl tys s) (hP : va_P D cl (X ++ va_pl L f) H) (hD : va_D A (X ++ va_pl L f)) (hS : va_S A H0 H locs) (hA : ∀ q, H0.size ≤ q → A q) {n k : Int32} {N' K' : Nat} {z : vp_A} (hn : ¬ n < 0) (hk : ¬ k < 0) (hN : n.toNatClampNeg = N') (hM : k.toNatClampNeg = K')
    (hb1 : N' * 4 ≤ 536870912) (hb2 : K' * componentBytes ty ≤ 536870912) (hb3 : K' ≤ 536870912) (hdf : fits ty (defaultValue ty) = true) (hdd : (defaultValue ty).isDefault = true) (hcells : cells + (1 + N') ≤ R.cells) (hslots : slots + (N' + N' * K') ≤ R.slots) (hz : ∀ c : ClassId, Jvm.Free.Multi.innerC c K' (defaultValue ty) = vp_cell c z) (hdg : decode cc pc = .ok (.multianewarray index 2, 4))
    (kk : ∀ (q : Nat) (r : Nat → Nat) (cA : ClassId) (H1 : Heap), (∀ i j : Nat, i < N' → j < N' → r i = r j → i = j) → (∀ i : Nat, i < N' → r i ∉ L) → va_K D cl (tys ++ [(cA, .array ty)]) s →
      va_P D cl ((X ++ [(q, .inl (cA, N', .inr (.inr (.inr (.inr (fun i => if i < N' then some (r i) else none))))))]) ++ va_pl (L ++ (List.range N').map r) (vr_up f ((List.range N').map r) (.inl (cy, z)))) H1 → va_D A ((X ++ [(q, .inl (cA, N', .inr (.inr (.inr (.inr (fun i => if i < N' then some (r i) else none))))))]) ++ va_pl (L ++ (List.range N').map r) (vr_up f ((List.range N').map r) (.inl (cy, z)))) → va_S A H0 H1 locs →
      W p l e R s m args below meth c H1 locs (cells + 1 + N') (slots + N' + N' * K') Q (F0 m (pc + 4) ls (.ref q :: rest))) : W p l e R s m args below meth c H locs cells slots Q (F0 m pc ls (.int k :: .int n :: rest)) := by
  subst hN
  subst hM
  intro T hT Xs
  obtain ⟨vm₁, cA, comp, -, fA, fC, hO, -, X', step⟩ := Xs.multianewarray2F hexec hown hclink (va_AOA.use hover) harr (g := F0 m pc ls (.int k :: .int n :: rest)) rfl (by rw [hb]; exact hdg) rfl hn hk hb1 hb2 hb3 hdf hdd hcells hslots
  have ec : some cy = some comp := hcy.symm.trans fC
  cases ec
  generalize hF : Jvm.Free.Multi.fill (T.setVm vm₁) cA cy n.toNatClampNeg k.toNatClampNeg (defaultValue ty) n.toNatClampNeg = F at X' step
  have hTh : (T.setVm vm₁).heap = H := hT
  obtain ⟨f1, f2, -, -⟩ := Jvm.Free.Multi.fill_facts (T.setVm vm₁) cA cy n.toNatClampNeg k.toNatClampNeg (defaultValue ty) n.toNatClampNeg
  rw [hF, hTh] at f1 f2
  have hold : ∀ x : Nat, x < H.size → F.heap[x]? = H[x]? := fun x hx => by
    have := Jvm.Free.Multi.fill_old (T.setVm vm₁) cA cy n.toNatClampNeg k.toNatClampNeg (defaultValue ty) (a := x) (by rw [hTh]; exact hx) n.toNatClampNeg
    rw [hF, hTh] at this
    exact this
  have hrow : ∀ j : Nat, j < n.toNatClampNeg → F.heap[H.size + 1 + j]? = some (vp_cell cy z) := fun j hj => by
    have := Jvm.Free.Multi.fill_inner (T.setVm vm₁) cA cy n.toNatClampNeg k.toNatClampNeg (defaultValue ty) n.toNatClampNeg j hj
    rw [hF, hTh, hz] at this
    exact this
  have hout : Jvm.Free.Multi.outerC cA n.toNatClampNeg H.size n.toNatClampNeg = vp_cell cA (n.toNatClampNeg, .inr (.inr (.inr (.inr (fun i => if i < n.toNatClampNeg then some (H.size + 1 + i) else none))))) := by
    rw [vp_cell_q]
    exact vr_outer cA n.toNatClampNeg H.size n.toNatClampNeg
  rw [hout] at f2
  have hlt : ∀ a, a ∈ L → a < H.size := fun a ha => by
    obtain ⟨k9, hk9⟩ := va_pl_get (X := X) (f := f) ha
    exact (hP k9 _ hk9).lt
  have hnl : ∀ i : Nat, i < n.toNatClampNeg → H.size + 1 + i ∉ L := fun i _ h => by
    have := hlt _ h
    omega
  have hnm : ∀ a, a ∈ (List.range n.toNatClampNeg).map (fun i => H.size + 1 + i) → a ∉ L := fun a ha h => by
    obtain ⟨i, -, rfl⟩ := List.mem_map.mp ha
    have := hlt _ h
    omega
  have hP0 : va_P D cl (X ++ va_pl L f) F.heap := hP.kept (fun k9 x hx => hold x.1 ((hP k9 x hx).lt))
  have hP1 : va_P D cl ((X ++ va_pl L f) ++ [(H.size, .inl (cA, n.toNatClampNeg, .inr (.inr (.inr (.inr (fun i => if i < n.toNatClampNeg then some (H.size + 1 + i) else none))))))]) F.heap := hP0.app (fun k9 x hx => by
    have h0 : k9 < 1 := (List.getElem?_eq_some_iff.mp hx).1
    rw [show k9 = 0 by omega] at hx
    cases hx
    exact f2)
  have hP2 : va_P D cl (((X ++ va_pl L f) ++ [(H.size, .inl (cA, n.toNatClampNeg, .inr (.inr (.inr (.inr (fun i => if i < n.toNatClampNeg then some (H.size + 1 + i) else none))))))]) ++ ((List.range n.toNatClampNeg).map (fun i => H.size + 1 + i)).map (fun a => (a, .inl (cy, z)))) F.heap := hP1.app (fun k9 x hx => by
    obtain ⟨a, ha, rfl⟩ := List.mem_map.mp (List.mem_of_getElem? hx)
    obtain ⟨i, hi, rfl⟩ := List.mem_map.mp ha
    exact hrow i (List.mem_range.mp hi))
  have hD2 : va_D A (((X ++ va_pl L f) ++ [(H.size, .inl (cA, n.toNatClampNeg, .inr (.inr (.inr (.inr (fun i => if i < n.toNatClampNeg then some (H.size + 1 + i) else none))))))]) ++ ((List.range n.toNatClampNeg).map (fun i => H.size + 1 + i)).map (fun a => (a, .inl (cy, z)))) := by
    have hD1 := hD.push (e := .inl (cA, n.toNatClampNeg, .inr (.inr (.inr (.inr (fun i => if i < n.toNatClampNeg then some (H.size + 1 + i) else none)))))) hP rfl (hA _ hS.1)
    generalize hW1 : (X ++ va_pl L f) ++ [(H.size, .inl (cA, n.toNatClampNeg, .inr (.inr (.inr (.inr (fun i => if i < n.toNatClampNeg then some (H.size + 1 + i) else none))))))] = W1 at hD1 hP1 ⊢
    have hle : ∀ (k9 : Nat) (x : Nat × va_E), W1[k9]? = some x → x.1 ≤ H.size := fun k9 x hx => by
      rw [← hW1] at hx
      by_cases hl : k9 < (X ++ va_pl L f).length
      · rw [List.getElem?_append_left hl] at hx
        exact Nat.le_of_lt ((hP k9 x hx).lt)
      · rw [List.getElem?_append_right (by omega)] at hx
        have h0 : k9 - (X ++ va_pl L f).length < 1 := (List.getElem?_eq_some_iff.mp hx).1
        rw [show k9 - (X ++ va_pl L f).length = 0 by omega] at hx
        cases hx
        exact Nat.le_refl _
    have hr : ∀ (k9 : Nat) (x : Nat × va_E), (((List.range n.toNatClampNeg).map (fun i => H.size + 1 + i)).map (fun a => ((a, .inl (cy, z)) : Nat × va_E)))[k9]? = some x → x.1 = H.size + 1 + k9 := fun k9 x hx => by
      rw [List.getElem?_map, List.getElem?_map] at hx
      by_cases h9 : k9 < n.toNatClampNeg
      · rw [List.getElem?_range h9] at hx
        cases hx
        rfl
      · have hn0 : (List.range n.toNatClampNeg)[k9]? = none := List.getElem?_eq_none (by rw [List.length_range]; omega)
        rw [hn0] at hx
        cases hx
    refine ⟨fun i j x y hi hj hxy => ?_, fun k9 x hx => ?_⟩
    · by_cases h1 : i < W1.length <;> by_cases h2 : j < W1.length
      · rw [List.getElem?_append_left h1] at hi
        rw [List.getElem?_append_left h2] at hj
        exact hD1.1 i j x y hi hj hxy
      · rw [List.getElem?_append_left h1] at hi
        rw [List.getElem?_append_right (by omega)] at hj
        have := hle _ _ hi
        have := hr _ _ hj
        omega
      · rw [List.getElem?_append_right (by omega)] at hi
        rw [List.getElem?_append_left h2] at hj
        have := hle _ _ hj
        have := hr _ _ hi
        omega
      · rw [List.getElem?_append_right (by omega)] at hi hj
        have := hr _ _ hi
        have := hr _ _ hj
        omega
    · by_cases h1 : k9 < W1.length
      · rw [List.getElem?_append_left h1] at hx
        exact hD1.2 k9 x hx
      · rw [List.getElem?_append_right (by omega)] at hx
        have := hr _ _ hx
        exact hA _ (by have := hS.1; omega)
  have hAr : ArrOfT s cA (.array ty) := fun N9 z9 => by
    obtain ⟨-, k9, hk9, cm9, hkk9⟩ := (hO 0 0 0).1
    exact ⟨(fun q hq => by cases hq), k9, hk9, cm9, hkk9⟩
  have hK2 : va_K D cl (tys ++ [(cA, .array ty)]) s := ⟨hK.1, fun k9 x hx => by
    by_cases hl : k9 < tys.length
    · rw [List.getElem?_append_left hl] at hx
      exact hK.2 k9 x hx
    · rw [List.getElem?_append_right (by omega)] at hx
      have h0 : k9 - tys.length < 1 := (List.getElem?_eq_some_iff.mp hx).1
      rw [show k9 - tys.length = 0 by omega] at hx
      cases hx
      exact ⟨hAr, fA⟩⟩
  obtain ⟨t, a1, b1⟩ := kk H.size (fun i => H.size + 1 + i) cA F.heap (fun i j _ _ h => by have h9 : H.size + 1 + i = H.size + 1 + j := h; omega) hnl hK2 (by rw [← vr_rows hnm]; exact vr_lay hP2) (by rw [← vr_rows hnm]; exact vr_layD hD2) ⟨by rw [f1]; have := hS.1; omega, fun x h1 h2 => (hold x (Nat.lt_of_lt_of_le h1 hS.1)).trans (hS.2.1 x h1 h2), hS.2.2⟩ F rfl X'
  refine ⟨t, step t ?_, b1⟩
  have e : T.heap.size = H.size := by rw [hT]
  rw [e]
  exact a1
end VGM
/-! ===== END ===== -/

/-! ===== BEGIN exceptions that leave a method, and their catching by the caller (launches without stack traces) ===== -/
section VXA
/-! The laws vx_back, vx_callV, vx_callS, vx_callSW, vx_throw0, vx_throwS follow proofs of the library, with one case more: JvmDerived/Free/Laws.lean (Back.of_free), Shelf42/LK1.lean (callV, callS), Shelf/KitTraced.lean (throwNew0V, throwNewS). -/
/-- where a method has thrown q: the class by its name, the cell, what was written, the world -/
def vx_T (XC : String → State → State → Prop) (st : State) (q : Addr) (t : State) (mc ms : Nat) (free : Addr → Prop) : Prop :=
  ∃ (E : String) (ce : Cell) (L : List Loc), XC E st t ∧ t.heap[q]? = some ce ∧ ce.vm = .none ∧ st.vm.findClass E = some ce.cls ∧ st.WarmedH t.vm ∧ st.sameButNew ({ t with vm := st.vm } : State) L mc ms ∧ ∀ z ∈ L, free z.base
def vx_Q (Qc : Array Value → State → Outcome → State → Prop) (XC : String → State → State → Prop) (mc ms : Nat) (free : Addr → Prop) : Array Value → State → Outcome → State → Prop := fun a st o t =>
  (Qc a st o t ∧ ∃ L, FrameEnd st o t L mc ms ∧ ∀ q ∈ L, free q.base) ∨ ∃ q, o = .threw q ∧ vx_T XC st q t mc ms free
/-- a callee that returns or throws -/
def vx_Met (l : Launch) (y : MethodName) (ws : List Cond) (rm : Room) (Pc : Array Value → State → Prop) (Qc : Array Value → State → Outcome → State → Prop) (XC : String → State → State → Prop) (mc ms : Nat) (free : Addr → Prop) : Prop :=
  MetFree l y (headSpec ws rm) Pc (fun _ _ _ _ _ => True) (vx_Q Qc XC mc ms free)
def vx_Post (XC : String → State → State → Prop) (mc ms : Nat) (free : Addr → Prop) : Pt → Array Value → Addr → Pt → Prop := fun A a q B =>
  ∃ (g : JFrame) (mk : MethodId) (t : State) (L : List Loc) (E : String) (ce : Cell), B.U.heap = t.heap ∧ B.U.vm = t.vm ∧ XC E (A.U.calling g mk a) t ∧ t.heap[q]? = some ce ∧ ce.vm = .none ∧ A.U.vm.findClass E = some ce.cls ∧ B.locs = A.locs ++ L ∧ (∀ z ∈ L, free z.base) ∧ B.cells = A.cells + mc ∧ B.slots = A.slots + ms
def vx_Back (l : Launch) (R : Room) (p : Program) (e : Env) (below : List Frame) (s : State) (sargs : Array Value) (y : MethodName) (len W9 : Nat)
    (Pre : Pt → Array Value → Prop) (Post : Pt → Array Value → Option Value → Pt → Prop) (PostX : Pt → Array Value → Addr → Pt → Prop) : Prop :=
  ∀ (m : MethodId) (meth : Method) (c : Code) (A : Pt) (g : JFrame) (ig : Instr) (mk : MethodId) (a : Array Value),
    Stand p l e R s m sargs below meth c A.U A.locs A.cells A.slots → g.method = m → g.locals.size = c.maxLocals → decode c.code g.pc = .ok (ig, len) →
    2 * g.monitorRoom + (g.stack.map fun v => v.category).sum ≤ W9 → A.U.methodNamed? y = some mk → Pre A a →
    (∃ (v : Option Value) (B : Pt), Stand p l e R s m sargs below meth c B.U B.locs B.cells B.slots ∧ Post A a v B ∧
      Steps p.tables e below (doInvoke e (A.U.setTop g) [] mk a).1 (B.U.setTop { g with pc := g.pc + len, stack := v.toList ++ g.stack })) ∨
    (∃ (q : Addr) (B : Pt), Stand p l e R s m sargs below meth c B.U B.locs B.cells B.slots ∧ PostX A a q B ∧
      Steps p.tables e below (doInvoke e (A.U.setTop g) [] mk a).1 ((B.U.setTop g).pushFrame (.throwing q)))
section Payer
variable {l : Launch} {R : Room} {p : Program} {e : Env} {below : List Frame} {s : State} {sargs : Array Value} {y : MethodName} {len W9 : Nat}
theorem vx_back {ws : List Cond} {rm : Room} {Pc : Array Value → State → Prop} {Qc : Array Value → State → Outcome → State → Prop} {XC : String → State → State → Prop} {mc ms : Nat} {free : Addr → Prop} {bytes : ByteArray} {maxL : Nat} {ret : Option FieldType}
    (hM : vx_Met l y ws rm Pc Qc XC mc ms free) (hblind : FrameBlind Pc) (hrc : rm.cells = mc) (hrs : rm.slots = ms)
    (hframes : rm.frames + 1 ≤ R.frames) (hlocals : W9 + (maxL + 11) + rm.locals ≤ R.locals)
    (hws : ∀ w ∈ ws, ∀ a' U, s.WarmedH U.vm → w.before a' U = true) (hcode : Cond.code y bytes maxL ret ∈ ws) (hinit : ∀ a' U, s.WarmedH U.vm → (Cond.initialized y.cls).before a' U = true) :
    vx_Back l R p e below s sargs y len W9 (PreOf R mc ms Pc) (PostOf Qc mc ms free) (vx_Post XC mc ms free) := by
  intro m meth c A g ig mk a X hg hsize hdg hW hn hp
  have h1 : (headSpec ws rm).pre.before a A.U = true := atoms_intro fun w hw => hws w hw _ _ X.warmed
  have h2 : (Cond.code y bytes maxL ret).before a A.U = true := hws _ hcode _ _ X.warmed
  have h3 : (Cond.initialized y.cls).before a A.U = true := hinit _ _ X.warmed
  have h4 : A.cells + (headSpec ws rm).room.cells ≤ R.cells := by rw [show (headSpec ws rm).room.cells = mc from hrc]; exact hp.1
  have h5 : A.slots + (headSpec ws rm).room.slots ≤ R.slots := by rw [show (headSpec ws rm).room.slots = ms from hrs]; exact hp.2.1
  have hPc : Pc a (A.U.calling g mk a) := hblind _ _ _ _ hp.2.2
  obtain ⟨U, Ls, c0, s0⟩ := A
  dsimp only [Pt.U, Pt.locs, Pt.cells, Pt.slots] at h1 h2 h3 h4 h5 X hn hPc ⊢
  obtain ⟨methY, cY, hmY, hcY, -, hlY, -, -, -, -⟩ := Cond.code_spec hn h2
  obtain ⟨kY, hkY, -⟩ := className_of_methodNamed hn
  have hinitY : kY.init = .initialized := Cond.initialized_spec (findClass_of_methodNamed hn) hkY h3
  have h : At U g.method c below := by rw [hg]; exact X.here
  have hlocals9 : W9 + (maxL + 11) + (headSpec ws rm).room.locals ≤ R.locals := hlocals
  have happ : (headSpec ws rm).appliesLoose y e.platform (U.calling g mk a) = true :=
    Spec.appliesLoose_calling (g := g) h hdg hn hkY hinitY
      (X.room_calling (g := g) (R' := (headSpec ws rm).room) hsize hmY hcY hframes (by rw [hlY]; omega) h4 h5) h1
  obtain ⟨mid, hmid⟩ := h.above
  have hfr : (U.setTop g).frames = (.java g :: mid) ++ below := by rw [State.frames_setTop' g h.top, hmid]; rfl
  obtain ⟨o, s₂, hsteps, -, hend, hq⟩ := Steps.callFree hM p X.admits X.cas X.clock (acts := []) hfr happ hPc trivial
  have hq' : vx_Q Qc XC mc ms free a (U.calling g mk a) o s₂ := hq
  rw [State.frames_setTop' g h.top] at hend
  obtain ⟨g₀, hg0⟩ := Option.isSome_iff_exists.mp h.top
  obtain ⟨r, hr⟩ := State.topJava?_eq_some.mp hg0
  have hr' : (({ U with heap := s₂.heap, slotsUsed := s₂.slotsUsed } : State).setVm s₂.vm).frames = .java g₀ :: r := hr
  rcases hq' with ⟨hqc, L, hfe, hL⟩ | ⟨q, rfl, E, ce, L, hx, hce, hcv, hcl, hW₂, hsm, hL⟩
  · obtain ⟨⟨v, rfl⟩, hW₂, e2, q2, q3, q4, q5, q6⟩ := id hfe
    have e3 : s₂ = ({ (U.calling g mk a).setFrames s₂.frames with heap := s₂.heap, slotsUsed := s₂.slotsUsed } : State).setVm s₂.vm := by
      have : s₂ = ({ s₂ with vm := (U.calling g mk a).vm } : State).setVm s₂.vm := rfl
      rw [e2] at this
      exact this
    obtain ⟨c₂, i₂, len₂, hc₂, hd₂, hf₂⟩ := hend
    have hW' : U.WarmedH s₂.vm := hW₂
    have hcc : c₂ = c := by
      have h1 : s₂.code? g.method = U.code? g.method := by
        rw [State.code?_eq, State.code?_eq, hW'.alike.method?]
      exact Option.some.inj (hc₂.symm.trans (h1.trans h.code))
    subst hcc
    have hlen : len₂ = len := by rw [hdg] at hd₂; cases hd₂; rfl
    subst hlen
    have hs₂ : s₂ = (({ U with heap := s₂.heap, slotsUsed := s₂.slotsUsed } : State).setVm s₂.vm).setTop { g with pc := g.pc + len₂, stack := v.toList ++ g.stack } := by
      refine e3.trans ?_
      rw [hf₂, State.calling_eq h.top, State.setFrames_setFrames, State.setTop_of_frames _ hr', hr]
      rfl
    have hsame : U.sameButNew ({ U with heap := s₂.heap, slotsUsed := s₂.slotsUsed } : State) L mc ms := by
      refine ⟨?_, q2, q3, q4, q5, q6⟩
      obtain ⟨t, ht, -⟩ := State.frames_cons hr
      show ({ U with heap := s₂.heap, slotsUsed := s₂.slotsUsed } : State) = { U.setFrames U.frames with heap := s₂.heap, slotsUsed := s₂.slotsUsed }
      rw [State.setFrames_self ht]
    subst hg
    refine Or.inl ⟨v, ⟨(({ U with heap := s₂.heap, slotsUsed := s₂.slotsUsed } : State).setVm s₂.vm), Ls ++ L, c0 + mc, s0 + ms⟩,
      ⟨X.admits, X.cas, X.clock, X.frames, X.room, X.hears, X.method, X.code, (X.here.setHeapUsed s₂.heap s₂.slotsUsed).setVm hW'.alike, X.tail, State.WarmedH.trans X.warmed hW', X.limits, X.bytes, X.same.trans (hsame.setVm s.vm)⟩,
      ⟨g, mk, s₂, L, rfl, rfl, hqc, rfl, hL, rfl, rfl⟩, ?_⟩
    show Steps p.tables e below _ ((({ U with heap := s₂.heap, slotsUsed := s₂.slotsUsed } : State).setVm s₂.vm).setTop { g with pc := g.pc + len₂, stack := v.toList ++ g.stack })
    rw [← hs₂]
    exact hsteps
  · obtain ⟨e2, q2, q3, q4, q5, q6⟩ := id hsm
    have e3 : s₂ = ({ (U.calling g mk a).setFrames s₂.frames with heap := s₂.heap, slotsUsed := s₂.slotsUsed } : State).setVm s₂.vm := by
      have : s₂ = ({ s₂ with vm := (U.calling g mk a).vm } : State).setVm s₂.vm := rfl
      rw [e2] at this
      exact this
    have hf₂ : s₂.frames = .throwing q :: .java g :: U.frames.tail := hend
    have hW' : U.WarmedH s₂.vm := hW₂
    have hs₂ : s₂ = ((({ U with heap := s₂.heap, slotsUsed := s₂.slotsUsed } : State).setVm s₂.vm).setTop g).pushFrame (.throwing q) := by
      refine e3.trans ?_
      rw [hf₂, State.calling_eq h.top, State.setFrames_setFrames, State.pushFrame, State.frames_setTop _ hr', State.setTop_of_frames _ hr', State.setFrames_setFrames, hr]
      rfl
    have hsame : U.sameButNew ({ U with heap := s₂.heap, slotsUsed := s₂.slotsUsed } : State) L mc ms := by
      refine ⟨?_, q2, q3, q4, q5, q6⟩
      obtain ⟨t, ht, -⟩ := State.frames_cons hr
      show ({ U with heap := s₂.heap, slotsUsed := s₂.slotsUsed } : State) = { U.setFrames U.frames with heap := s₂.heap, slotsUsed := s₂.slotsUsed }
      rw [State.setFrames_self ht]
    subst hg
    refine Or.inr ⟨q, ⟨(({ U with heap := s₂.heap, slotsUsed := s₂.slotsUsed } : State).setVm s₂.vm), Ls ++ L, c0 + mc, s0 + ms⟩,
      ⟨X.admits, X.cas, X.clock, X.frames, X.room, X.hears, X.method, X.code, (X.here.setHeapUsed s₂.heap s₂.slotsUsed).setVm hW'.alike, X.tail, State.WarmedH.trans X.warmed hW', X.limits, X.bytes, X.same.trans (hsame.setVm s.vm)⟩,
      ⟨g, mk, s₂, L, E, ce, rfl, rfl, hx, hce, hcv, hcl, rfl, hL, rfl, rfl⟩, ?_⟩
    show Steps p.tables e below _ (((({ U with heap := s₂.heap, slotsUsed := s₂.slotsUsed } : State).setVm s₂.vm).setTop g).pushFrame (.throwing q))
    rw [← hs₂]
    exact hsteps
end Payer
section Calls
variable {p : Program} {l : Launch} {e : Env} {R : Room} {s : State} {m : MethodId} {args : Array Value} {below : List Frame} {meth : Method} {c : Code} {T : State} {locs : List Loc} {cells slots : Nat}
theorem vx_callV (X : Stand p l e R s m args below meth c T locs cells slots) (hexec : p.tables.exec = Jvm.exec) {own C : String} {index : Nat} {y : MethodName} {bytes : ByteArray} {maxL : Nat} {ret : Option FieldType}
    (hown : s.vm.findClass own = some m.cls) (hlink : (Cond.methodLink own index y).before args s = true) (hinst : (Cond.instanceMethod y).before args s = true) (hsel : (Cond.selects C y y).before args s = true)
    (hcode : (Cond.code y bytes maxL ret).before args s = true) (hy : y.cls ≠ "java/lang/invoke/MethodHandle" ∧ y.cls ≠ "java/lang/invoke/VarHandle")
    {W9 : Nat} {Pre : Pt → Array Value → Prop} {Post : Pt → Array Value → Option Value → Pt → Prop} {PostX : Pt → Array Value → Addr → Pt → Prop} (hK : vx_Back l R p e below s args y 3 W9 Pre Post PostX)
    {b : Addr} {cellB : Cell} (hcell : T.heap[b]? = some cellB) (hobj : cellB.vm.isStatics = false) (hcls : s.vm.findClass C = some cellB.cls)
    {g : JFrame} (hg : g.method = m) (hsize : g.locals.size = c.maxLocals) {argsL rest : List Value} (hlen : ∀ sig, parseMethodDescriptor y.desc = some sig → argsL.length = sig.parameters.length)
    (hstack : g.stack = argsL.reverse ++ .ref b :: rest) (hW : 2 * g.monitorRoom + (rest.map fun v => v.category).sum ≤ W9) (hdg : decode c.code g.pc = .ok (.invokevirtual index, 3))
    (hpre : ∀ vm₁, s.WarmedH vm₁ → Pre ⟨T.setVm vm₁, locs, cells, slots⟩ (Value.ref b :: argsL).toArray) :
    (∃ (v : Option Value) (vm₁ : Vm) (B : Pt), s.WarmedH vm₁ ∧ Stand p l e R s m args below meth c B.U B.locs B.cells B.slots ∧ Post ⟨T.setVm vm₁, locs, cells, slots⟩ (Value.ref b :: argsL).toArray v B ∧
      ∀ target, Steps p.tables e below (B.U.setTop { g with pc := g.pc + 3, stack := v.toList ++ rest }) target → Steps p.tables e below (T.setTop g) target) ∨
    (∃ (q : Addr) (vm₁ : Vm) (B : Pt), s.WarmedH vm₁ ∧ Stand p l e R s m args below meth c B.U B.locs B.cells B.slots ∧ PostX ⟨T.setVm vm₁, locs, cells, slots⟩ (Value.ref b :: argsL).toArray q B ∧
      Steps p.tables e below (T.setTop g) ((B.U.setTop { g with stack := rest }).pushFrame (.throwing q))) := by
  obtain ⟨mk, methM, hnamed, hmethM, hstM, habM⟩ := Cond.instanceMethod_spec hinst
  obtain ⟨methM', cM, hmethM', -, -, -, -, -, -, hsigM⟩ := Cond.code_spec hnamed hcode
  cases hmethM.symm.trans hmethM'
  obtain ⟨c2, r2, m2, q1, q2, q3, q4, kP, hkP, hkPi⟩ := Cond.selects_spec hsel
  cases hcls.symm.trans q1
  cases (State.methodFound?_of_named hnamed hy).symm.trans q2
  cases hnamed.symm.trans q3
  have hselP : selectMethod e.platform s.vm cellB.cls mk = .method mk := by rw [Launch.admits_selectMethod X.admits]; exact q4
  obtain ⟨vm₁, X₁, hstep₁⟩ := X.invokevirtual hexec hown hlink hnamed hmethM hstM hkP hkPi hy (a := b) (cell := cellB) hcell
    (fun z h => by rw [h] at hobj; cases hobj) hselP hmethM habM hkP hkPi (g := g) hg (argsL := argsL) (rest := rest) (hlen _ hsigM) hstack hdg
  rcases hK m meth c ⟨T.setVm vm₁, locs, cells, slots⟩ { g with stack := rest } (.invokevirtual index) mk (Value.ref b :: argsL).toArray X₁ hg hsize hdg hW (X₁.named hnamed) (hpre vm₁ X₁.warmed) with ⟨v, B, X', hpost, hsteps⟩ | ⟨q, B, X', hpost, hsteps⟩
  · exact Or.inl ⟨v, vm₁, B, X₁.warmed, X', hpost, fun target h => hstep₁ _ fun acts => by rw [doInvoke_state]; exact hsteps.trans h⟩
  · exact Or.inr ⟨q, vm₁, B, X₁.warmed, X', hpost, hstep₁ _ fun acts => by rw [doInvoke_state]; exact hsteps⟩
theorem vx_callS (X : Stand p l e R s m args below meth c T locs cells slots) (hexec : p.tables.exec = Jvm.exec) {own : String} {index : Nat} {y : MethodName} {bytes : ByteArray} {maxL : Nat} {ret : Option FieldType}
    (hown : s.vm.findClass own = some m.cls) (hlink : (Cond.methodLink own index y).before args s = true) (hstat : (Cond.static y).before args s = true) (hinit : (Cond.initialized y.cls).before args s = true)
    (hcode : (Cond.code y bytes maxL ret).before args s = true) (hy : y.cls ≠ "java/lang/invoke/MethodHandle" ∧ y.cls ≠ "java/lang/invoke/VarHandle")
    {W9 : Nat} {Pre : Pt → Array Value → Prop} {Post : Pt → Array Value → Option Value → Pt → Prop} {PostX : Pt → Array Value → Addr → Pt → Prop} (hK : vx_Back l R p e below s args y 3 W9 Pre Post PostX)
    {g : JFrame} (hg : g.method = m) (hsize : g.locals.size = c.maxLocals) {argsL rest : List Value} (hlen : ∀ sig, parseMethodDescriptor y.desc = some sig → argsL.length = sig.parameters.length)
    (hstack : g.stack = argsL.reverse ++ rest) (hW : 2 * g.monitorRoom + (rest.map fun v => v.category).sum ≤ W9) (hdg : decode c.code g.pc = .ok (.invokestatic index, 3))
    (hpre : ∀ vm₁, s.WarmedH vm₁ → Pre ⟨T.setVm vm₁, locs, cells, slots⟩ argsL.toArray) :
    (∃ (v : Option Value) (vm₁ : Vm) (B : Pt), s.WarmedH vm₁ ∧ Stand p l e R s m args below meth c B.U B.locs B.cells B.slots ∧ Post ⟨T.setVm vm₁, locs, cells, slots⟩ argsL.toArray v B ∧
      ∀ target, Steps p.tables e below (B.U.setTop { g with pc := g.pc + 3, stack := v.toList ++ rest }) target → Steps p.tables e below (T.setTop g) target) ∨
    (∃ (q : Addr) (vm₁ : Vm) (B : Pt), s.WarmedH vm₁ ∧ Stand p l e R s m args below meth c B.U B.locs B.cells B.slots ∧ PostX ⟨T.setVm vm₁, locs, cells, slots⟩ argsL.toArray q B ∧
      Steps p.tables e below (T.setTop g) ((B.U.setTop { g with stack := rest }).pushFrame (.throwing q))) := by
  obtain ⟨mk, hnamed⟩ := Cond.code_named hcode
  obtain ⟨methM, cM, hmethM, -, -, -, -, -, -, hsigM⟩ := Cond.code_spec hnamed hcode
  have hstatic : methM.isStatic = true := Cond.static_spec hnamed hmethM hstat
  obtain ⟨kP, hkP, -⟩ := className_of_methodNamed hnamed
  have hinitP : kP.init = .initialized := Cond.initialized_spec (findClass_of_methodNamed hnamed) hkP hinit
  obtain ⟨vm₁, X₁, hstep₁⟩ := X.invokestatic hexec hown hlink hnamed hmethM hstatic hkP hinitP hy (g := g) hg (argsL := argsL) (rest := rest) (hlen _ hsigM) hstack hdg
  rcases hK m meth c ⟨T.setVm vm₁, locs, cells, slots⟩ { g with stack := rest } (.invokestatic index) mk argsL.toArray X₁ hg hsize hdg hW (X₁.named hnamed) (hpre vm₁ X₁.warmed) with ⟨v, B, X', hpost, hsteps⟩ | ⟨q, B, X', hpost, hsteps⟩
  · exact Or.inl ⟨v, vm₁, B, X₁.warmed, X', hpost, fun target h => hstep₁ _ fun acts => by rw [doInvoke_state]; exact hsteps.trans h⟩
  · exact Or.inr ⟨q, vm₁, B, X₁.warmed, X', hpost, hstep₁ _ fun acts => by rw [doInvoke_state]; exact hsteps⟩
end Calls
theorem vx_cls {s : State} {T : State} {vm₁ : Vm} {E : String} {k : ClassId} (hW : s.WarmedH vm₁) (h : (T.setVm vm₁).vm.findClass E = some k) : s.vm.findClass E = some k := by
  have h1 : vm₁.findClass E = some k := h
  rw [hW.alike.findClass] at h1
  exact h1
/-- the method's frame g, with q thrown over it -/
def vx_W (p : Program) (l : Launch) (e : Env) (R : Room) (s : State) (m : MethodId) (args : Array Value) (below : List Frame) (meth : Method) (c : Code) (H : Heap) (locs : List Loc) (cells slots : Nat) (Q : State → Prop) (g : JFrame) (q : Addr) : Prop :=
  ∀ T : State, T.heap = H → Stand p l e R s m args below meth c T locs cells slots → ∃ t, Steps p.tables e below ((T.setTop g).pushFrame (.throwing q)) t ∧ Q t
def vx_Run (p : Program) (l : Launch) (e : Env) (R : Room) (s : State) (m : MethodId) (args : Array Value) (below : List Frame) (meth : Method) (c : Code) (H : Heap) (locs : List Loc) (cells slots mc ms : Nat) (g : JFrame) (rest : List Value) (Qa : State → Outcome → State → Prop) (XC : String → State → State → Prop) (free : Addr → Prop) : Prop :=
  ∀ T : State, T.heap = H → Stand p l e R s m args below meth c T locs cells slots →
    (∃ (v : Option Value) (st₀ t T' : State) (L : List Loc), st₀.heap = H ∧ Stand p l e R s m args below meth c T' (locs ++ L) (cells + mc) (slots + ms) ∧ (∀ q ∈ L, free q.base) ∧ T'.heap = t.heap ∧ T'.vm = t.vm ∧ Qa st₀ (.returned v) t ∧
      Goes p e below T g T' { g with pc := g.pc + 3, stack := v.toList ++ rest }) ∨
    (∃ (q : Addr) (st₀ t T' : State) (L : List Loc) (E : String) (ce : Cell), st₀.heap = H ∧ Stand p l e R s m args below meth c T' (locs ++ L) (cells + mc) (slots + ms) ∧ (∀ z ∈ L, free z.base) ∧ T'.heap = t.heap ∧ T'.vm = t.vm ∧ XC E st₀ t ∧ t.heap[q]? = some ce ∧ ce.vm = .none ∧ s.vm.findClass E = some ce.cls ∧
      Steps p.tables e below (T.setTop g) ((T'.setTop { g with stack := rest }).pushFrame (.throwing q)))
def vx_X {S : Type} (px : S → Prop) (B : String → S → State → Prop) (A : Nat → Prop) : String → State → State → Prop := fun E st t => ∃ u : S, px u ∧ B E u t ∧ va_F A st t
section Runs
variable {p : Program} {l : Launch} {e : Env} {R : Room} {s : State} {m : MethodId} {args : Array Value} {below : List Frame} {meth : Method} {c : Code} {H : Heap} {locs : List Loc} {cells slots : Nat}
variable {y : MethodName} {bytes cc : ByteArray} {maxL nL mc ms n index : Nat} {ret : Option FieldType} {ws : List Cond} {rm : Room} {Pc : Array Value → State → Prop} {Qc : Array Value → State → Outcome → State → Prop} {XC : String → State → State → Prop} {free : Addr → Prop} {Ts : List Cond} {own C : String} {b : Addr} {As rest : List Value} {g : JFrame}
theorem vx_callBack (cb : CallB R s args own index y bytes maxL ret ws rm mc ms n) (hM : vx_Met l y ws rm Pc Qc XC mc ms free) (hbl : FrameBlind Pc) : vx_Back l R p e below s args y 3 8 (PreOf R mc ms Pc) (PostOf Qc mc ms free) (vx_Post XC mc ms free) := by
  obtain ⟨hrc, hrs, hfr, hlo, hws, hcw, -, hini, -⟩ := cb
  exact vx_back (bytes := bytes) (maxL := maxL) (ret := ret) hM hbl hrc hrs hfr hlo hws hcw (fun a' U hW => word_at hW (Or.inl (by first | rfl | simp [Cond.onTables, Cond.keeps, Cond.steady])) hini)
theorem vx_runV (S : CallFix p m c cc nL s args Ts own) (hM : vx_Met l y ws rm Pc Qc XC mc ms free) (cw : CallW R s args own C index y bytes maxL ret ws rm mc ms n) (hp : PreV s H C b Pc As)
    (hg : g.method = m) (hn : As.length = n) (hsize : g.locals.size = nL) (hstack : g.stack = As.reverse ++ .ref b :: rest) (hW : 2 * g.monitorRoom + (rest.map fun v => v.category).sum ≤ 8) (hdg : decode cc g.pc = .ok (.invokevirtual index, 3)) (hf : cells + mc ≤ R.cells ∧ slots + ms ≤ R.slots) :
    vx_Run p l e R s m args below meth c H locs cells slots mc ms g rest (Qc (Value.ref b :: As).toArray) XC free := by
  have hK : vx_Back l R p e below s args y 3 8 (PreOf R mc ms Pc) (PostOf Qc mc ms free) (vx_Post XC mc ms free) := vx_callBack cw.1 hM hp.1
  obtain ⟨⟨-, -, -, -, -, -, hcode, -, hy, hlen, hl⟩, hin, hse⟩ := cw
  obtain ⟨hx, hb, hml, ho, -⟩ := S
  obtain ⟨-, ⟨cellB, hcB, hoB, hclB⟩, hPc⟩ := hp
  intro T hT X
  rcases vx_callV X hx (C := C) (bytes := bytes) (maxL := maxL) (ret := ret) ho hl hin hse hcode hy hK (by rw [hT]; exact hcB) hoB hclB hg (hsize.trans hml.symm) (argsL := As) (rest := rest) (fun sig h => hn.trans (hlen sig h)) hstack hW (by rw [hb]; exact hdg)
    (fun vm₁ hW₁ => ⟨hf.1, hf.2, hPc (T.setVm vm₁) hT hW₁⟩) with ⟨v, vm₁, ⟨U', l2, c2, s2⟩, hW₁, X', ⟨g', mk, t, L, e1, e2, hq, h1, hL, h2, h3⟩, st⟩ | ⟨q, vm₁, ⟨U', l2, c2, s2⟩, hW₁, X', ⟨g', mk, t, L, E, ce, e1, e2, hq, hce, hcv, hcl, h1, hL, h2, h3⟩, st⟩
  · dsimp only [Pt.U, Pt.locs, Pt.cells, Pt.slots] at X' e1 e2 h1 h2 h3 st
    subst h1; subst h2; subst h3
    exact Or.inl ⟨v, (T.setVm vm₁).calling g' mk (Value.ref b :: As).toArray, t, U', L, hT, X', hL, e1, e2, hq, st⟩
  · dsimp only [Pt.U, Pt.locs, Pt.cells, Pt.slots] at X' e1 e2 h1 h2 h3 st hcl
    subst h1; subst h2; subst h3
    exact Or.inr ⟨q, (T.setVm vm₁).calling g' mk (Value.ref b :: As).toArray, t, U', L, E, ce, hT, X', hL, e1, e2, hq, hce, hcv, vx_cls hW₁ hcl, st⟩
theorem vx_runS (S : CallFix p m c cc nL s args Ts own) (hM : vx_Met l y ws rm Pc Qc XC mc ms free) (cw : CallB R s args own index y bytes maxL ret ws rm mc ms n ∧ (Cond.static y).before args s = true) (hp : PreS s H Pc As)
    (hg : g.method = m) (hn : As.length = n) (hsize : g.locals.size = nL) (hstack : g.stack = As.reverse ++ rest) (hW : 2 * g.monitorRoom + (rest.map fun v => v.category).sum ≤ 8) (hdg : decode cc g.pc = .ok (.invokestatic index, 3)) (hf : cells + mc ≤ R.cells ∧ slots + ms ≤ R.slots) :
    vx_Run p l e R s m args below meth c H locs cells slots mc ms g rest (Qc As.toArray) XC free := by
  have hK : vx_Back l R p e below s args y 3 8 (PreOf R mc ms Pc) (PostOf Qc mc ms free) (vx_Post XC mc ms free) := vx_callBack cw.1 hM hp.1
  obtain ⟨⟨-, -, -, -, -, -, hcode, hini, hy, hlen, hl⟩, hstt⟩ := cw
  obtain ⟨hx, hb, hml, ho, -⟩ := S
  intro T hT X
  rcases vx_callS X hx (bytes := bytes) (maxL := maxL) (ret := ret) ho hl hstt hini hcode hy hK hg (hsize.trans hml.symm) (argsL := As) (rest := rest) (fun sig h => hn.trans (hlen sig h)) hstack hW (by rw [hb]; exact hdg)
    (fun vm₁ hW₁ => ⟨hf.1, hf.2, hp.2 (T.setVm vm₁) hT hW₁⟩) with ⟨v, vm₁, ⟨U', l2, c2, s2⟩, hW₁, X', ⟨g', mk, t, L, e1, e2, hq, h1, hL, h2, h3⟩, st⟩ | ⟨q, vm₁, ⟨U', l2, c2, s2⟩, hW₁, X', ⟨g', mk, t, L, E, ce, e1, e2, hq, hce, hcv, hcl, h1, hL, h2, h3⟩, st⟩
  · dsimp only [Pt.U, Pt.locs, Pt.cells, Pt.slots] at X' e1 e2 h1 h2 h3 st
    subst h1; subst h2; subst h3
    exact Or.inl ⟨v, (T.setVm vm₁).calling g' mk As.toArray, t, U', L, hT, X', hL, e1, e2, hq, st⟩
  · dsimp only [Pt.U, Pt.locs, Pt.cells, Pt.slots] at X' e1 e2 h1 h2 h3 st hcl
    subst h1; subst h2; subst h3
    exact Or.inr ⟨q, (T.setVm vm₁).calling g' mk As.toArray, t, U', L, E, ce, hT, X', hL, e1, e2, hq, hce, hcv, vx_cls hW₁ hcl, st⟩
end Runs
section Rows
variable {p : Program} {l : Launch} {e : Env} {R : Room} {s : State} {m : MethodId} {args : Array Value} {below : List Frame} {meth : Method} {c : Code} {H : Heap} {locs : List Loc} {cells slots : Nat} {Q : State → Prop}
variable {mc ms : Nat} {free : Addr → Prop} {A0 A1 : Nat → Prop} {H0 : Heap} {a : Array Value} {pc : Nat} {ls : Array Slot} {st0 rest : List Value}
theorem vx_keep {st₀ t T' : State} {L : List Loc} (h0 : st₀.heap = H) (e1 : T'.heap = t.heap) (hS : va_S A0 H0 H locs) (hA : ∀ q, q < H.size → A1 q → A0 q) (hf : ∀ q, free q → A0 q) (hL : ∀ q ∈ L, free q.base) (hF : va_F A1 st₀ t) :
    H.size ≤ T'.heap.size ∧ (∀ q : Nat, q < H.size → ¬ A1 q → T'.heap[q]? = H[q]?) ∧ va_S A0 H0 T'.heap (locs ++ L) := by
  obtain ⟨hz, hk⟩ := hF
  rw [h0] at hz hk
  exact ⟨by rw [e1]; exact hz, fun q h1 h2 => by rw [e1]; exact hk q h1 h2,
    ⟨Nat.le_trans hS.1 (by rw [e1]; exact hz), fun q h1 h2 => by rw [e1, hk q (Nat.lt_of_lt_of_le h1 hS.1) (fun z => h2 (hA q (Nat.lt_of_lt_of_le h1 hS.1) z))]; exact hS.2.1 q h1 h2, fun q hq => by
      rcases List.mem_append.mp hq with h | h
      · exact hS.2.2 q h
      · exact hf _ (hL q h)⟩⟩
theorem vx_calli {S SX : Type} {post : Int32 → S → Prop} {px : SX → Prop} {B : S → State → Prop} {BX : String → SX → State → Prop} {AX : Nat → Prop} (hr : vx_Run p l e R s m args below meth c H locs cells slots mc ms (F0 m pc ls st0) rest (va_Qi post B A1 a) (vx_X px BX AX) free) (hS : va_S A0 H0 H locs) (hA : ∀ q, q < H.size → A1 q → A0 q) (hf : ∀ q, free q → A0 q) (hAX : ∀ q, q < H.size → AX q → A0 q)
    (kx : ∀ (E : String) (ce : Cell) (q9 : Addr) (u : SX) (t : State) (H1 : Heap) (locs1 : List Loc), t.heap = H1 → s.vm.Alike t.vm → px u → BX E u t → H.size ≤ H1.size → (∀ q : Nat, q < H.size → ¬ AX q → H1[q]? = H[q]?) → va_S A0 H0 H1 locs1 → H1[q9]? = some ce → ce.vm = .none → s.vm.findClass E = some ce.cls → vx_W p l e R s m args below meth c H1 locs1 (cells + mc) (slots + ms) Q (F0 m pc ls rest) q9)
    (kk : ∀ (r : Int32) (u : S) (t : State) (H1 : Heap) (locs1 : List Loc), t.heap = H1 → s.vm.Alike t.vm → post r u → B u t → H.size ≤ H1.size → (∀ q : Nat, q < H.size → ¬ A1 q → H1[q]? = H[q]?) → va_S A0 H0 H1 locs1 → W p l e R s m args below meth c H1 locs1 (cells + mc) (slots + ms) Q (F0 m (pc + 3) ls (.int r :: rest))) : W p l e R s m args below meth c H locs cells slots Q (F0 m pc ls st0) := by
  intro T hT X
  rcases hr T hT X with ⟨v, st₀, t, T', L, h0, X', hL, e1, e2, ⟨⟨r, u, hv, hp, hb⟩, hF⟩, st⟩ | ⟨q, st₀, t, T', L, E, ce, h0, X', hL, e1, e2, ⟨u, hp, hb, hF⟩, hce, hcv, hcl, st⟩
  · cases hv
    obtain ⟨k1, k2, k3⟩ := vx_keep h0 e1 hS hA hf hL hF
    obtain ⟨t2, a1, b1⟩ := kk r u t T'.heap (locs ++ L) e1.symm (by rw [← e2]; exact X'.warmed.alike) hp hb k1 k2 k3 T' rfl X'
    exact ⟨t2, st t2 a1, b1⟩
  · obtain ⟨k1, k2, k3⟩ := vx_keep h0 e1 hS hAX hf hL hF
    obtain ⟨t2, a1, b1⟩ := kx E ce q u t T'.heap (locs ++ L) e1.symm (by rw [← e2]; exact X'.warmed.alike) hp hb k1 k2 k3 (by rw [e1]; exact hce) hcv hcl T' rfl X'
    exact ⟨t2, st.trans a1, b1⟩
theorem vx_calll {S SX : Type} {post : Int64 → S → Prop} {px : SX → Prop} {B : S → State → Prop} {BX : String → SX → State → Prop} {AX : Nat → Prop} (hr : vx_Run p l e R s m args below meth c H locs cells slots mc ms (F0 m pc ls st0) rest (va_Ql post B A1 a) (vx_X px BX AX) free) (hS : va_S A0 H0 H locs) (hA : ∀ q, q < H.size → A1 q → A0 q) (hf : ∀ q, free q → A0 q) (hAX : ∀ q, q < H.size → AX q → A0 q)
    (kx : ∀ (E : String) (ce : Cell) (q9 : Addr) (u : SX) (t : State) (H1 : Heap) (locs1 : List Loc), t.heap = H1 → s.vm.Alike t.vm → px u → BX E u t → H.size ≤ H1.size → (∀ q : Nat, q < H.size → ¬ AX q → H1[q]? = H[q]?) → va_S A0 H0 H1 locs1 → H1[q9]? = some ce → ce.vm = .none → s.vm.findClass E = some ce.cls → vx_W p l e R s m args below meth c H1 locs1 (cells + mc) (slots + ms) Q (F0 m pc ls rest) q9)
    (kk : ∀ (r : Int64) (u : S) (t : State) (H1 : Heap) (locs1 : List Loc), t.heap = H1 → s.vm.Alike t.vm → post r u → B u t → H.size ≤ H1.size → (∀ q : Nat, q < H.size → ¬ A1 q → H1[q]? = H[q]?) → va_S A0 H0 H1 locs1 → W p l e R s m args below meth c H1 locs1 (cells + mc) (slots + ms) Q (F0 m (pc + 3) ls (.long r :: rest))) : W p l e R s m args below meth c H locs cells slots Q (F0 m pc ls st0) := by
  intro T hT X
  rcases hr T hT X with ⟨v, st₀, t, T', L, h0, X', hL, e1, e2, ⟨⟨r, u, hv, hp, hb⟩, hF⟩, st⟩ | ⟨q, st₀, t, T', L, E, ce, h0, X', hL, e1, e2, ⟨u, hp, hb, hF⟩, hce, hcv, hcl, st⟩
  · cases hv
    obtain ⟨k1, k2, k3⟩ := vx_keep h0 e1 hS hA hf hL hF
    obtain ⟨t2, a1, b1⟩ := kk r u t T'.heap (locs ++ L) e1.symm (by rw [← e2]; exact X'.warmed.alike) hp hb k1 k2 k3 T' rfl X'
    exact ⟨t2, st t2 a1, b1⟩
  · obtain ⟨k1, k2, k3⟩ := vx_keep h0 e1 hS hAX hf hL hF
    obtain ⟨t2, a1, b1⟩ := kx E ce q u t T'.heap (locs ++ L) e1.symm (by rw [← e2]; exact X'.warmed.alike) hp hb k1 k2 k3 (by rw [e1]; exact hce) hcv hcl T' rfl X'
    exact ⟨t2, st.trans a1, b1⟩
theorem vx_callf {S SX : Type} {post : UInt32 → S → Prop} {px : SX → Prop} {B : S → State → Prop} {BX : String → SX → State → Prop} {AX : Nat → Prop} (hr : vx_Run p l e R s m args below meth c H locs cells slots mc ms (F0 m pc ls st0) rest (va_Qf post B A1 a) (vx_X px BX AX) free) (hS : va_S A0 H0 H locs) (hA : ∀ q, q < H.size → A1 q → A0 q) (hf : ∀ q, free q → A0 q) (hAX : ∀ q, q < H.size → AX q → A0 q)
    (kx : ∀ (E : String) (ce : Cell) (q9 : Addr) (u : SX) (t : State) (H1 : Heap) (locs1 : List Loc), t.heap = H1 → s.vm.Alike t.vm → px u → BX E u t → H.size ≤ H1.size → (∀ q : Nat, q < H.size → ¬ AX q → H1[q]? = H[q]?) → va_S A0 H0 H1 locs1 → H1[q9]? = some ce → ce.vm = .none → s.vm.findClass E = some ce.cls → vx_W p l e R s m args below meth c H1 locs1 (cells + mc) (slots + ms) Q (F0 m pc ls rest) q9)
    (kk : ∀ (r : UInt32) (u : S) (t : State) (H1 : Heap) (locs1 : List Loc), t.heap = H1 → s.vm.Alike t.vm → post r u → B u t → H.size ≤ H1.size → (∀ q : Nat, q < H.size → ¬ A1 q → H1[q]? = H[q]?) → va_S A0 H0 H1 locs1 → W p l e R s m args below meth c H1 locs1 (cells + mc) (slots + ms) Q (F0 m (pc + 3) ls (.float r :: rest))) : W p l e R s m args below meth c H locs cells slots Q (F0 m pc ls st0) := by
  intro T hT X
  rcases hr T hT X with ⟨v, st₀, t, T', L, h0, X', hL, e1, e2, ⟨⟨r, u, hv, hp, hb⟩, hF⟩, st⟩ | ⟨q, st₀, t, T', L, E, ce, h0, X', hL, e1, e2, ⟨u, hp, hb, hF⟩, hce, hcv, hcl, st⟩
  · cases hv
    obtain ⟨k1, k2, k3⟩ := vx_keep h0 e1 hS hA hf hL hF
    obtain ⟨t2, a1, b1⟩ := kk r u t T'.heap (locs ++ L) e1.symm (by rw [← e2]; exact X'.warmed.alike) hp hb k1 k2 k3 T' rfl X'
    exact ⟨t2, st t2 a1, b1⟩
  · obtain ⟨k1, k2, k3⟩ := vx_keep h0 e1 hS hAX hf hL hF
    obtain ⟨t2, a1, b1⟩ := kx E ce q u t T'.heap (locs ++ L) e1.symm (by rw [← e2]; exact X'.warmed.alike) hp hb k1 k2 k3 (by rw [e1]; exact hce) hcv hcl T' rfl X'
    exact ⟨t2, st.trans a1, b1⟩
theorem vx_calld {S SX : Type} {post : UInt64 → S → Prop} {px : SX → Prop} {B : S → State → Prop} {BX : String → SX → State → Prop} {AX : Nat → Prop} (hr : vx_Run p l e R s m args below meth c H locs cells slots mc ms (F0 m pc ls st0) rest (va_Qd post B A1 a) (vx_X px BX AX) free) (hS : va_S A0 H0 H locs) (hA : ∀ q, q < H.size → A1 q → A0 q) (hf : ∀ q, free q → A0 q) (hAX : ∀ q, q < H.size → AX q → A0 q)
    (kx : ∀ (E : String) (ce : Cell) (q9 : Addr) (u : SX) (t : State) (H1 : Heap) (locs1 : List Loc), t.heap = H1 → s.vm.Alike t.vm → px u → BX E u t → H.size ≤ H1.size → (∀ q : Nat, q < H.size → ¬ AX q → H1[q]? = H[q]?) → va_S A0 H0 H1 locs1 → H1[q9]? = some ce → ce.vm = .none → s.vm.findClass E = some ce.cls → vx_W p l e R s m args below meth c H1 locs1 (cells + mc) (slots + ms) Q (F0 m pc ls rest) q9)
    (kk : ∀ (r : UInt64) (u : S) (t : State) (H1 : Heap) (locs1 : List Loc), t.heap = H1 → s.vm.Alike t.vm → post r u → B u t → H.size ≤ H1.size → (∀ q : Nat, q < H.size → ¬ A1 q → H1[q]? = H[q]?) → va_S A0 H0 H1 locs1 → W p l e R s m args below meth c H1 locs1 (cells + mc) (slots + ms) Q (F0 m (pc + 3) ls (.double r :: rest))) : W p l e R s m args below meth c H locs cells slots Q (F0 m pc ls st0) := by
  intro T hT X
  rcases hr T hT X with ⟨v, st₀, t, T', L, h0, X', hL, e1, e2, ⟨⟨r, u, hv, hp, hb⟩, hF⟩, st⟩ | ⟨q, st₀, t, T', L, E, ce, h0, X', hL, e1, e2, ⟨u, hp, hb, hF⟩, hce, hcv, hcl, st⟩
  · cases hv
    obtain ⟨k1, k2, k3⟩ := vx_keep h0 e1 hS hA hf hL hF
    obtain ⟨t2, a1, b1⟩ := kk r u t T'.heap (locs ++ L) e1.symm (by rw [← e2]; exact X'.warmed.alike) hp hb k1 k2 k3 T' rfl X'
    exact ⟨t2, st t2 a1, b1⟩
  · obtain ⟨k1, k2, k3⟩ := vx_keep h0 e1 hS hAX hf hL hF
    obtain ⟨t2, a1, b1⟩ := kx E ce q u t T'.heap (locs ++ L) e1.symm (by rw [← e2]; exact X'.warmed.alike) hp hb k1 k2 k3 (by rw [e1]; exact hce) hcv hcl T' rfl X'
    exact ⟨t2, st.trans a1, b1⟩
theorem vx_callv {S SX : Type} {post : S → Prop} {px : SX → Prop} {B : S → State → Prop} {BX : String → SX → State → Prop} {AX : Nat → Prop} (hr : vx_Run p l e R s m args below meth c H locs cells slots mc ms (F0 m pc ls st0) rest (va_Qv post B A1 a) (vx_X px BX AX) free) (hS : va_S A0 H0 H locs) (hA : ∀ q, q < H.size → A1 q → A0 q) (hf : ∀ q, free q → A0 q) (hAX : ∀ q, q < H.size → AX q → A0 q)
    (kx : ∀ (E : String) (ce : Cell) (q9 : Addr) (u : SX) (t : State) (H1 : Heap) (locs1 : List Loc), t.heap = H1 → s.vm.Alike t.vm → px u → BX E u t → H.size ≤ H1.size → (∀ q : Nat, q < H.size → ¬ AX q → H1[q]? = H[q]?) → va_S A0 H0 H1 locs1 → H1[q9]? = some ce → ce.vm = .none → s.vm.findClass E = some ce.cls → vx_W p l e R s m args below meth c H1 locs1 (cells + mc) (slots + ms) Q (F0 m pc ls rest) q9)
    (kk : ∀ (u : S) (t : State) (H1 : Heap) (locs1 : List Loc), t.heap = H1 → s.vm.Alike t.vm → post u → B u t → H.size ≤ H1.size → (∀ q : Nat, q < H.size → ¬ A1 q → H1[q]? = H[q]?) → va_S A0 H0 H1 locs1 → W p l e R s m args below meth c H1 locs1 (cells + mc) (slots + ms) Q (F0 m (pc + 3) ls (rest))) : W p l e R s m args below meth c H locs cells slots Q (F0 m pc ls st0) := by
  intro T hT X
  rcases hr T hT X with ⟨v, st₀, t, T', L, h0, X', hL, e1, e2, ⟨⟨u, hv, hp, hb⟩, hF⟩, st⟩ | ⟨q, st₀, t, T', L, E, ce, h0, X', hL, e1, e2, ⟨u, hp, hb, hF⟩, hce, hcv, hcl, st⟩
  · cases hv
    obtain ⟨k1, k2, k3⟩ := vx_keep h0 e1 hS hA hf hL hF
    obtain ⟨t2, a1, b1⟩ := kk u t T'.heap (locs ++ L) e1.symm (by rw [← e2]; exact X'.warmed.alike) hp hb k1 k2 k3 T' rfl X'
    exact ⟨t2, st t2 a1, b1⟩
  · obtain ⟨k1, k2, k3⟩ := vx_keep h0 e1 hS hAX hf hL hF
    obtain ⟨t2, a1, b1⟩ := kx E ce q u t T'.heap (locs ++ L) e1.symm (by rw [← e2]; exact X'.warmed.alike) hp hb k1 k2 k3 (by rw [e1]; exact hce) hcv hcl T' rfl X'
    exact ⟨t2, st.trans a1, b1⟩
/-- caught by the row x of this method's table; the rows ahead don't take it -/
theorem vx_catch {own name : String} {E : String} {ce : Cell} {q : Addr} (hown : s.vm.findClass own = some m.cls) (pre : List ExceptionTableEntry) (x : ExceptionTableEntry) (suf : List ExceptionTableEntry) (hsplit : c.exceptionTable.toList = pre ++ x :: suf)
    (hpass : ∀ z ∈ pre, covers z pc = false ∨ (z.catchType ≠ 0 ∧ ∃ nm : String, (Cond.classLink own z.catchType nm).before args s = true ∧ va_Nc E nm s)) (hx : covers x pc = true) (h0 : x.catchType ≠ 0)
    (hlink : (Cond.classLink own x.catchType name).before args s = true) (hcast : (Cond.castable E name).before args s = true) (hcell : H[q]? = some ce) (hv : ce.vm = .none) (hcl : s.vm.findClass E = some ce.cls)
    (kk : W p l e R s m args below meth c H locs cells slots Q (F0 m x.handlerPc ls [.ref q])) : vx_W p l e R s m args below meth c H locs cells slots Q (F0 m pc ls rest) q := by
  intro T hT X
  have hpl : e.platform.magicAccessors = ({} : Platform).magicAccessors := by rw [X.admits.platform]
  obtain ⟨c3, c4, hc3, hc4, hasg⟩ := Cond.castable_spec hcast
  cases Option.some.inj (hc3.symm.trans hcl)
  obtain ⟨c5, hc5, hcl5⟩ := Cond.classLink_spec hown hlink e.platform hpl
  cases Option.some.inj (hc4.symm.trans hc5)
  obtain ⟨vm', X', st⟩ := X.thenCaughtThrough q (g := F0 m pc ls rest) rfl (Steps.refl _) (by rw [hT]; exact hcell) (by rw [hv]; rfl) (by obtain ⟨k9, h9, -⟩ := Vm.findClass_spec hcl; exact ⟨k9, h9⟩) pre x suf hsplit
    (fun z hz => by
      rcases hpass z hz with h | ⟨hz0, nm, hl1, hn1⟩
      · exact Or.inl h
      · obtain ⟨c6, hc6, hcl6⟩ := Cond.classLink_spec hown hl1 e.platform hpl
        obtain ⟨a8, b8, h1, h2, h3⟩ := hn1
        cases Option.some.inj (h1.symm.trans hcl)
        cases Option.some.inj (h2.symm.trans hc6)
        exact Or.inr ⟨hz0, _, hcl6, h3⟩) hx (Or.inr ⟨h0, c4, hcl5, hasg⟩)
  obtain ⟨t, a1, b1⟩ := kk (T.setVm vm') hT X'
  exact ⟨t, st.trans a1, b1⟩
end Rows
section Ends
variable {p : Program} {l : Launch} {e : Env} {R : Room} {s : State} {m : MethodId} {args : Array Value} {below : List Frame} {meth : Method} {c : Code} {H : Heap} {locs : List Loc} {cells slots : Nat} {Q : State → Prop}
variable {mc ms : Nat} {free : Addr → Prop} {A0 A1 : Nat → Prop} {H0 : Heap} {a : Array Value} {ls : Array Slot} {st0 rest : List Value}
variable {Qc : Array Value → State → Outcome → State → Prop} {XC : String → State → State → Prop}
/-- what a body that may throw owes at its end -/
def vx_MQ (below : List Frame) (Qc : Array Value → State → Outcome → State → Prop) (XC : String → State → State → Prop) (a : Array Value) (s : State) (mc ms : Nat) (free : Addr → Prop) : State → Prop := fun t =>
  ∃ o, t.status = .running ∧ Ended t below o ∧ vx_Q Qc XC mc ms free a s o t
theorem vx_ret {g : JFrame} {mc ms : Nat} (k : W p l e R s m args below meth c H locs cells slots (MQ below Qc args s mc ms free) g) : W p l e R s m args below meth c H locs cells slots (vx_MQ below Qc XC args s mc ms free) g := by
  intro T hT X
  obtain ⟨t, a1, o, b1, b2, b3, b4⟩ := k T hT X
  exact ⟨t, a1, o, b1, b2, Or.inl ⟨b3, b4⟩⟩
/-- not caught here: it goes on to the caller -/
theorem vx_widen {g : JFrame} {q : Addr} {k n : Nat} (h1 : cells ≤ k) (h2 : slots ≤ n) (kk : vx_W p l e R s m args below meth c H locs k n Q g q) : vx_W p l e R s m args below meth c H locs cells slots Q g q := fun T hT X => kk T hT (stand_widen X h1 h2)
theorem vx_out {pc : Nat} {E : String} {ce : Cell} {q : Addr} {mc ms : Nat} (hout : ∀ x ∈ c.exceptionTable.toList, covers x pc = false) (hlocks : meth.locks = false) (hcell : H[q]? = some ce) (hv : ce.vm = .none) (hcl : s.vm.findClass E = some ce.cls)
    (hx : ∀ t : State, t.heap = H → s.vm.Alike t.vm → XC E s t) (hf : ∀ z ∈ locs, free z.base) (hc : cells ≤ mc) (hs : slots ≤ ms) :
    vx_W p l e R s m args below meth c H locs cells slots (vx_MQ below Qc XC args s mc ms free) (F0 m pc ls rest) q := by
  intro T hT X
  obtain ⟨st1, hrun, hend, hW, hsm⟩ := X.leaveThrown q (g := F0 m pc ls rest) rfl rfl rfl hout hlocks
  have hcell9 : (T.setFrames (.throwing q :: below)).heap[q]? = some ce := by
    show T.heap[q]? = some ce
    rw [hT]; exact hcell
  exact ⟨_, st1, .threw q, hrun, hend, Or.inr ⟨q, rfl, E, ce, locs, hx _ hT hW.alike, hcell9, hv, hcl, hW, hsm.mono hc hs, hf⟩⟩
theorem vx_frame {U : State} {k n : Nat} (h : s.sameButNew ({ U with vm := s.vm } : State) locs k n) : s.heap.size ≤ U.heap.size ∧ ∀ q : Nat, q < s.heap.size → (∀ z ∈ locs, z.base ≠ q) → U.heap[q]? = s.heap[q]? := by
  obtain ⟨-, h2, -, -, -, h6⟩ := h
  refine ⟨h2, fun q hq hz => ?_⟩
  obtain ⟨c9, e1, e2, e3, e4⟩ := h6 q _ (Array.getElem?_eq_getElem hq)
  have hs : c9.slots = (s.heap[q]).slots := Array.ext_getElem? fun i => e4 i fun hm => hz _ hm rfl
  have h9 : c9 = s.heap[q] := by
    rw [hs] at e2
    exact e2
  have e5 : U.heap[q]? = some c9 := e1
  rw [e5, h9, Array.getElem?_eq_getElem hq]
/-- the words of a throw but the four that speak of the heap -/
def vx_no (w : Cond) : Bool := decide (w ≠ .isRef (.static Bundle.tN "UNASSIGNED_STACK" Bundle.steD)) && decide (w ≠ .isRef (.static Bundle.tN "SUPPRESSED_SENTINEL" Bundle.listD)) && decide (w ≠ .laysStatic Bundle.tN "UNASSIGNED_STACK" Bundle.steD) && decide (w ≠ .laysStatic Bundle.tN "SUPPRESSED_SENTINEL" Bundle.listD)
def vx_at0 (own : String) (ic : Nat) (X : String) (names : List String) : List Cond := (Bundle.ownAtoms0 own ic X names).filter vx_no
def vx_atS (own : String) (ic : Nat) (X : String) (names : List String) : List Cond := (Bundle.ownAtoms own ic X names).filter vx_no
/-- a word that the tables alone decide, or a good one -/
def vx_ot (w : Cond) : Bool := w.onTables || goodWord w
theorem vx_ot_at {args a' : Array Value} {s U : State} {w : Cond} (hW : s.WarmedH U.vm) (hvm : s.vm = U.vm) (hg : vx_ot w = true) (h : w.before args s = true) : w.before a' U = true := by
  simp only [vx_ot, Bool.or_eq_true] at hg
  rcases hg with hg | hg
  · exact va_tabs hg hvm h
  · exact word_at hW (good_of_word hg) h
/-- a list's words: the good ones out of the method's own list, the others by premises of their own -/
theorem vx_hat {args : Array Value} {s : State} {L B : List Cond} (h1 : ∀ w ∈ L.filter goodWord, w.before args s = true) (h2 : ∀ w ∈ L.filter (fun w => !goodWord w), w ∈ B) (h3 : ∀ w ∈ B, w.before args s = true) : ∀ w ∈ L, w.before args s = true := by
  intro w hw
  by_cases g : goodWord w = true
  · exact h1 w (List.mem_filter.mpr ⟨hw, g⟩)
  · refine h3 w (h2 w (List.mem_filter.mpr ⟨hw, ?_⟩))
    show (!goodWord w) = true
    cases hgw : goodWord w
    · rfl
    · exact absurd hgw g
theorem vx_c {args : Array Value} {s : State} {w : Cond} {B : List Cond} (h : w.before args s = true) (t : ∀ w ∈ B, w.before args s = true) : ∀ w' ∈ w :: B, w'.before args s = true := fun w' h' => (List.mem_cons.mp h').elim (fun e => by rw [e]; exact h) (t w')
theorem vx_n {args : Array Value} {s : State} : ∀ w ∈ ([] : List Cond), w.before args s = true := fun _ h => nomatch h
theorem vx_own {args : Array Value} {s : State} {L : List Cond} (h1 : ∀ w ∈ L.filter vx_no, w.before args s = true)
    (hU : (Cond.isRef (.static Bundle.tN "UNASSIGNED_STACK" Bundle.steD)).before args s = true) (hN : (Cond.isRef (.static Bundle.tN "SUPPRESSED_SENTINEL" Bundle.listD)).before args s = true)
    (lU : (Cond.laysStatic Bundle.tN "UNASSIGNED_STACK" Bundle.steD).before args s = true) (lN : (Cond.laysStatic Bundle.tN "SUPPRESSED_SENTINEL" Bundle.listD).before args s = true) : ∀ w ∈ L, w.before args s = true := by
  intro w hw
  by_cases e1 : w = .isRef (.static Bundle.tN "UNASSIGNED_STACK" Bundle.steD)
  · rw [e1]; exact hU
  · by_cases e2 : w = .isRef (.static Bundle.tN "SUPPRESSED_SENTINEL" Bundle.listD)
    · rw [e2]; exact hN
    · by_cases e3 : w = .laysStatic Bundle.tN "UNASSIGNED_STACK" Bundle.steD
      · rw [e3]; exact lU
      · by_cases e4 : w = .laysStatic Bundle.tN "SUPPRESSED_SENTINEL" Bundle.listD
        · rw [e4]; exact lN
        · exact h1 w (List.mem_filter.mpr ⟨hw, by unfold vx_no; rw [decide_eq_true e1, decide_eq_true e2, decide_eq_true e3, decide_eq_true e4]; rfl⟩)
/-- where a static field lies, its class's statics cell in H -/
def vx_L (C n d : String) (A : Nat → Prop) (U : State) (H : Heap) : Prop := ∃ (c : ClassId) (k : Class) (i : Nat) (f : Field) (a : Nat) (cell : Cell), U.vm.findClass C = some c ∧ U.fieldFound? C n d = some (c, k, i, f) ∧ f.isStatic = true ∧ k.statics = some a ∧ H[a]? = some cell ∧ cell.vm.isStatics = true ∧ cell.cls = c ∧ f.slot < cell.slots.size ∧ k.staticTypes[f.slot]? = some f.type ∧ ¬ A a
theorem vx_L.moved {C n d : String} {A : Nat → Prop} {u U : State} {H : Heap} (hvm : u.vm.Alike U.vm) (h : vx_L C n d A u H) : vx_L C n d A U H := by
  obtain ⟨c, k, i, f, a, cell, h1, h2, h3, h4, h5, h6, h7, h8, h9, h10⟩ := h
  obtain ⟨k', hi', he⟩ := State.fieldFound?_setVm hvm h2
  exact ⟨c, k', i, f, a, cell, by rw [hvm.findClass]; exact h1, hi', h3, by rw [he]; exact h4, h5, h6, h7, h8, by rw [he]; exact h9, h10⟩
theorem vx_L.kept {C n d : String} {A : Nat → Prop} {U : State} {H H1 : Heap} (h : vx_L C n d A U H) (hq : ∀ a : Nat, a < H.size → ¬ A a → H1[a]? = H[a]?) : vx_L C n d A U H1 := by
  obtain ⟨c, k, i, f, a, cell, h1, h2, h3, h4, h5, h6, h7, h8, h9, h10⟩ := h
  exact ⟨c, k, i, f, a, cell, h1, h2, h3, h4, by rw [hq a (Array.getElem?_eq_some_iff.mp h5).1 h10]; exact h5, h6, h7, h8, h9, h10⟩
theorem vx_L.narrow {C n d : String} {A B : Nat → Prop} {U : State} {H : Heap} (h : vx_L C n d A U H) (hAB : ∀ q, B q → A q) : vx_L C n d B U H := by
  obtain ⟨c, k, i, f, a, cell, h1, h2, h3, h4, h5, h6, h7, h8, h9, h10⟩ := h
  exact ⟨c, k, i, f, a, cell, h1, h2, h3, h4, h5, h6, h7, h8, h9, fun z => h10 (hAB _ z)⟩
theorem vx_L.word {C n d : String} {A : Nat → Prop} {s : State} {args : Array Value} (h : vx_L C n d A s s.heap) : (Cond.laysStatic C n d).before args s = true := by
  obtain ⟨c, k, i, f, a, cell, h1, h2, h3, h4, h5, h6, h7, h8, h9, -⟩ := h
  show (Cond.laysStatic C n d).holds args s none s [] = true
  exact Cond.laysStatic_of h1 h2 h3 h4 h5 h6 h7 h8 h9
/-- .. and what it holds: null or some reference -/
def vx_Zq (C n d : String) (A : Nat → Prop) (U : State) (H : Heap) : Prop := va_Zq C n d A U H ∧ vx_L C n d A U H
theorem vx_Zq.moved {C n d : String} {A : Nat → Prop} {u U : State} {H : Heap} (hvm : u.vm.Alike U.vm) (h : vx_Zq C n d A u H) : vx_Zq C n d A U H := ⟨va_Zq.moved hvm h.1, vx_L.moved hvm h.2⟩
theorem vx_Zq.kept {C n d : String} {A : Nat → Prop} {U : State} {H H1 : Heap} (h : vx_Zq C n d A U H) (hq : ∀ a : Nat, a < H.size → ¬ A a → H1[a]? = H[a]?) : vx_Zq C n d A U H1 := ⟨va_Zq.kept h.1 hq, vx_L.kept h.2 hq⟩
theorem vx_Zq.narrow {C n d : String} {A B : Nat → Prop} {U : State} {H : Heap} (h : vx_Zq C n d A U H) (hAB : ∀ q, B q → A q) : vx_Zq C n d B U H := ⟨va_Zq.narrow h.1 hAB, vx_L.narrow h.2 hAB⟩
theorem vx_Zqof {args : Array Value} {s : State} {C n d : String} {A : Nat → Prop} (hl : (Cond.laysStatic C n d).before args s = true) (hini : (Cond.initialized C).before args s = true) (h : (Cond.isRef (.static C n d)).before args s = true) (hA : ∀ a : Nat, a < s.heap.size → ¬ A a) : vx_Zq C n d A s s.heap := by
  refine ⟨va_Zqof hl hini h hA, ?_⟩
  obtain ⟨c, k, i, f, a, cell, h1, h2, h3, h4, h5, h6, h7, h8, h9⟩ := Cond.laysStatic_spec hl
  exact ⟨c, k, i, f, a, cell, h1, h2, h3, h4, h5, h6, h7, h8, h9, hA a (Array.getElem?_eq_some_iff.mp h5).1⟩
theorem vx_isRef {C n d : String} {v : Value} {A : Nat → Prop} {s : State} {args : Array Value} (h : va_Z C n d v A s s.heap) (hv : v.isRef = true) : (Cond.isRef (.static C n d)).before args s = true := by
  obtain ⟨cf, kf, fi, f, a, cell, h1, h2, h3, h4, h5, h6, h7, -⟩ := h
  have he : (Term.static C n d).eval args s none [] s = some v := by
    simp [Term.eval, State.fieldNamed?, h1, h2, h4, h5, h6, h7]
  simp only [Cond.before, Cond.holds, Cond.value, he]
  cases v <;> simp_all [Value.isRef]
theorem vx_isRefq {C n d : String} {A : Nat → Prop} {s : State} {args : Array Value} (h : va_Zq C n d A s s.heap) : (Cond.isRef (.static C n d)).before args s = true := by
  rcases h with h | ⟨t, h⟩
  · exact vx_isRef h rfl
  · exact vx_isRef h rfl
/-- the same frame, seen from here: as if the method were called anew in this heap -/
theorem vx_rebase {T : State} (X : Stand p l e R s m args below meth c T locs cells slots) {R' : Room} (hf : R'.frames ≤ R.frames) (hl : R'.locals ≤ R.locals) (hc : cells + R'.cells ≤ R.cells) (hs : slots + R'.slots ≤ R.slots) :
    Stand p l e R' ((T.setVm s.vm).setFrames (.invoking m args :: below)) m args below meth c T [] 0 0 := by
  have htop : (T.setVm s.vm).topJava?.isSome := X.here.top
  have hF : ((T.setVm s.vm).setFrames (.invoking m args :: below)).frames = .invoking m args :: below := State.frames_setFrames _ (State.cur_lt_of_top htop)
  obtain ⟨g₀, hg0⟩ := Option.isSome_iff_exists.mp htop
  obtain ⟨r, hr⟩ := State.topJava?_eq_some.mp hg0
  have hl9 : e.platform.stackLimits (T.setVm s.vm).me = e.platform.stackLimits s.me := X.limits
  have hb9 : (T.setVm s.vm).me.stackBytes = s.me.stackBytes := X.bytes
  refine ⟨X.admits, X.cas, X.clock, hF, ?_, X.hears, X.method, X.code, X.here, X.tail, X.warmed, ?_, ?_, ?_⟩
  · have h := X.room
    have hU : ((T.setVm s.vm).setFrames (.invoking m args :: below)).localsInUse = s.localsInUse := by
      rw [State.localsInUse_invoking hF (meth := meth) (c := c) X.method X.code, State.localsInUse_invoking X.frames X.method X.code]
    simp only [State.hasRoom, Bool.and_eq_true, decide_eq_true_eq] at h ⊢
    obtain ⟨⟨⟨⟨h1, h2, h3, h4, h5, h6⟩, h7⟩, h8⟩, h9⟩ := h
    rw [X.frames, List.length_cons] at h2 h3
    have q1 := X.heapSize
    have q2 := X.used
    simp only [hF, hU, List.length_cons, State.stackLimits_setFrames, State.stackBytes_setFrames, hl9, hb9]
    refine ⟨⟨⟨⟨by omega, by omega, by omega, by omega, by omega, h6⟩, ?_⟩, ?_⟩, X.book⟩
    · show T.heap.size + R'.cells ≤ e.platform.maxCells
      omega
    · show T.slotsUsed + R'.slots ≤ e.platform.maxSlots
      omega
  · rw [State.stackLimits_setFrames]; rfl
  · rw [State.stackBytes_setFrames]; rfl
  · refine ⟨?_, Nat.le_refl _, Nat.le_refl _, ?_, ?_, fun a c9 h9 => ⟨c9, h9, rfl, rfl, fun _ _ => rfl⟩⟩
    · obtain ⟨t, ht, -⟩ := State.frames_cons hr
      show T.setVm s.vm = { ((T.setVm s.vm).setFrames (.invoking m args :: below)).setFrames (T.setVm s.vm).frames with heap := T.heap, slotsUsed := T.slotsUsed }
      rw [State.setFrames_setFrames, State.setFrames_self ht]
      rfl
    · show T.slotsUsed = T.slotsUsed + ((T.heap.toList.drop T.heap.size).map (·.slots.size)).sum
      rw [List.drop_eq_nil_of_le (Nat.le_of_eq Array.length_toList)]
      rfl
    · show ((T.heap.toList.drop T.heap.size).map (·.slots.size)).sum ≤ 0
      rw [List.drop_eq_nil_of_le (Nat.le_of_eq Array.length_toList)]
      exact Nat.le_refl _
/-- 'throw new E()': new; dup; invokespecial; athrow -/
theorem vx_throw0 {cc : ByteArray} {pc : Nat} (hexec : p.tables.exec = Jvm.exec) (hb : c.code = cc) (hl : l.stackTraces = false) {own cls : String} {names : List String} {ik ic mc ms : Nat} {A : Nat → Prop}
    (hown : s.vm.findClass own = some m.cls) (hcls : Bundle.fit cls = true) (hnames : ∀ n ∈ names, Bundle.fit n = true)
    (hk : (Cond.classLink own ik cls).before args s = true) (hini : (Cond.initialized cls).before args s = true) (hat : ∀ w ∈ vx_at0 own ic cls names, w.before args s = true)
    (hgood : ∀ w ∈ Cond.classLink own ik cls :: Cond.initialized cls :: vx_at0 own ic cls names, vx_ot w = true)
    (hU : vx_Zq Bundle.tN "UNASSIGNED_STACK" Bundle.steD A s s.heap) (hN : vx_Zq Bundle.tN "SUPPRESSED_SENTINEL" Bundle.listD A s s.heap) (hS : va_S A s.heap H locs) (hsize : ls.size = c.maxLocals)
    (d0 : decode cc pc = .ok (.new ik, 3)) (d3 : decode cc (pc + 3) = .ok (.dup, 1)) (d4 : decode cc (pc + 4) = .ok (.invokespecial ic, 3)) (d7 : decode cc (pc + 7) = .ok (.athrow, 1))
    (hout : ∀ x ∈ c.exceptionTable.toList, covers x (pc + 7) = false)
    (hRframes : names.length + 3 < R.frames) (hRlocals : (rest.map fun v => v.category).sum + (13 * (names.length + 1) + 42) ≤ R.locals) (hRcells : cells + 1 ≤ R.cells) (hRslots : slots + 6 ≤ R.slots) (hlocks : meth.locks = false)
    (hx : ∀ t : State, s.vm.Alike t.vm → H.size ≤ t.heap.size → (∀ q : Nat, q < H.size → t.heap[q]? = H[q]?) → XC cls s t)
    (hf : ∀ z ∈ locs, free z.base) (hc : cells + 1 ≤ mc) (hs : slots + 6 ≤ ms) :
    W p l e R s m args below meth c H locs cells slots (vx_MQ below Qc XC args s mc ms free) (F0 m pc ls rest) := by
  intro T hT X
  have htr : e.platform.stackTraces = false := (show e.platform.stackTraces = l.stackTraces by rw [X.admits.platform]).trans hl
  have Y := vx_rebase X (R' := { frames := R.frames, locals := R.locals, cells := 1, slots := 6 }) (Nat.le_refl _) (Nat.le_refl _) hRcells hRslots
  obtain ⟨s', hA⟩ : ∃ z, z = (T.setVm s.vm).setFrames (.invoking m args :: below) := ⟨_, rfl⟩
  rw [← hA] at Y
  have hvm : s'.vm = s.vm := by rw [hA]; rfl
  have hhp : s'.heap = H := by rw [hA]; exact hT
  have hW0 : s.WarmedH s'.vm := by rw [hvm]; exact State.WarmedH.refl s
  have hat' : ∀ w ∈ vx_at0 own ic cls names, w.before args s' = true := fun w hw => vx_ot_at hW0 hvm.symm (hgood w (List.mem_cons_of_mem _ (List.mem_cons_of_mem _ hw))) (hat w hw)
  have hk' : (Cond.classLink own ik cls).before args s' = true := vx_ot_at hW0 hvm.symm (hgood _ List.mem_cons_self) hk
  have hini' : (Cond.initialized cls).before args s' = true := vx_ot_at hW0 hvm.symm (hgood _ (List.mem_cons_of_mem _ List.mem_cons_self)) hini
  have hU' : vx_Zq Bundle.tN "UNASSIGNED_STACK" Bundle.steD A s' s'.heap := by rw [hhp]; exact vx_Zq.moved hW0.alike (hU.kept hS.2.1)
  have hN' : vx_Zq Bundle.tN "SUPPRESSED_SENTINEL" Bundle.listD A s' s'.heap := by rw [hhp]; exact vx_Zq.moved hW0.alike (hN.kept hS.2.1)
  have h : ∀ w ∈ Bundle.ownAtoms0 own ic cls names, w.before args s' = true := vx_own hat' (vx_isRefq hU'.1) (vx_isRefq hN'.1) hU'.2.word hN'.2.word
  have hown' : s'.vm.findClass own = some m.cls := by rw [hvm]; exact hown
  have hins : (Cond.instantiable cls 6).before args s' = true := h _ (by simp [Bundle.ownAtoms0])
  obtain ⟨vm₁, cX, kX, hfX, hkX, -, -, X₁, st1⟩ := Y.newCold hexec (own := own) (C := cls) (index := ik) (n := 6) hown' hk' hins hini'
    (g := F0 m pc ls rest) rfl (by rw [hb]; exact d0) (Nat.le_refl _) (Nat.le_refl _)
  generalize hT1 : (T.setVm vm₁).pushCell { cls := cX, slots := kX.instanceTypes.map defaultValue, vm := .none } = T1 at X₁ st1
  have hcat : (Value.ref T.heap.size).category = 1 := rfl
  have hcellA : T1.heap[T.heap.size]? = some (freshCell cX kX) := by rw [← hT1]; exact State.heap_pushCell_size _ _
  have d3' : decode c.code (pc + 3) = .ok (.dup, 1) := by rw [hb]; exact d3
  obtain ⟨U, hsteps, hrun, hend, hW, hsame, ce, hce, hO⟩ := X₁.ctorThrow0 hexec htr (own := own) (cls := cls) (names := names) (ic := ic) hown' hcls hnames h (fun x hx => nomatch hx) hfX hkX hcellA (by rw [hhp, hT]; exact Nat.le_refl _)
    (g := { method := m, pc := pc + 4, locals := ls, stack := .ref T.heap.size :: .ref T.heap.size :: rest, locked := none }) rfl hsize rfl rfl (rest := rest) rfl
    (by rw [hb]; exact d4) (by rw [hb]; exact d7) hout hRframes (by simp only [List.map_cons, List.sum_cons, hcat]; omega) hlocks
  obtain ⟨f1, f2⟩ := vx_frame hsame
  rw [hhp] at f1 f2
  have hWs : s.WarmedH U.vm := State.WarmedH.trans hW0 hW
  have hcl : s.vm.findClass cls = some ce.cls := by
    have h9 := hO.cls
    rw [hvm] at h9
    exact h9
  have hall : s.sameButNew ({ U with vm := s.vm } : State) locs mc ms := by
    subst hA
    obtain ⟨e1, e2⟩ := hsame
    rw [State.setFrames_setFrames] at e1
    have h2 : (T.setVm s.vm).sameButNew ({ U with vm := s.vm } : State) [] (0 + 1) (0 + 6) := ⟨e1, e2⟩
    have h3 := X.same.trans h2
    rw [List.append_nil] at h3
    exact h3.mono hc hs
  refine ⟨U, ?_, .threw T.heap.size, hrun, hend, Or.inr ⟨T.heap.size, rfl, cls, ce, locs, hx U hWs.alike f1 (fun q hq => f2 q hq (fun z hz => nomatch hz)), hce, hO.vm, hcl, hWs, hall, hf⟩⟩
  refine st1 _ ?_
  show Steps p.tables e below (T1.setTop { method := m, pc := pc + 3, locals := ls, stack := .ref T.heap.size :: rest, locked := none }) _
  jvm_step X₁.here [X₁.here.top, hexec, d3', Value.category]
  exact hsteps
/-- 'throw new E("text")': new; dup; ldc; invokespecial; athrow -/
theorem vx_throwS {cc : ByteArray} {pc : Nat} (hexec : p.tables.exec = Jvm.exec) (hb : c.code = cc) (hl : l.stackTraces = false) {own cls text : String} {names : List String} {ik is ic mc ms sa : Nat} {A : Nat → Prop}
    (hown : s.vm.findClass own = some m.cls) (hcls : Bundle.fit cls = true) (hnames : ∀ n ∈ names, Bundle.fit n = true)
    (hk : (Cond.classLink own ik cls).before args s = true) (hini : (Cond.initialized cls).before args s = true) (hstr : vk_R own is text sa s) (hat : ∀ w ∈ vx_atS own ic cls names, w.before args s = true)
    (hgood : ∀ w ∈ Cond.classLink own ik cls :: Cond.initialized cls :: vx_atS own ic cls names, vx_ot w = true)
    (hU : vx_Zq Bundle.tN "UNASSIGNED_STACK" Bundle.steD A s s.heap) (hN : vx_Zq Bundle.tN "SUPPRESSED_SENTINEL" Bundle.listD A s s.heap) (hS : va_S A s.heap H locs) (hsize : ls.size = c.maxLocals)
    (d0 : decode cc pc = .ok (.new ik, 3)) (d3 : decode cc (pc + 3) = .ok (.dup, 1)) (d4 : decode cc (pc + 4) = .ok (.ldc is, 2)) (d6 : decode cc (pc + 6) = .ok (.invokespecial ic, 3)) (d9 : decode cc (pc + 9) = .ok (.athrow, 1))
    (hout : ∀ x ∈ c.exceptionTable.toList, covers x (pc + 9) = false)
    (hRframes : names.length + 3 < R.frames) (hRlocals : (rest.map fun v => v.category).sum + (13 * (names.length + 1) + 43) ≤ R.locals) (hRcells : cells + 1 ≤ R.cells) (hRslots : slots + 6 ≤ R.slots) (hlocks : meth.locks = false)
    (hx : ∀ t : State, s.vm.Alike t.vm → H.size ≤ t.heap.size → (∀ q : Nat, q < H.size → t.heap[q]? = H[q]?) → XC cls s t)
    (hf : ∀ z ∈ locs, free z.base) (hc : cells + 1 ≤ mc) (hs : slots + 6 ≤ ms) :
    W p l e R s m args below meth c H locs cells slots (vx_MQ below Qc XC args s mc ms free) (F0 m pc ls rest) := by
  intro T hT X
  have htr : e.platform.stackTraces = false := (show e.platform.stackTraces = l.stackTraces by rw [X.admits.platform]).trans hl
  have Y := vx_rebase X (R' := { frames := R.frames, locals := R.locals, cells := 1, slots := 6 }) (Nat.le_refl _) (Nat.le_refl _) hRcells hRslots
  obtain ⟨s', hA⟩ : ∃ z, z = (T.setVm s.vm).setFrames (.invoking m args :: below) := ⟨_, rfl⟩
  rw [← hA] at Y
  have hvm : s'.vm = s.vm := by rw [hA]; rfl
  have hhp : s'.heap = H := by rw [hA]; exact hT
  have hW0 : s.WarmedH s'.vm := by rw [hvm]; exact State.WarmedH.refl s
  have hat' : ∀ w ∈ vx_atS own ic cls names, w.before args s' = true := fun w hw => vx_ot_at hW0 hvm.symm (hgood w (List.mem_cons_of_mem _ (List.mem_cons_of_mem _ hw))) (hat w hw)
  have hk' : (Cond.classLink own ik cls).before args s' = true := vx_ot_at hW0 hvm.symm (hgood _ List.mem_cons_self) hk
  have hini' : (Cond.initialized cls).before args s' = true := vx_ot_at hW0 hvm.symm (hgood _ (List.mem_cons_of_mem _ List.mem_cons_self)) hini
  have hU' : vx_Zq Bundle.tN "UNASSIGNED_STACK" Bundle.steD A s' s'.heap := by rw [hhp]; exact vx_Zq.moved hW0.alike (hU.kept hS.2.1)
  have hN' : vx_Zq Bundle.tN "SUPPRESSED_SENTINEL" Bundle.listD A s' s'.heap := by rw [hhp]; exact vx_Zq.moved hW0.alike (hN.kept hS.2.1)
  have h : ∀ w ∈ Bundle.ownAtoms own ic cls names, w.before args s' = true := vx_own hat' (vx_isRefq hU'.1) (vx_isRefq hN'.1) hU'.2.word hN'.2.word
  have hown' : s'.vm.findClass own = some m.cls := by rw [hvm]; exact hown
  have hins : (Cond.instantiable cls 6).before args s' = true := h _ (by simp [Bundle.ownAtoms])
  obtain ⟨vm₁, cX, kX, hfX, hkX, -, -, X₁, st1⟩ := Y.newCold hexec (own := own) (C := cls) (index := ik) (n := 6) hown' hk' hins hini'
    (g := F0 m pc ls rest) rfl (by rw [hb]; exact d0) (Nat.le_refl _) (Nat.le_refl _)
  generalize hT1 : (T.setVm vm₁).pushCell { cls := cX, slots := kX.instanceTypes.map defaultValue, vm := .none } = T1 at X₁ st1
  have hcat : (Value.ref T.heap.size).category = 1 := rfl
  have hcellA : T1.heap[T.heap.size]? = some (freshCell cX kX) := by rw [← hT1]; exact State.heap_pushCell_size _ _
  have d3' : decode c.code (pc + 3) = .ok (.dup, 1) := by rw [hb]; exact d3
  have d4' : decode c.code (pc + 4) = .ok (.ldc is, 2) := by rw [hb]; exact d4
  have hstr' : vk_R own is text sa s' := vk_R.warm hW0 hstr
  obtain ⟨U, hsteps, hrun, hend, hW, hsame, ce, hce, hO⟩ := X₁.ctorThrowS hexec htr (own := own) (cls := cls) (names := names) (ic := ic) hown' hcls hnames h (fun x hx => nomatch hx) hfX hkX hcellA (by rw [hhp, hT]; exact Nat.le_refl _) (msg := .ref sa) rfl
    (g := { method := m, pc := pc + 6, locals := ls, stack := .ref sa :: .ref T.heap.size :: .ref T.heap.size :: rest, locked := none }) rfl hsize rfl rfl (rest := rest) rfl
    (by rw [hb]; exact d6) (by rw [hb]; exact d9) hout hRframes (by simp only [List.map_cons, List.sum_cons, hcat]; omega) hlocks
  obtain ⟨f1, f2⟩ := vx_frame hsame
  rw [hhp] at f1 f2
  have hWs : s.WarmedH U.vm := State.WarmedH.trans hW0 hW
  have hcl : s.vm.findClass cls = some ce.cls := by
    have h9 := hO.cls
    rw [hvm] at h9
    exact h9
  have hall : s.sameButNew ({ U with vm := s.vm } : State) locs mc ms := by
    subst hA
    obtain ⟨e1, e2⟩ := hsame
    rw [State.setFrames_setFrames] at e1
    have h2 : (T.setVm s.vm).sameButNew ({ U with vm := s.vm } : State) [] (0 + 1) (0 + 6) := ⟨e1, e2⟩
    have h3 := X.same.trans h2
    rw [List.append_nil] at h3
    exact h3.mono hc hs
  refine ⟨U, ?_, .threw T.heap.size, hrun, hend, Or.inr ⟨T.heap.size, rfl, cls, ce, locs, hx U hWs.alike f1 (fun q hq => f2 q hq (fun z hz => nomatch hz)), hce, hO.vm, hcl, hWs, hall, hf⟩⟩
  refine st1 _ ?_
  show Steps p.tables e below (T1.setTop { method := m, pc := pc + 3, locals := ls, stack := .ref T.heap.size :: rest, locked := none }) _
  jvm_step X₁.here [X₁.here.top, hexec, d3', Value.category]
  exact X₁.ldcString hexec (own := own) (text := text) (index := is) (a := sa) hown' hstr'.1 hstr'.2
    (g := { method := m, pc := pc + 4, locals := ls, stack := .ref T.heap.size :: .ref T.heap.size :: rest, locked := none }) rfl d4' _ hsteps
/-- 'throw new E("text")', the text by a wide index -/
theorem vx_throwSW {cc : ByteArray} {pc : Nat} (hexec : p.tables.exec = Jvm.exec) (hb : c.code = cc) (hl : l.stackTraces = false) {own cls text : String} {names : List String} {ik is ic mc ms sa : Nat} {A : Nat → Prop}
    (hown : s.vm.findClass own = some m.cls) (hcls : Bundle.fit cls = true) (hnames : ∀ n ∈ names, Bundle.fit n = true)
    (hk : (Cond.classLink own ik cls).before args s = true) (hini : (Cond.initialized cls).before args s = true) (hstr : vk_R own is text sa s) (hat : ∀ w ∈ vx_atS own ic cls names, w.before args s = true)
    (hgood : ∀ w ∈ Cond.classLink own ik cls :: Cond.initialized cls :: vx_atS own ic cls names, vx_ot w = true)
    (hU : vx_Zq Bundle.tN "UNASSIGNED_STACK" Bundle.steD A s s.heap) (hN : vx_Zq Bundle.tN "SUPPRESSED_SENTINEL" Bundle.listD A s s.heap) (hS : va_S A s.heap H locs) (hsize : ls.size = c.maxLocals)
    (d0 : decode cc pc = .ok (.new ik, 3)) (d3 : decode cc (pc + 3) = .ok (.dup, 1)) (d4 : decode cc (pc + 4) = .ok (.ldc_w is, 3)) (d7 : decode cc (pc + 7) = .ok (.invokespecial ic, 3)) (d10 : decode cc (pc + 10) = .ok (.athrow, 1))
    (hout : ∀ x ∈ c.exceptionTable.toList, covers x (pc + 10) = false)
    (hRframes : names.length + 3 < R.frames) (hRlocals : (rest.map fun v => v.category).sum + (13 * (names.length + 1) + 43) ≤ R.locals) (hRcells : cells + 1 ≤ R.cells) (hRslots : slots + 6 ≤ R.slots) (hlocks : meth.locks = false)
    (hx : ∀ t : State, s.vm.Alike t.vm → H.size ≤ t.heap.size → (∀ q : Nat, q < H.size → t.heap[q]? = H[q]?) → XC cls s t)
    (hf : ∀ z ∈ locs, free z.base) (hc : cells + 1 ≤ mc) (hs : slots + 6 ≤ ms) :
    W p l e R s m args below meth c H locs cells slots (vx_MQ below Qc XC args s mc ms free) (F0 m pc ls rest) := by
  intro T hT X
  have htr : e.platform.stackTraces = false := (show e.platform.stackTraces = l.stackTraces by rw [X.admits.platform]).trans hl
  have Y := vx_rebase X (R' := { frames := R.frames, locals := R.locals, cells := 1, slots := 6 }) (Nat.le_refl _) (Nat.le_refl _) hRcells hRslots
  obtain ⟨s', hA⟩ : ∃ z, z = (T.setVm s.vm).setFrames (.invoking m args :: below) := ⟨_, rfl⟩
  rw [← hA] at Y
  have hvm : s'.vm = s.vm := by rw [hA]; rfl
  have hhp : s'.heap = H := by rw [hA]; exact hT
  have hW0 : s.WarmedH s'.vm := by rw [hvm]; exact State.WarmedH.refl s
  have hat' : ∀ w ∈ vx_atS own ic cls names, w.before args s' = true := fun w hw => vx_ot_at hW0 hvm.symm (hgood w (List.mem_cons_of_mem _ (List.mem_cons_of_mem _ hw))) (hat w hw)
  have hk' : (Cond.classLink own ik cls).before args s' = true := vx_ot_at hW0 hvm.symm (hgood _ List.mem_cons_self) hk
  have hini' : (Cond.initialized cls).before args s' = true := vx_ot_at hW0 hvm.symm (hgood _ (List.mem_cons_of_mem _ List.mem_cons_self)) hini
  have hU' : vx_Zq Bundle.tN "UNASSIGNED_STACK" Bundle.steD A s' s'.heap := by rw [hhp]; exact vx_Zq.moved hW0.alike (hU.kept hS.2.1)
  have hN' : vx_Zq Bundle.tN "SUPPRESSED_SENTINEL" Bundle.listD A s' s'.heap := by rw [hhp]; exact vx_Zq.moved hW0.alike (hN.kept hS.2.1)
  have h : ∀ w ∈ Bundle.ownAtoms own ic cls names, w.before args s' = true := vx_own hat' (vx_isRefq hU'.1) (vx_isRefq hN'.1) hU'.2.word hN'.2.word
  have hown' : s'.vm.findClass own = some m.cls := by rw [hvm]; exact hown
  have hins : (Cond.instantiable cls 6).before args s' = true := h _ (by simp [Bundle.ownAtoms])
  obtain ⟨vm₁, cX, kX, hfX, hkX, -, -, X₁, st1⟩ := Y.newCold hexec (own := own) (C := cls) (index := ik) (n := 6) hown' hk' hins hini'
    (g := F0 m pc ls rest) rfl (by rw [hb]; exact d0) (Nat.le_refl _) (Nat.le_refl _)
  generalize hT1 : (T.setVm vm₁).pushCell { cls := cX, slots := kX.instanceTypes.map defaultValue, vm := .none } = T1 at X₁ st1
  have hcat : (Value.ref T.heap.size).category = 1 := rfl
  have hcellA : T1.heap[T.heap.size]? = some (freshCell cX kX) := by rw [← hT1]; exact State.heap_pushCell_size _ _
  have d3' : decode c.code (pc + 3) = .ok (.dup, 1) := by rw [hb]; exact d3
  have d4' : decode c.code (pc + 4) = .ok (.ldc_w is, 3) := by rw [hb]; exact d4
  have hstr' : vk_R own is text sa s' := vk_R.warm hW0 hstr
  obtain ⟨U, hsteps, hrun, hend, hW, hsame, ce, hce, hO⟩ := X₁.ctorThrowS hexec htr (own := own) (cls := cls) (names := names) (ic := ic) hown' hcls hnames h (fun x hx => nomatch hx) hfX hkX hcellA (by rw [hhp, hT]; exact Nat.le_refl _) (msg := .ref sa) rfl
    (g := { method := m, pc := pc + 7, locals := ls, stack := .ref sa :: .ref T.heap.size :: .ref T.heap.size :: rest, locked := none }) rfl hsize rfl rfl (rest := rest) rfl
    (by rw [hb]; exact d7) (by rw [hb]; exact d10) hout hRframes (by simp only [List.map_cons, List.sum_cons, hcat]; omega) hlocks
  obtain ⟨f1, f2⟩ := vx_frame hsame
  rw [hhp] at f1 f2
  have hWs : s.WarmedH U.vm := State.WarmedH.trans hW0 hW
  have hcl : s.vm.findClass cls = some ce.cls := by
    have h9 := hO.cls
    rw [hvm] at h9
    exact h9
  have hall : s.sameButNew ({ U with vm := s.vm } : State) locs mc ms := by
    subst hA
    obtain ⟨e1, e2⟩ := hsame
    rw [State.setFrames_setFrames] at e1
    have h2 : (T.setVm s.vm).sameButNew ({ U with vm := s.vm } : State) [] (0 + 1) (0 + 6) := ⟨e1, e2⟩
    have h3 := X.same.trans h2
    rw [List.append_nil] at h3
    exact h3.mono hc hs
  refine ⟨U, ?_, .threw T.heap.size, hrun, hend, Or.inr ⟨T.heap.size, rfl, cls, ce, locs, hx U hWs.alike f1 (fun q hq => f2 q hq (fun z hz => nomatch hz)), hce, hO.vm, hcl, hWs, hall, hf⟩⟩
  refine st1 _ ?_
  show Steps p.tables e below (T1.setTop { method := m, pc := pc + 3, locals := ls, stack := .ref T.heap.size :: rest, locked := none }) _
  jvm_step X₁.here [X₁.here.top, hexec, d3', Value.category]
  exact X₁.ldcStringW hexec (own := own) (text := text) (index := is) (a := sa) hown' hstr'.1 hstr'.2
    (g := { method := m, pc := pc + 4, locals := ls, stack := .ref T.heap.size :: .ref T.heap.size :: rest, locked := none }) rfl d4' _ hsteps
end Ends
section Bodies
variable {l : Launch}
theorem vx_ofW {y : MethodName} {ws ws' : List Cond} {rm : Room} {Pc : Array Value → State → Prop} {Qc : Array Value → State → Outcome → State → Prop} {XC : String → State → State → Prop} {mc ms : Nat} {free : Addr → Prop} {cc : ByteArray} {maxL : Nat} {ret : Option FieldType}
    (hy : plainName y.cls = true) (hw : ws = Cond.code y cc maxL ret :: ws')
    (body : ∀ p e s m args below meth c s₁, BodyLoose p l y (headSpec ws rm) cc maxL ret e s m args below meth c s₁ → c.maxLocals = maxL → (∀ x ∈ c.exceptionTable.toList, False) → Pc args s →
      W p l e (headSpec ws rm).room s m args below meth c s.heap [] 0 0 (vx_MQ below Qc XC args s mc ms free) (entryFrame m args maxL)) : vx_Met l y ws rm Pc Qc XC mc ms free := by
  refine MetFree.of_bodyS (code := cc) (maxLocals := maxL) (ret := ret) hy ?_ ?_
  · intro args s m h hn
    obtain ⟨meth, c, h1, h2, h3, h4, h5, h6, -, -⟩ := Cond.code_spec hn (atoms_spec (ws := ws) h _ (by rw [hw]; exact List.mem_cons_self))
    exact ⟨meth, c, h1, h2, h3, h4, h5, h6⟩
  · intro p e s m args below meth c s₁ B hml hP _
    have hh0 : s₁.heap = s.heap := by rw [B.state]; rfl
    have ht : ∀ x ∈ c.exceptionTable.toList, False := by
      obtain ⟨meth9, c9, h1, h2, -, -, -, -, h7, -⟩ := Cond.code_spec B.named (atoms_spec (ws := ws) B.pre _ (by rw [hw]; exact List.mem_cons_self))
      cases Option.some.inj (h1.symm.trans B.method)
      cases Option.some.inj (h2.symm.trans (Stand.of_body B).code)
      intro x hx
      rw [Array.isEmpty_iff.mp h7] at hx
      cases hx
    obtain ⟨t, a1, o, b1, b2, b3⟩ := body p e s m args below meth c s₁ B hml ht hP s₁ hh0 (Stand.of_body B)
    exact ⟨t, o, a1, b1, b2, b3⟩
/-- the table of a body with handlers -/
theorem vx_table {p : Program} {x y : MethodName} {S : Spec} {cc bytes : ByteArray} {maxL maxL' : Nat} {ret ret' : Option FieldType} {e : Env} {s s₁ : State} {m : MethodId} {args : Array Value} {below : List Frame} {meth : Method} {c : Code} {hh : List (Nat × Nat × Nat × Nat)}
    (B : BodyLoose p l y S cc maxL ret e s m args below meth c s₁) (h : (Cond.codeWith y bytes maxL' ret' hh).before args s = true) : c.exceptionTable.toList = tableOf hh := by
  obtain ⟨m9, meth9, c9, hn9, h1, h2, -, -, h6, -⟩ := Cond.codeWith_spec h
  cases Option.some.inj (hn9.symm.trans B.named)
  cases Option.some.inj (h1.symm.trans B.method)
  cases Option.some.inj (h2.symm.trans (Stand.of_body B).code)
  rw [← h6, table_eq]
end Bodies
end VXA
/-! ===== END ===== -/
/-! ===== BEGIN a static call of a method with an exception table ===== -/
section VXS
variable {p : Program} {l : Launch} {e : Env} {R : Room} {s : State} {m : MethodId} {args : Array Value} {below : List Frame} {meth : Method} {c : Code} {T : State} {H : Heap} {locs : List Loc} {cells slots : Nat}
abbrev vx_CSW (R : Room) (s : State) (args : Array Value) (own : String) (index : Nat) (y : MethodName) (bytes : ByteArray) (maxL : Nat) (ret : Option FieldType) (hh : List (Nat × Nat × Nat × Nat)) (ws : List Cond) (rm : Room) (mc ms n : Nat) : Prop :=
  (rm.cells = mc ∧ rm.slots = ms ∧ rm.frames + 1 ≤ R.frames ∧ 8 + (maxL + 11) + rm.locals ≤ R.locals ∧ (∀ w ∈ ws, ∀ (a' : Array Value) (U : State), s.WarmedH U.vm → w.before a' U = true) ∧ Cond.codeWith y bytes maxL ret hh ∈ ws) ∧
  (Cond.codeWith y bytes maxL ret hh).before args s = true ∧ (Cond.initialized y.cls).before args s = true ∧ (y.cls ≠ "java/lang/invoke/MethodHandle" ∧ y.cls ≠ "java/lang/invoke/VarHandle") ∧
  (∀ sig, parseMethodDescriptor y.desc = some sig → n = sig.parameters.length) ∧ (Cond.methodLink own index y).before args s = true ∧ (Cond.static y).before args s = true
theorem vx_cwSW {own : String} {index maxL mc ms : Nat} {y : MethodName} {bytes : ByteArray} {ret : Option FieldType} {hh : List (Nat × Nat × Nat × Nat)} {Ts ws ws' : List Cond} {rm : Room} (n : Nat) (ht : ∀ w ∈ Ts, w.before args s = true) (hT : GoodIn Ts (va_wsS own index y ws)) (hw : ws = Cond.codeWith y bytes maxL ret hh :: ws') (hrc : rm.cells = mc) (hrs : rm.slots = ms)
    (hd : y.cls ≠ "java/lang/invoke/MethodHandle" ∧ y.cls ≠ "java/lang/invoke/VarHandle" ∧ (parseMethodDescriptor y.desc).map (fun d => d.parameters.length) = some n) (hR : rm.frames + 1 ≤ R.frames ∧ 8 + (maxL + 11) + rm.locals ≤ R.locals) :
    vx_CSW R s args own index y bytes maxL ret hh ws rm mc ms n := by
  have ok : ∀ w ∈ va_wsS own index y ws, w.before args s = true := fun w h => ht w (hT w h).1
  have hG : GoodIn Ts ws := fun w h => hT w (by unfold va_wsS; exact List.mem_append_right _ h)
  have hc : Cond.codeWith y bytes maxL ret hh ∈ ws := by rw [hw]; exact List.mem_cons_self
  refine ⟨⟨hrc, hrs, hR.1, hR.2, pay_in ht hG, hc⟩, ht _ (hG _ hc).1, ok _ (by simp [va_wsS]), ⟨hd.1, hd.2.1⟩, fun sig h => ?_, ok _ (by simp [va_wsS]), ok _ (by simp [va_wsS])⟩
  have h2 := hd.2.2
  rw [h] at h2
  exact (Option.some.inj h2).symm
theorem vx_callSW (X : Stand p l e R s m args below meth c T locs cells slots) (hexec : p.tables.exec = Jvm.exec) {own : String} {index : Nat} {y : MethodName} {bytes : ByteArray} {maxL : Nat} {ret : Option FieldType} {hh : List (Nat × Nat × Nat × Nat)}
    (hown : s.vm.findClass own = some m.cls) (hlink : (Cond.methodLink own index y).before args s = true) (hstat : (Cond.static y).before args s = true) (hinit : (Cond.initialized y.cls).before args s = true)
    (hcode : (Cond.codeWith y bytes maxL ret hh).before args s = true) (hy : y.cls ≠ "java/lang/invoke/MethodHandle" ∧ y.cls ≠ "java/lang/invoke/VarHandle")
    {W9 : Nat} {Pre : Pt → Array Value → Prop} {Post : Pt → Array Value → Option Value → Pt → Prop} (hK : Back l R p e below s args y 3 W9 Pre Post)
    {g : JFrame} (hg : g.method = m) (hsize : g.locals.size = c.maxLocals) {argsL rest : List Value} (hlen : ∀ sig, parseMethodDescriptor y.desc = some sig → argsL.length = sig.parameters.length)
    (hstack : g.stack = argsL.reverse ++ rest) (hW : 2 * g.monitorRoom + (rest.map fun v => v.category).sum ≤ W9) (hdg : decode c.code g.pc = .ok (.invokestatic index, 3))
    (hpre : ∀ vm₁, s.WarmedH vm₁ → Pre ⟨T.setVm vm₁, locs, cells, slots⟩ argsL.toArray) :
    ∃ (v : Option Value) (vm₁ : Vm) (B : Pt), s.WarmedH vm₁ ∧ Stand p l e R s m args below meth c B.U B.locs B.cells B.slots ∧ Post ⟨T.setVm vm₁, locs, cells, slots⟩ argsL.toArray v B ∧
      ∀ target, Steps p.tables e below (B.U.setTop { g with pc := g.pc + 3, stack := v.toList ++ rest }) target → Steps p.tables e below (T.setTop g) target := by
  obtain ⟨mk, methM, cM, hnamed, hmethM, -, -, -, -, -, -, hsigM⟩ := Cond.codeWith_spec hcode
  have hstatic : methM.isStatic = true := Cond.static_spec hnamed hmethM hstat
  obtain ⟨kP, hkP, -⟩ := className_of_methodNamed hnamed
  have hinitP : kP.init = .initialized := Cond.initialized_spec (findClass_of_methodNamed hnamed) hkP hinit
  obtain ⟨vm₁, X₁, hstep₁⟩ := X.invokestatic hexec hown hlink hnamed hmethM hstatic hkP hinitP hy (g := g) hg (argsL := argsL) (rest := rest) (hlen _ hsigM) hstack hdg
  obtain ⟨v, B, X', hpost, hsteps⟩ := hK m meth c ⟨T.setVm vm₁, locs, cells, slots⟩ { g with stack := rest } (.invokestatic index) mk argsL.toArray X₁ hg hsize hdg hW (X₁.named hnamed) (hpre vm₁ X₁.warmed)
  exact ⟨v, vm₁, B, X₁.warmed, X', hpost, fun target h => hstep₁ _ fun acts => by rw [doInvoke_state]; exact hsteps.trans h⟩
theorem vx_runSW {y : MethodName} {bytes cc : ByteArray} {maxL nL mc ms n index : Nat} {ret : Option FieldType} {hh : List (Nat × Nat × Nat × Nat)} {ws : List Cond} {rm : Room} {Pc : Array Value → State → Prop} {Qc : Array Value → State → Outcome → State → Prop} {free : Addr → Prop} {Ts : List Cond} {own : String} {As rest : List Value} {g : JFrame}
    (S : CallFix p m c cc nL s args Ts own) (hM : Met l y ws rm Pc Qc mc ms free) (cw : vx_CSW R s args own index y bytes maxL ret hh ws rm mc ms n) (hp : PreS s H Pc As)
    (hg : g.method = m) (hn : As.length = n) (hsize : g.locals.size = nL) (hstack : g.stack = As.reverse ++ rest) (hW : 2 * g.monitorRoom + (rest.map fun v => v.category).sum ≤ 8) (hdg : decode cc g.pc = .ok (.invokestatic index, 3)) (hf : cells + mc ≤ R.cells ∧ slots + ms ≤ R.slots) :
    va_Run p l e R s m args below meth c H locs cells slots mc ms g rest (Qc As.toArray) (free) := by
  obtain ⟨⟨hrc, hrs, hfr, hlo, hws, hcw⟩, hcode, hini, hy, hlen, hl, hstt⟩ := cw
  have hK : Back l R p e below s args y 3 8 (PreOf R mc ms Pc) (PostOf Qc mc ms free) := va_backW (hh := hh) (bytes := bytes) (maxL := maxL) (ret := ret) hM hp.1 hrc hrs hfr hlo hws hcw (fun a' U hW => word_at hW (Or.inl (by first | rfl | simp [Cond.onTables, Cond.keeps, Cond.steady])) hini)
  obtain ⟨hx, hb, hml, ho, -⟩ := S
  intro T hT X
  obtain ⟨v, vm₁, ⟨U', l2, c2, s2⟩, hW₁, X', ⟨g', mk, t, L, e1, e2, hq, h1, hL, h2, h3⟩, st⟩ := vx_callSW X hx (hh := hh) (bytes := bytes) (maxL := maxL) (ret := ret) ho hl hstt hini hcode hy hK hg (hsize.trans hml.symm) (argsL := As) (rest := rest) (fun sig h => hn.trans (hlen sig h)) hstack hW (by rw [hb]; exact hdg)
    (fun vm₁ hW₁ => ⟨hf.1, hf.2, hp.2 (T.setVm vm₁) hT hW₁⟩)
  dsimp only [Pt.U, Pt.locs, Pt.cells, Pt.slots] at X' e1 e2 h1 h2 h3 st
  subst h1; subst h2; subst h3
  exact ⟨v, (T.setVm vm₁).calling g' mk As.toArray, t, U', L, hT, X', hL, e1, e2, hq, st⟩
/-- not caught here, past rows that name other classes: it goes on to the caller -/
theorem vx_outP {p : Program} {l : Launch} {e : Env} {R : Room} {s : State} {m : MethodId} {args : Array Value} {below : List Frame} {meth : Method} {c : Code} {H : Heap} {locs : List Loc} {cells slots : Nat} {free : Addr → Prop} {ls : Array Slot} {rest : List Value} {Qc : Array Value → State → Outcome → State → Prop} {XC : String → State → State → Prop}
    {pc : Nat} {own E : String} {ce : Cell} {q : Addr} {mc ms : Nat} (hown : s.vm.findClass own = some m.cls) (hlocks : meth.locks = false)
    (hpass : ∀ z ∈ c.exceptionTable.toList, covers z pc = false ∨ (z.catchType ≠ 0 ∧ ∃ nm : String, (Cond.classLink own z.catchType nm).before args s = true ∧ va_Nc E nm s)) (hcell : H[q]? = some ce) (hv : ce.vm = .none) (hcl : s.vm.findClass E = some ce.cls)
    (hx : ∀ t : State, t.heap = H → s.vm.Alike t.vm → XC E s t) (hf : ∀ z ∈ locs, free z.base) (hc : cells ≤ mc) (hs : slots ≤ ms) :
    vx_W p l e R s m args below meth c H locs cells slots (vx_MQ below Qc XC args s mc ms free) (F0 m pc ls rest) q := by
  intro T hT X
  have hpl : e.platform.magicAccessors = ({} : Platform).magicAccessors := by rw [X.admits.platform]
  obtain ⟨vm', hW', X', st⟩ := X.outThrough hlocks q (g := F0 m pc ls rest) rfl rfl rfl (cell := ce) (by rw [hT]; exact hcell) (by rw [hv]; rfl)
    (by obtain ⟨k9, h9, -⟩ := Vm.findClass_spec hcl; exact ⟨k9, h9⟩) (fun z hz => by
      rcases hpass z hz with h | ⟨hz0, nm, hl1, hn1⟩
      · exact Or.inl h
      · obtain ⟨c6, hc6, hcl6⟩ := Cond.classLink_spec hown hl1 e.platform hpl
        obtain ⟨a8, b8, h1, h2, h3⟩ := hn1
        cases Option.some.inj (h1.symm.trans hcl)
        cases Option.some.inj (h2.symm.trans hc6)
        exact Or.inr ⟨hz0, _, hcl6, h3⟩)
  obtain ⟨g₀, hfr⟩ := X'.frames_eq
  have hcell9 : ((T.setVm vm').setFrames (.throwing q :: below)).heap[q]? = some ce := by
    show T.heap[q]? = some ce
    rw [hT]; exact hcell
  have hend : Ended ((T.setVm vm').setFrames (.throwing q :: below)) below (.threw q) := State.frames_setFrames _ (State.cur_lt_of_frames hfr)
  refine ⟨(T.setVm vm').setFrames (.throwing q :: below), ?_, .threw q, X'.here.running, hend, Or.inr ⟨q, rfl, E, ce, locs, hx _ hT (X'.ends _).1.alike, hcell9, hv, hcl, (X'.ends _).1, (X'.ends _).2.mono hc hs, hf⟩⟩
  rw [X.pushThrowing_eq]
  exact st
/-- a thing of a world lies in the heap -/
theorem vx_lt {D : va_G} {cl : List vw_C} {ws : va_W} {H1 : Heap} (h : va_P D cl ws H1) {k : Nat} {q : Nat × va_E} (hk : ws[k]? = some q) : q.1 < H1.size := (h k q hk).lt
end VXS
/-! ===== END ===== -/
/-! ===== BEGIN methods with a table of their own: called by a name, returning or throwing ===== -/
section VXH
/-! vx_backW, vx_callVX, vx_callSX, vx_callVW, vx_runVW, vx_runVX, vx_runSX, vx_ofWH follow the same proofs as their sisters above (Free/Laws.lean, Shelf42/LK1.lean); vx_outP calls Shelf42/NT130.lean (outThrough). -/
section
variable {l : Launch} {R : Room} {p : Program} {e : Env} {below : List Frame} {s : State} {sargs : Array Value} {y : MethodName} {len W9 : Nat}
theorem vx_backW {ws : List Cond} {rm : Room} {Pc : Array Value → State → Prop} {Qc : Array Value → State → Outcome → State → Prop} {XC : String → State → State → Prop} {mc ms : Nat} {free : Addr → Prop} {bytes : ByteArray} {maxL : Nat} {ret : Option FieldType} {hh : List (Nat × Nat × Nat × Nat)}
    (hM : vx_Met l y ws rm Pc Qc XC mc ms free) (hblind : FrameBlind Pc) (hrc : rm.cells = mc) (hrs : rm.slots = ms)
    (hframes : rm.frames + 1 ≤ R.frames) (hlocals : W9 + (maxL + 11) + rm.locals ≤ R.locals)
    (hws : ∀ w ∈ ws, ∀ a' U, s.WarmedH U.vm → w.before a' U = true) (hcode : Cond.codeWith y bytes maxL ret hh ∈ ws) (hinit : ∀ a' U, s.WarmedH U.vm → (Cond.initialized y.cls).before a' U = true) :
    vx_Back l R p e below s sargs y len W9 (PreOf R mc ms Pc) (PostOf Qc mc ms free) (vx_Post XC mc ms free) := by
  intro m meth c A g ig mk a X hg hsize hdg hW hn hp
  have h1 : (headSpec ws rm).pre.before a A.U = true := atoms_intro fun w hw => hws w hw _ _ X.warmed
  have h2 : (Cond.codeWith y bytes maxL ret hh).before a A.U = true := hws _ hcode _ _ X.warmed
  have h3 : (Cond.initialized y.cls).before a A.U = true := hinit _ _ X.warmed
  have h4 : A.cells + (headSpec ws rm).room.cells ≤ R.cells := by rw [show (headSpec ws rm).room.cells = mc from hrc]; exact hp.1
  have h5 : A.slots + (headSpec ws rm).room.slots ≤ R.slots := by rw [show (headSpec ws rm).room.slots = ms from hrs]; exact hp.2.1
  have hPc : Pc a (A.U.calling g mk a) := hblind _ _ _ _ hp.2.2
  obtain ⟨U, Ls, c0, s0⟩ := A
  dsimp only [Pt.U, Pt.locs, Pt.cells, Pt.slots] at h1 h2 h3 h4 h5 X hn hPc ⊢
  obtain ⟨m9, methY, cY, hn9, hmY, hcY, -, hlY, -⟩ := Cond.codeWith_spec h2
  cases Option.some.inj (hn9.symm.trans hn)
  obtain ⟨kY, hkY, -⟩ := className_of_methodNamed hn
  have hinitY : kY.init = .initialized := Cond.initialized_spec (findClass_of_methodNamed hn) hkY h3
  have h : At U g.method c below := by rw [hg]; exact X.here
  have hlocals9 : W9 + (maxL + 11) + (headSpec ws rm).room.locals ≤ R.locals := hlocals
  have happ : (headSpec ws rm).appliesLoose y e.platform (U.calling g mk a) = true :=
    Spec.appliesLoose_calling (g := g) h hdg hn hkY hinitY
      (X.room_calling (g := g) (R' := (headSpec ws rm).room) hsize hmY hcY hframes (by rw [hlY]; omega) h4 h5) h1
  obtain ⟨mid, hmid⟩ := h.above
  have hfr : (U.setTop g).frames = (.java g :: mid) ++ below := by rw [State.frames_setTop' g h.top, hmid]; rfl
  obtain ⟨o, s₂, hsteps, -, hend, hq⟩ := Steps.callFree hM p X.admits X.cas X.clock (acts := []) hfr happ hPc trivial
  have hq' : vx_Q Qc XC mc ms free a (U.calling g mk a) o s₂ := hq
  rw [State.frames_setTop' g h.top] at hend
  obtain ⟨g₀, hg0⟩ := Option.isSome_iff_exists.mp h.top
  obtain ⟨r, hr⟩ := State.topJava?_eq_some.mp hg0
  have hr' : (({ U with heap := s₂.heap, slotsUsed := s₂.slotsUsed } : State).setVm s₂.vm).frames = .java g₀ :: r := hr
  rcases hq' with ⟨hqc, L, hfe, hL⟩ | ⟨q, rfl, E, ce, L, hx, hce, hcv, hcl, hW₂, hsm, hL⟩
  · obtain ⟨⟨v, rfl⟩, hW₂, e2, q2, q3, q4, q5, q6⟩ := id hfe
    have e3 : s₂ = ({ (U.calling g mk a).setFrames s₂.frames with heap := s₂.heap, slotsUsed := s₂.slotsUsed } : State).setVm s₂.vm := by
      have : s₂ = ({ s₂ with vm := (U.calling g mk a).vm } : State).setVm s₂.vm := rfl
      rw [e2] at this
      exact this
    obtain ⟨c₂, i₂, len₂, hc₂, hd₂, hf₂⟩ := hend
    have hW' : U.WarmedH s₂.vm := hW₂
    have hcc : c₂ = c := by
      have h1 : s₂.code? g.method = U.code? g.method := by
        rw [State.code?_eq, State.code?_eq, hW'.alike.method?]
      exact Option.some.inj (hc₂.symm.trans (h1.trans h.code))
    subst hcc
    have hlen : len₂ = len := by rw [hdg] at hd₂; cases hd₂; rfl
    subst hlen
    have hs₂ : s₂ = (({ U with heap := s₂.heap, slotsUsed := s₂.slotsUsed } : State).setVm s₂.vm).setTop { g with pc := g.pc + len₂, stack := v.toList ++ g.stack } := by
      refine e3.trans ?_
      rw [hf₂, State.calling_eq h.top, State.setFrames_setFrames, State.setTop_of_frames _ hr', hr]
      rfl
    have hsame : U.sameButNew ({ U with heap := s₂.heap, slotsUsed := s₂.slotsUsed } : State) L mc ms := by
      refine ⟨?_, q2, q3, q4, q5, q6⟩
      obtain ⟨t, ht, -⟩ := State.frames_cons hr
      show ({ U with heap := s₂.heap, slotsUsed := s₂.slotsUsed } : State) = { U.setFrames U.frames with heap := s₂.heap, slotsUsed := s₂.slotsUsed }
      rw [State.setFrames_self ht]
    subst hg
    refine Or.inl ⟨v, ⟨(({ U with heap := s₂.heap, slotsUsed := s₂.slotsUsed } : State).setVm s₂.vm), Ls ++ L, c0 + mc, s0 + ms⟩,
      ⟨X.admits, X.cas, X.clock, X.frames, X.room, X.hears, X.method, X.code, (X.here.setHeapUsed s₂.heap s₂.slotsUsed).setVm hW'.alike, X.tail, State.WarmedH.trans X.warmed hW', X.limits, X.bytes, X.same.trans (hsame.setVm s.vm)⟩,
      ⟨g, mk, s₂, L, rfl, rfl, hqc, rfl, hL, rfl, rfl⟩, ?_⟩
    show Steps p.tables e below _ ((({ U with heap := s₂.heap, slotsUsed := s₂.slotsUsed } : State).setVm s₂.vm).setTop { g with pc := g.pc + len₂, stack := v.toList ++ g.stack })
    rw [← hs₂]
    exact hsteps
  · obtain ⟨e2, q2, q3, q4, q5, q6⟩ := id hsm
    have e3 : s₂ = ({ (U.calling g mk a).setFrames s₂.frames with heap := s₂.heap, slotsUsed := s₂.slotsUsed } : State).setVm s₂.vm := by
      have : s₂ = ({ s₂ with vm := (U.calling g mk a).vm } : State).setVm s₂.vm := rfl
      rw [e2] at this
      exact this
    have hf₂ : s₂.frames = .throwing q :: .java g :: U.frames.tail := hend
    have hW' : U.WarmedH s₂.vm := hW₂
    have hs₂ : s₂ = ((({ U with heap := s₂.heap, slotsUsed := s₂.slotsUsed } : State).setVm s₂.vm).setTop g).pushFrame (.throwing q) := by
      refine e3.trans ?_
      rw [hf₂, State.calling_eq h.top, State.setFrames_setFrames, State.pushFrame, State.frames_setTop _ hr', State.setTop_of_frames _ hr', State.setFrames_setFrames, hr]
      rfl
    have hsame : U.sameButNew ({ U with heap := s₂.heap, slotsUsed := s₂.slotsUsed } : State) L mc ms := by
      refine ⟨?_, q2, q3, q4, q5, q6⟩
      obtain ⟨t, ht, -⟩ := State.frames_cons hr
      show ({ U with heap := s₂.heap, slotsUsed := s₂.slotsUsed } : State) = { U.setFrames U.frames with heap := s₂.heap, slotsUsed := s₂.slotsUsed }
      rw [State.setFrames_self ht]
    subst hg
    refine Or.inr ⟨q, ⟨(({ U with heap := s₂.heap, slotsUsed := s₂.slotsUsed } : State).setVm s₂.vm), Ls ++ L, c0 + mc, s0 + ms⟩,
      ⟨X.admits, X.cas, X.clock, X.frames, X.room, X.hears, X.method, X.code, (X.here.setHeapUsed s₂.heap s₂.slotsUsed).setVm hW'.alike, X.tail, State.WarmedH.trans X.warmed hW', X.limits, X.bytes, X.same.trans (hsame.setVm s.vm)⟩,
      ⟨g, mk, s₂, L, E, ce, rfl, rfl, hx, hce, hcv, hcl, rfl, hL, rfl, rfl⟩, ?_⟩
    show Steps p.tables e below _ (((({ U with heap := s₂.heap, slotsUsed := s₂.slotsUsed } : State).setVm s₂.vm).setTop g).pushFrame (.throwing q))
    rw [← hs₂]
    exact hsteps
end
variable {p : Program} {l : Launch} {e : Env} {R : Room} {s : State} {m : MethodId} {args : Array Value} {below : List Frame} {meth : Method} {c : Code} {T : State} {H : Heap} {locs : List Loc} {cells slots : Nat}
theorem vx_callVX (X : Stand p l e R s m args below meth c T locs cells slots) (hexec : p.tables.exec = Jvm.exec) {own C : String} {index : Nat} {y : MethodName} {bytes : ByteArray} {maxL : Nat} {ret : Option FieldType} {hh : List (Nat × Nat × Nat × Nat)}
    (hown : s.vm.findClass own = some m.cls) (hlink : (Cond.methodLink own index y).before args s = true) (hinst : (Cond.instanceMethod y).before args s = true) (hsel : (Cond.selects C y y).before args s = true)
    (hcode : (Cond.codeWith y bytes maxL ret hh).before args s = true) (hy : y.cls ≠ "java/lang/invoke/MethodHandle" ∧ y.cls ≠ "java/lang/invoke/VarHandle")
    {W9 : Nat} {Pre : Pt → Array Value → Prop} {Post : Pt → Array Value → Option Value → Pt → Prop} {PostX : Pt → Array Value → Addr → Pt → Prop} (hK : vx_Back l R p e below s args y 3 W9 Pre Post PostX)
    {b : Addr} {cellB : Cell} (hcell : T.heap[b]? = some cellB) (hobj : cellB.vm.isStatics = false) (hcls : s.vm.findClass C = some cellB.cls)
    {g : JFrame} (hg : g.method = m) (hsize : g.locals.size = c.maxLocals) {argsL rest : List Value} (hlen : ∀ sig, parseMethodDescriptor y.desc = some sig → argsL.length = sig.parameters.length)
    (hstack : g.stack = argsL.reverse ++ .ref b :: rest) (hW : 2 * g.monitorRoom + (rest.map fun v => v.category).sum ≤ W9) (hdg : decode c.code g.pc = .ok (.invokevirtual index, 3))
    (hpre : ∀ vm₁, s.WarmedH vm₁ → Pre ⟨T.setVm vm₁, locs, cells, slots⟩ (Value.ref b :: argsL).toArray) :
    (∃ (v : Option Value) (vm₁ : Vm) (B : Pt), s.WarmedH vm₁ ∧ Stand p l e R s m args below meth c B.U B.locs B.cells B.slots ∧ Post ⟨T.setVm vm₁, locs, cells, slots⟩ (Value.ref b :: argsL).toArray v B ∧
      ∀ target, Steps p.tables e below (B.U.setTop { g with pc := g.pc + 3, stack := v.toList ++ rest }) target → Steps p.tables e below (T.setTop g) target) ∨
    (∃ (q : Addr) (vm₁ : Vm) (B : Pt), s.WarmedH vm₁ ∧ Stand p l e R s m args below meth c B.U B.locs B.cells B.slots ∧ PostX ⟨T.setVm vm₁, locs, cells, slots⟩ (Value.ref b :: argsL).toArray q B ∧
      Steps p.tables e below (T.setTop g) ((B.U.setTop { g with stack := rest }).pushFrame (.throwing q))) := by
  obtain ⟨mk, methM, hnamed, hmethM, hstM, habM⟩ := Cond.instanceMethod_spec hinst
  obtain ⟨m8, methM', cM, hn8, hmethM', -, -, -, -, -, -, hsigM⟩ := Cond.codeWith_spec hcode
  cases Option.some.inj (hn8.symm.trans hnamed)
  cases hmethM.symm.trans hmethM'
  obtain ⟨c2, r2, m2, q1, q2, q3, q4, kP, hkP, hkPi⟩ := Cond.selects_spec hsel
  cases hcls.symm.trans q1
  cases (State.methodFound?_of_named hnamed hy).symm.trans q2
  cases hnamed.symm.trans q3
  have hselP : selectMethod e.platform s.vm cellB.cls mk = .method mk := by rw [Launch.admits_selectMethod X.admits]; exact q4
  obtain ⟨vm₁, X₁, hstep₁⟩ := X.invokevirtual hexec hown hlink hnamed hmethM hstM hkP hkPi hy (a := b) (cell := cellB) hcell
    (fun z h => by rw [h] at hobj; cases hobj) hselP hmethM habM hkP hkPi (g := g) hg (argsL := argsL) (rest := rest) (hlen _ hsigM) hstack hdg
  rcases hK m meth c ⟨T.setVm vm₁, locs, cells, slots⟩ { g with stack := rest } (.invokevirtual index) mk (Value.ref b :: argsL).toArray X₁ hg hsize hdg hW (X₁.named hnamed) (hpre vm₁ X₁.warmed) with ⟨v, B, X', hpost, hsteps⟩ | ⟨q, B, X', hpost, hsteps⟩
  · exact Or.inl ⟨v, vm₁, B, X₁.warmed, X', hpost, fun target h => hstep₁ _ fun acts => by rw [doInvoke_state]; exact hsteps.trans h⟩
  · exact Or.inr ⟨q, vm₁, B, X₁.warmed, X', hpost, hstep₁ _ fun acts => by rw [doInvoke_state]; exact hsteps⟩
theorem vx_callSX (X : Stand p l e R s m args below meth c T locs cells slots) (hexec : p.tables.exec = Jvm.exec) {own : String} {index : Nat} {y : MethodName} {bytes : ByteArray} {maxL : Nat} {ret : Option FieldType} {hh : List (Nat × Nat × Nat × Nat)}
    (hown : s.vm.findClass own = some m.cls) (hlink : (Cond.methodLink own index y).before args s = true) (hstat : (Cond.static y).before args s = true) (hinit : (Cond.initialized y.cls).before args s = true)
    (hcode : (Cond.codeWith y bytes maxL ret hh).before args s = true) (hy : y.cls ≠ "java/lang/invoke/MethodHandle" ∧ y.cls ≠ "java/lang/invoke/VarHandle")
    {W9 : Nat} {Pre : Pt → Array Value → Prop} {Post : Pt → Array Value → Option Value → Pt → Prop} {PostX : Pt → Array Value → Addr → Pt → Prop} (hK : vx_Back l R p e below s args y 3 W9 Pre Post PostX)
    {g : JFrame} (hg : g.method = m) (hsize : g.locals.size = c.maxLocals) {argsL rest : List Value} (hlen : ∀ sig, parseMethodDescriptor y.desc = some sig → argsL.length = sig.parameters.length)
    (hstack : g.stack = argsL.reverse ++ rest) (hW : 2 * g.monitorRoom + (rest.map fun v => v.category).sum ≤ W9) (hdg : decode c.code g.pc = .ok (.invokestatic index, 3))
    (hpre : ∀ vm₁, s.WarmedH vm₁ → Pre ⟨T.setVm vm₁, locs, cells, slots⟩ argsL.toArray) :
    (∃ (v : Option Value) (vm₁ : Vm) (B : Pt), s.WarmedH vm₁ ∧ Stand p l e R s m args below meth c B.U B.locs B.cells B.slots ∧ Post ⟨T.setVm vm₁, locs, cells, slots⟩ argsL.toArray v B ∧
      ∀ target, Steps p.tables e below (B.U.setTop { g with pc := g.pc + 3, stack := v.toList ++ rest }) target → Steps p.tables e below (T.setTop g) target) ∨
    (∃ (q : Addr) (vm₁ : Vm) (B : Pt), s.WarmedH vm₁ ∧ Stand p l e R s m args below meth c B.U B.locs B.cells B.slots ∧ PostX ⟨T.setVm vm₁, locs, cells, slots⟩ argsL.toArray q B ∧
      Steps p.tables e below (T.setTop g) ((B.U.setTop { g with stack := rest }).pushFrame (.throwing q))) := by
  obtain ⟨mk, methM, cM, hnamed, hmethM, -, -, -, -, -, -, hsigM⟩ := Cond.codeWith_spec hcode
  have hstatic : methM.isStatic = true := Cond.static_spec hnamed hmethM hstat
  obtain ⟨kP, hkP, -⟩ := className_of_methodNamed hnamed
  have hinitP : kP.init = .initialized := Cond.initialized_spec (findClass_of_methodNamed hnamed) hkP hinit
  obtain ⟨vm₁, X₁, hstep₁⟩ := X.invokestatic hexec hown hlink hnamed hmethM hstatic hkP hinitP hy (g := g) hg (argsL := argsL) (rest := rest) (hlen _ hsigM) hstack hdg
  rcases hK m meth c ⟨T.setVm vm₁, locs, cells, slots⟩ { g with stack := rest } (.invokestatic index) mk argsL.toArray X₁ hg hsize hdg hW (X₁.named hnamed) (hpre vm₁ X₁.warmed) with ⟨v, B, X', hpost, hsteps⟩ | ⟨q, B, X', hpost, hsteps⟩
  · exact Or.inl ⟨v, vm₁, B, X₁.warmed, X', hpost, fun target h => hstep₁ _ fun acts => by rw [doInvoke_state]; exact hsteps.trans h⟩
  · exact Or.inr ⟨q, vm₁, B, X₁.warmed, X', hpost, hstep₁ _ fun acts => by rw [doInvoke_state]; exact hsteps⟩
theorem vx_callVW (X : Stand p l e R s m args below meth c T locs cells slots) (hexec : p.tables.exec = Jvm.exec) {own C : String} {index : Nat} {y : MethodName} {bytes : ByteArray} {maxL : Nat} {ret : Option FieldType} {hh : List (Nat × Nat × Nat × Nat)}
    (hown : s.vm.findClass own = some m.cls) (hlink : (Cond.methodLink own index y).before args s = true) (hinst : (Cond.instanceMethod y).before args s = true) (hsel : (Cond.selects C y y).before args s = true)
    (hcode : (Cond.codeWith y bytes maxL ret hh).before args s = true) (hy : y.cls ≠ "java/lang/invoke/MethodHandle" ∧ y.cls ≠ "java/lang/invoke/VarHandle")
    {W9 : Nat} {Pre : Pt → Array Value → Prop} {Post : Pt → Array Value → Option Value → Pt → Prop} (hK : Back l R p e below s args y 3 W9 Pre Post)
    {b : Addr} {cellB : Cell} (hcell : T.heap[b]? = some cellB) (hobj : cellB.vm.isStatics = false) (hcls : s.vm.findClass C = some cellB.cls)
    {g : JFrame} (hg : g.method = m) (hsize : g.locals.size = c.maxLocals) {argsL rest : List Value} (hlen : ∀ sig, parseMethodDescriptor y.desc = some sig → argsL.length = sig.parameters.length)
    (hstack : g.stack = argsL.reverse ++ .ref b :: rest) (hW : 2 * g.monitorRoom + (rest.map fun v => v.category).sum ≤ W9) (hdg : decode c.code g.pc = .ok (.invokevirtual index, 3))
    (hpre : ∀ vm₁, s.WarmedH vm₁ → Pre ⟨T.setVm vm₁, locs, cells, slots⟩ (Value.ref b :: argsL).toArray) :
    ∃ (v : Option Value) (vm₁ : Vm) (B : Pt), s.WarmedH vm₁ ∧ Stand p l e R s m args below meth c B.U B.locs B.cells B.slots ∧ Post ⟨T.setVm vm₁, locs, cells, slots⟩ (Value.ref b :: argsL).toArray v B ∧
      ∀ target, Steps p.tables e below (B.U.setTop { g with pc := g.pc + 3, stack := v.toList ++ rest }) target → Steps p.tables e below (T.setTop g) target := by
  obtain ⟨mk, methM, hnamed, hmethM, hstM, habM⟩ := Cond.instanceMethod_spec hinst
  obtain ⟨m8, methM', cM, hn8, hmethM', -, -, -, -, -, -, hsigM⟩ := Cond.codeWith_spec hcode
  cases Option.some.inj (hn8.symm.trans hnamed)
  cases hmethM.symm.trans hmethM'
  obtain ⟨c2, r2, m2, q1, q2, q3, q4, kP, hkP, hkPi⟩ := Cond.selects_spec hsel
  cases hcls.symm.trans q1
  cases (State.methodFound?_of_named hnamed hy).symm.trans q2
  cases hnamed.symm.trans q3
  have hselP : selectMethod e.platform s.vm cellB.cls mk = .method mk := by rw [Launch.admits_selectMethod X.admits]; exact q4
  obtain ⟨vm₁, X₁, hstep₁⟩ := X.invokevirtual hexec hown hlink hnamed hmethM hstM hkP hkPi hy (a := b) (cell := cellB) hcell
    (fun z h => by rw [h] at hobj; cases hobj) hselP hmethM habM hkP hkPi (g := g) hg (argsL := argsL) (rest := rest) (hlen _ hsigM) hstack hdg
  obtain ⟨v, B, X', hpost, hsteps⟩ := hK m meth c ⟨T.setVm vm₁, locs, cells, slots⟩ { g with stack := rest } (.invokevirtual index) mk (Value.ref b :: argsL).toArray X₁ hg hsize hdg hW (X₁.named hnamed) (hpre vm₁ X₁.warmed)
  exact ⟨v, vm₁, B, X₁.warmed, X', hpost, fun target h => hstep₁ _ fun acts => by rw [doInvoke_state]; exact hsteps.trans h⟩
abbrev vx_CVW (R : Room) (s : State) (args : Array Value) (own C : String) (index : Nat) (y : MethodName) (bytes : ByteArray) (maxL : Nat) (ret : Option FieldType) (hh : List (Nat × Nat × Nat × Nat)) (ws : List Cond) (rm : Room) (mc ms n : Nat) : Prop :=
  (rm.cells = mc ∧ rm.slots = ms ∧ rm.frames + 1 ≤ R.frames ∧ 8 + (maxL + 11) + rm.locals ≤ R.locals ∧ (∀ w ∈ ws, ∀ (a' : Array Value) (U : State), s.WarmedH U.vm → w.before a' U = true) ∧ Cond.codeWith y bytes maxL ret hh ∈ ws) ∧
  (Cond.codeWith y bytes maxL ret hh).before args s = true ∧ (Cond.initialized y.cls).before args s = true ∧ (y.cls ≠ "java/lang/invoke/MethodHandle" ∧ y.cls ≠ "java/lang/invoke/VarHandle") ∧
  (∀ sig, parseMethodDescriptor y.desc = some sig → n = sig.parameters.length) ∧ (Cond.methodLink own index y).before args s = true ∧ (Cond.instanceMethod y).before args s = true ∧ (Cond.selects C y y).before args s = true
theorem vx_cwVW {own C : String} {index maxL mc ms : Nat} {y : MethodName} {bytes : ByteArray} {ret : Option FieldType} {hh : List (Nat × Nat × Nat × Nat)} {Ts ws ws' : List Cond} {rm : Room} (n : Nat) (ht : ∀ w ∈ Ts, w.before args s = true) (hT : GoodIn Ts (wsV own index C y ws)) (hw : ws = Cond.codeWith y bytes maxL ret hh :: ws') (hrc : rm.cells = mc) (hrs : rm.slots = ms)
    (hd : y.cls = C ∧ y.cls ≠ "java/lang/invoke/MethodHandle" ∧ y.cls ≠ "java/lang/invoke/VarHandle" ∧ (parseMethodDescriptor y.desc).map (fun d => d.parameters.length) = some n) (hR : rm.frames + 1 ≤ R.frames ∧ 8 + (maxL + 11) + rm.locals ≤ R.locals) :
    vx_CVW R s args own C index y bytes maxL ret hh ws rm mc ms n := by
  obtain ⟨hC, hd⟩ := hd
  subst hC
  have ok : ∀ w ∈ wsV own index y.cls y ws, w.before args s = true := fun w h => ht w (hT w h).1
  have hG : GoodIn Ts ws := fun w h => hT w (by unfold wsV; exact List.mem_append_right _ h)
  have hc : Cond.codeWith y bytes maxL ret hh ∈ ws := by rw [hw]; exact List.mem_cons_self
  refine ⟨⟨hrc, hrs, hR.1, hR.2, pay_in ht hG, hc⟩, ht _ (hG _ hc).1, ok _ (by simp [wsV]), ⟨hd.1, hd.2.1⟩, fun sig h => ?_, ok _ (by simp [wsV]), ok _ (by simp [wsV]), ok _ (by simp [wsV])⟩
  have h2 := hd.2.2
  rw [h] at h2
  exact (Option.some.inj h2).symm
theorem vx_runVW {y : MethodName} {bytes cc : ByteArray} {maxL nL mc ms n index : Nat} {ret : Option FieldType} {hh : List (Nat × Nat × Nat × Nat)} {ws : List Cond} {rm : Room} {Pc : Array Value → State → Prop} {Qc : Array Value → State → Outcome → State → Prop} {free : Addr → Prop} {Ts : List Cond} {own C : String} {b : Addr} {As rest : List Value} {g : JFrame}
    (S : CallFix p m c cc nL s args Ts own) (hM : Met l y ws rm Pc Qc mc ms free) (cw : vx_CVW R s args own C index y bytes maxL ret hh ws rm mc ms n) (hp : PreV s H C b Pc As)
    (hg : g.method = m) (hn : As.length = n) (hsize : g.locals.size = nL) (hstack : g.stack = As.reverse ++ .ref b :: rest) (hW : 2 * g.monitorRoom + (rest.map fun v => v.category).sum ≤ 8) (hdg : decode cc g.pc = .ok (.invokevirtual index, 3)) (hf : cells + mc ≤ R.cells ∧ slots + ms ≤ R.slots) :
    va_Run p l e R s m args below meth c H locs cells slots mc ms g rest (Qc (Value.ref b :: As).toArray) free := by
  obtain ⟨⟨hrc, hrs, hfr, hlo, hws, hcw⟩, hcode, hini, hy, hlen, hl, hin, hse⟩ := cw
  have hK : Back l R p e below s args y 3 8 (PreOf R mc ms Pc) (PostOf Qc mc ms free) := va_backW (hh := hh) (bytes := bytes) (maxL := maxL) (ret := ret) hM hp.1 hrc hrs hfr hlo hws hcw (fun a' U hW => word_at hW (Or.inl (by first | rfl | simp [Cond.onTables, Cond.keeps, Cond.steady])) hini)
  obtain ⟨hx, hb, hml, ho, -⟩ := S
  obtain ⟨-, ⟨cellB, hcB, hoB, hclB⟩, hPc⟩ := hp
  intro T hT X
  obtain ⟨v, vm₁, ⟨U', l2, c2, s2⟩, hW₁, X', ⟨g', mk, t, L, e1, e2, hq, h1, hL, h2, h3⟩, st⟩ := vx_callVW X hx (C := C) (hh := hh) (bytes := bytes) (maxL := maxL) (ret := ret) ho hl hin hse hcode hy hK (by rw [hT]; exact hcB) hoB hclB hg (hsize.trans hml.symm) (argsL := As) (rest := rest) (fun sig h => hn.trans (hlen sig h)) hstack hW (by rw [hb]; exact hdg)
    (fun vm₁ hW₁ => ⟨hf.1, hf.2, hPc (T.setVm vm₁) hT hW₁⟩)
  dsimp only [Pt.U, Pt.locs, Pt.cells, Pt.slots] at X' e1 e2 h1 h2 h3 st
  subst h1; subst h2; subst h3
  exact ⟨v, (T.setVm vm₁).calling g' mk (Value.ref b :: As).toArray, t, U', L, hT, X', hL, e1, e2, hq, st⟩
section
variable {y : MethodName} {bytes cc : ByteArray} {maxL nL mc ms n index : Nat} {ret : Option FieldType} {ws : List Cond} {rm : Room} {Pc : Array Value → State → Prop} {Qc : Array Value → State → Outcome → State → Prop} {XC : String → State → State → Prop} {free : Addr → Prop} {Ts : List Cond} {own C : String} {b : Addr} {As rest : List Value} {g : JFrame}
theorem vx_runVX {hh : List (Nat × Nat × Nat × Nat)} (S : CallFix p m c cc nL s args Ts own) (hM : vx_Met l y ws rm Pc Qc XC mc ms free) (cw : vx_CVW R s args own C index y bytes maxL ret hh ws rm mc ms n) (hp : PreV s H C b Pc As)
    (hg : g.method = m) (hn : As.length = n) (hsize : g.locals.size = nL) (hstack : g.stack = As.reverse ++ .ref b :: rest) (hW : 2 * g.monitorRoom + (rest.map fun v => v.category).sum ≤ 8) (hdg : decode cc g.pc = .ok (.invokevirtual index, 3)) (hf : cells + mc ≤ R.cells ∧ slots + ms ≤ R.slots) :
    vx_Run p l e R s m args below meth c H locs cells slots mc ms g rest (Qc (Value.ref b :: As).toArray) XC free := by
  obtain ⟨⟨hrc, hrs, hfr, hlo, hws, hcw⟩, hcode, hini, hy, hlen, hl, hin, hse⟩ := cw
  have hK : vx_Back l R p e below s args y 3 8 (PreOf R mc ms Pc) (PostOf Qc mc ms free) (vx_Post XC mc ms free) := vx_backW (hh := hh) (bytes := bytes) (maxL := maxL) (ret := ret) hM hp.1 hrc hrs hfr hlo hws hcw (fun a' U hW => word_at hW (Or.inl (by first | rfl | simp [Cond.onTables, Cond.keeps, Cond.steady])) hini)
  obtain ⟨hx, hb, hml, ho, -⟩ := S
  obtain ⟨-, ⟨cellB, hcB, hoB, hclB⟩, hPc⟩ := hp
  intro T hT X
  rcases vx_callVX X hx (C := C) (hh := hh) (bytes := bytes) (maxL := maxL) (ret := ret) ho hl hin hse hcode hy hK (by rw [hT]; exact hcB) hoB hclB hg (hsize.trans hml.symm) (argsL := As) (rest := rest) (fun sig h => hn.trans (hlen sig h)) hstack hW (by rw [hb]; exact hdg)
    (fun vm₁ hW₁ => ⟨hf.1, hf.2, hPc (T.setVm vm₁) hT hW₁⟩) with ⟨v, vm₁, ⟨U', l2, c2, s2⟩, hW₁, X', ⟨g', mk, t, L, e1, e2, hq, h1, hL, h2, h3⟩, st⟩ | ⟨q, vm₁, ⟨U', l2, c2, s2⟩, hW₁, X', ⟨g', mk, t, L, E, ce, e1, e2, hq, hce, hcv, hcl, h1, hL, h2, h3⟩, st⟩
  · dsimp only [Pt.U, Pt.locs, Pt.cells, Pt.slots] at X' e1 e2 h1 h2 h3 st
    subst h1; subst h2; subst h3
    exact Or.inl ⟨v, (T.setVm vm₁).calling g' mk (Value.ref b :: As).toArray, t, U', L, hT, X', hL, e1, e2, hq, st⟩
  · dsimp only [Pt.U, Pt.locs, Pt.cells, Pt.slots] at X' e1 e2 h1 h2 h3 st hcl
    subst h1; subst h2; subst h3
    exact Or.inr ⟨q, (T.setVm vm₁).calling g' mk (Value.ref b :: As).toArray, t, U', L, E, ce, hT, X', hL, e1, e2, hq, hce, hcv, vx_cls hW₁ hcl, st⟩
theorem vx_runSX {hh : List (Nat × Nat × Nat × Nat)} (S : CallFix p m c cc nL s args Ts own) (hM : vx_Met l y ws rm Pc Qc XC mc ms free) (cw : vx_CSW R s args own index y bytes maxL ret hh ws rm mc ms n) (hp : PreS s H Pc As)
    (hg : g.method = m) (hn : As.length = n) (hsize : g.locals.size = nL) (hstack : g.stack = As.reverse ++ rest) (hW : 2 * g.monitorRoom + (rest.map fun v => v.category).sum ≤ 8) (hdg : decode cc g.pc = .ok (.invokestatic index, 3)) (hf : cells + mc ≤ R.cells ∧ slots + ms ≤ R.slots) :
    vx_Run p l e R s m args below meth c H locs cells slots mc ms g rest (Qc As.toArray) XC free := by
  obtain ⟨⟨hrc, hrs, hfr, hlo, hws, hcw⟩, hcode, hini, hy, hlen, hl, hstt⟩ := cw
  have hK : vx_Back l R p e below s args y 3 8 (PreOf R mc ms Pc) (PostOf Qc mc ms free) (vx_Post XC mc ms free) := vx_backW (hh := hh) (bytes := bytes) (maxL := maxL) (ret := ret) hM hp.1 hrc hrs hfr hlo hws hcw (fun a' U hW => word_at hW (Or.inl (by first | rfl | simp [Cond.onTables, Cond.keeps, Cond.steady])) hini)
  obtain ⟨hx, hb, hml, ho, -⟩ := S
  intro T hT X
  rcases vx_callSX X hx (hh := hh) (bytes := bytes) (maxL := maxL) (ret := ret) ho hl hstt hini hcode hy hK hg (hsize.trans hml.symm) (argsL := As) (rest := rest) (fun sig h => hn.trans (hlen sig h)) hstack hW (by rw [hb]; exact hdg)
    (fun vm₁ hW₁ => ⟨hf.1, hf.2, hp.2 (T.setVm vm₁) hT hW₁⟩) with ⟨v, vm₁, ⟨U', l2, c2, s2⟩, hW₁, X', ⟨g', mk, t, L, e1, e2, hq, h1, hL, h2, h3⟩, st⟩ | ⟨q, vm₁, ⟨U', l2, c2, s2⟩, hW₁, X', ⟨g', mk, t, L, E, ce, e1, e2, hq, hce, hcv, hcl, h1, hL, h2, h3⟩, st⟩
  · dsimp only [Pt.U, Pt.locs, Pt.cells, Pt.slots] at X' e1 e2 h1 h2 h3 st
    subst h1; subst h2; subst h3
    exact Or.inl ⟨v, (T.setVm vm₁).calling g' mk As.toArray, t, U', L, hT, X', hL, e1, e2, hq, st⟩
  · dsimp only [Pt.U, Pt.locs, Pt.cells, Pt.slots] at X' e1 e2 h1 h2 h3 st hcl
    subst h1; subst h2; subst h3
    exact Or.inr ⟨q, (T.setVm vm₁).calling g' mk As.toArray, t, U', L, E, ce, hT, X', hL, e1, e2, hq, hce, hcv, vx_cls hW₁ hcl, st⟩
end
end VXH
theorem vx_ofWH {l : Launch} {y : MethodName} {ws ws' : List Cond} {rm : Room} {Pc : Array Value → State → Prop} {Qc : Array Value → State → Outcome → State → Prop} {XC : String → State → State → Prop} {mc ms : Nat} {free : Addr → Prop} {cc : ByteArray} {maxL : Nat} {ret : Option FieldType} {hh : List (Nat × Nat × Nat × Nat)}
    (hy : plainName y.cls = true) (hw : ws = Cond.codeWith y cc maxL ret hh :: ws')
    (body : ∀ p e s m args below meth c s₁, BodyLoose p l y (headSpec ws rm) cc maxL ret e s m args below meth c s₁ → c.maxLocals = maxL → Pc args s →
      W p l e (headSpec ws rm).room s m args below meth c s.heap [] 0 0 (vx_MQ below Qc XC args s mc ms free) (entryFrame m args maxL)) : vx_Met l y ws rm Pc Qc XC mc ms free := by
  refine MetFree.of_bodyS (code := cc) (maxLocals := maxL) (ret := ret) hy ?_ ?_
  · intro args s m h hn
    obtain ⟨m9, meth, c, hn9, h1, h2, h3, h4, -, h5, h6, -⟩ := Cond.codeWith_spec (atoms_spec (ws := ws) h _ (by rw [hw]; exact List.mem_cons_self))
    cases hn.symm.trans hn9
    exact ⟨meth, c, h1, h2, h3, h4, h5, h6⟩
  · intro p e s m args below meth c s₁ B hml hP _
    have hh0 : s₁.heap = s.heap := by rw [B.state]; rfl
    obtain ⟨t, a1, o, b1, b2, b3⟩ := body p e s m args below meth c s₁ B hml hP s₁ hh0 (Stand.of_body B)
    exact ⟨t, o, a1, b1, b2, b3⟩
/-! ===== END ===== -/
end
section
/-! ===== BEGIN printed: names, fields, word lists, decode rows ===== -/
def RX0 : String := "ChecksumLab$Model"
def TX0 : u_T := fun k => match k with
  | 0 => ("ChecksumLab$Model", "width", "I", true)
  | 1 => ("ChecksumLab$Model", "poly", "I", true)
  | 2 => ("ChecksumLab$Model", "init", "I", true)
  | 3 => ("ChecksumLab$Model", "reflectIn", "Z", true)
  | 4 => ("ChecksumLab$Model", "reflectOut", "Z", true)
  | 5 => ("ChecksumLab$Model", "xorOut", "I", true)
  | 6 => ("ChecksumLab$Model", "mask", "I", true)
  | _ => ("ChecksumLab$Model", "highest", "I", true)
def tyX0 : Nat → FieldType := fun k => match k with
  | 0 => .int
  | 1 => .int
  | 2 => .int
  | 3 => .boolean
  | 4 => .boolean
  | 5 => .int
  | 6 => .int
  | _ => .int
abbrev wsX00 : List Cond := u_ws RX0 TX0 8
theorem nmX0 : ∀ a, a < 8 → ∀ b, b < 8 → a ≠ b → (TX0 a).2.1 ≠ (TX0 b).2.1 := by decide +kernel
theorem tyX0_ok : ∀ k, k < 8 → parseFieldDescriptor (TX0 k).2.2.1 = some (tyX0 k) := by decide +kernel
abbrev cX0_init : ByteArray := prog_2_method_1_code
def yX0_init : MethodName := ⟨RX0, "<init>", "(IIIZZI)V"⟩
abbrev cX0_timesX : ByteArray := prog_2_method_2_code
def yX0_timesX : MethodName := ⟨RX0, "timesX", "(I)I"⟩
abbrev cX0_product : ByteArray := prog_2_method_3_code
def yX0_product : MethodName := ⟨RX0, "product", "(II)I"⟩
abbrev cX0_powerOfX : ByteArray := prog_2_method_4_code
def yX0_powerOfX : MethodName := ⟨RX0, "powerOfX", "(J)I"⟩
abbrev cX0_takeBit : ByteArray := prog_2_method_5_code
def yX0_takeBit : MethodName := ⟨RX0, "takeBit", "(II)I"⟩
abbrev cX0_takeByte : ByteArray := prog_2_method_6_code
def yX0_takeByte : MethodName := ⟨RX0, "takeByte", "(II)I"⟩
abbrev cX0_divideByte : ByteArray := prog_2_method_7_code
def yX0_divideByte : MethodName := ⟨RX0, "divideByte", "(II)I"⟩
abbrev cX0_inTakenOrder : ByteArray := prog_2_method_8_code
def yX0_inTakenOrder : MethodName := ⟨RX0, "inTakenOrder", "(I)I"⟩
abbrev cX0_inSumOrder : ByteArray := prog_2_method_9_code
def yX0_inSumOrder : MethodName := ⟨RX0, "inSumOrder", "(I)I"⟩
abbrev cX0_sumOfRegister : ByteArray := prog_2_method_10_code
def yX0_sumOfRegister : MethodName := ⟨RX0, "sumOfRegister", "(I)I"⟩
abbrev cX0_registerOfSum : ByteArray := prog_2_method_11_code
def yX0_registerOfSum : MethodName := ⟨RX0, "registerOfSum", "(I)I"⟩
def RX1 : String := "ChecksumLab"
def TX1 : u_T := fun k => match k with
  | 0 => ("ChecksumLab", "defined", "[LChecksumLab$Model;", true)
  | 1 => ("ChecksumLab", "definedCount", "I", false)
  | 2 => ("ChecksumLab", "rows", "[[I", true)
  | _ => ("ChecksumLab", "sizes", "[I", true)
def tyX1 : Nat → FieldType := fun k => match k with
  | 0 => .array (.object "ChecksumLab$Model")
  | 1 => .int
  | 2 => .array (.array .int)
  | _ => .array .int
abbrev wsX10 : List Cond := u_ws RX1 TX1 4
theorem nmX1 : ∀ a, a < 4 → ∀ b, b < 4 → a ≠ b → (TX1 a).2.1 ≠ (TX1 b).2.1 := by decide +kernel
theorem tyX1_ok : ∀ k, k < 4 → parseFieldDescriptor (TX1 k).2.2.1 = some (tyX1 k) := by decide +kernel
abbrev cX1_init : ByteArray := prog_1_method_1_code
def yX1_init : MethodName := ⟨RX1, "<init>", "()V"⟩
abbrev cX1_define : ByteArray := prog_1_method_2_code
def yX1_define : MethodName := ⟨RX1, "define", "(IIIZZI)I"⟩
abbrev cX1_models : ByteArray := prog_1_method_3_code
def yX1_models : MethodName := ⟨RX1, "models", "()I"⟩
abbrev cX1_check : ByteArray := prog_1_method_4_code
def yX1_check : MethodName := ⟨RX1, "check", "(I)I"⟩
abbrev cX1_multiply : ByteArray := prog_1_method_5_code
def yX1_multiply : MethodName := ⟨RX1, "multiply", "(III)I"⟩
abbrev cX1_power : ByteArray := prog_1_method_6_code
def yX1_power : MethodName := ⟨RX1, "power", "(IJ)I"⟩
abbrev cX1_period : ByteArray := prog_1_method_7_code
def yX1_period : MethodName := ⟨RX1, "period", "(II)I"⟩
abbrev cX1_append : ByteArray := prog_1_method_8_code
def yX1_append : MethodName := ⟨RX1, "append", "(II)I"⟩
abbrev cX1_appendSeries : ByteArray := prog_1_method_9_code
def yX1_appendSeries : MethodName := ⟨RX1, "appendSeries", "(IIII)I"⟩
abbrev cX1_appendRow : ByteArray := prog_1_method_10_code
def yX1_appendRow : MethodName := ⟨RX1, "appendRow", "(II)I"⟩
abbrev cX1_setByte : ByteArray := prog_1_method_11_code
def yX1_setByte : MethodName := ⟨RX1, "setByte", "(III)I"⟩
abbrev cX1_truncate : ByteArray := prog_1_method_12_code
def yX1_truncate : MethodName := ⟨RX1, "truncate", "(II)I"⟩
abbrev cX1_length : ByteArray := prog_1_method_13_code
def yX1_length : MethodName := ⟨RX1, "length", "(I)I"⟩
abbrev cX1_byteAt : ByteArray := prog_1_method_14_code
def yX1_byteAt : MethodName := ⟨RX1, "byteAt", "(II)I"⟩
abbrev cX1_sum : ByteArray := prog_1_method_15_code
def yX1_sum : MethodName := ⟨RX1, "sum", "(II)I"⟩
abbrev cX1_sumOfPart : ByteArray := prog_1_method_16_code
def yX1_sumOfPart : MethodName := ⟨RX1, "sumOfPart", "(IIII)I"⟩
abbrev cX1_remainder : ByteArray := prog_1_method_17_code
def yX1_remainder : MethodName := ⟨RX1, "remainder", "(II)I"⟩
abbrev cX1_joined : ByteArray := prog_1_method_18_code
def yX1_joined : MethodName := ⟨RX1, "joined", "(IIII)I"⟩
abbrev cX1_patched : ByteArray := prog_1_method_19_code
def yX1_patched : MethodName := ⟨RX1, "patched", "(IIII)I"⟩
abbrev cX1_wrongBit : ByteArray := prog_1_method_20_code
def yX1_wrongBit : MethodName := ⟨RX1, "wrongBit", "(III)I"⟩
abbrev cX1_fletcher : ByteArray := prog_1_method_21_code
def yX1_fletcher : MethodName := ⟨RX1, "fletcher", "(I)I"⟩
abbrev cX1_fletcherJoined : ByteArray := prog_1_method_22_code
def yX1_fletcherJoined : MethodName := ⟨RX1, "fletcherJoined", "(III)I"⟩
abbrev cX1_adler : ByteArray := prog_1_method_23_code
def yX1_adler : MethodName := ⟨RX1, "adler", "(I)I"⟩
abbrev cX1_adlerJoined : ByteArray := prog_1_method_24_code
def yX1_adlerJoined : MethodName := ⟨RX1, "adlerJoined", "(III)I"⟩
abbrev cX1_adlerRolled : ByteArray := prog_1_method_25_code
def yX1_adlerRolled : MethodName := ⟨RX1, "adlerRolled", "(IIII)I"⟩
abbrev cX1_findModel : ByteArray := prog_1_method_26_code
def yX1_findModel : MethodName := ⟨RX1, "findModel", "(I)LChecksumLab$Model;"⟩
abbrev cX1_partSum : ByteArray := prog_1_method_27_code
def yX1_partSum : MethodName := ⟨RX1, "partSum", "(LChecksumLab$Model;III)I"⟩
abbrev cX1_requireRow : ByteArray := prog_1_method_28_code
def yX1_requireRow : MethodName := ⟨RX1, "requireRow", "(I)V"⟩
abbrev cX1_requireIndex : ByteArray := prog_1_method_29_code
def yX1_requireIndex : MethodName := ⟨RX1, "requireIndex", "(II)V"⟩
abbrev cX1_requireRoom : ByteArray := prog_1_method_30_code
def yX1_requireRoom : MethodName := ⟨RX1, "requireRoom", "(II)V"⟩
abbrev cX1_requireByte : ByteArray := prog_1_method_31_code
def yX1_requireByte : MethodName := ⟨RX1, "requireByte", "(I)V"⟩
abbrev cX1_requireLength : ByteArray := prog_1_method_32_code
def yX1_requireLength : MethodName := ⟨RX1, "requireLength", "(I)V"⟩
abbrev cX1_requireNumber : ByteArray := prog_1_method_33_code
def yX1_requireNumber : MethodName := ⟨RX1, "requireNumber", "(II)V"⟩
abbrev cX1_requireFletcher : ByteArray := prog_1_method_34_code
def yX1_requireFletcher : MethodName := ⟨RX1, "requireFletcher", "(I)V"⟩
abbrev cX1_requireAdler : ByteArray := prog_1_method_35_code
def yX1_requireAdler : MethodName := ⟨RX1, "requireAdler", "(I)V"⟩
abbrev cX1_adlerA : ByteArray := prog_1_method_36_code
def yX1_adlerA : MethodName := ⟨RX1, "adlerA", "(I)I"⟩
abbrev cX1_adlerB : ByteArray := prog_1_method_37_code
def yX1_adlerB : MethodName := ⟨RX1, "adlerB", "(I)I"⟩
abbrev cX1_adlerSum : ByteArray := prog_1_method_38_code
def yX1_adlerSum : MethodName := ⟨RX1, "adlerSum", "(JJ)I"⟩
abbrev cX1_reversed : ByteArray := prog_1_method_39_code
def yX1_reversed : MethodName := ⟨RX1, "reversed", "(II)I"⟩
def RX2 : String := "ChecksumLabModel"
def TX2 : u_T := fun k => match k with
  | 0 => ("ChecksumLabModel", "width", "[I", true)
  | 1 => ("ChecksumLabModel", "poly", "[I", true)
  | 2 => ("ChecksumLabModel", "init", "[I", true)
  | 3 => ("ChecksumLabModel", "xorOut", "[I", true)
  | 4 => ("ChecksumLabModel", "reflectIn", "[Z", true)
  | 5 => ("ChecksumLabModel", "reflectOut", "[Z", true)
  | 6 => ("ChecksumLabModel", "models", "I", false)
  | 7 => ("ChecksumLabModel", "bytes", "[I", true)
  | 8 => ("ChecksumLabModel", "length", "[I", true)
  | _ => ("ChecksumLabModel", "thrown", "I", false)
def tyX2 : Nat → FieldType := fun k => match k with
  | 0 => .array .int
  | 1 => .array .int
  | 2 => .array .int
  | 3 => .array .int
  | 4 => .array .boolean
  | 5 => .array .boolean
  | 6 => .int
  | 7 => .array .int
  | 8 => .array .int
  | _ => .int
abbrev wsX20 : List Cond := u_ws RX2 TX2 10
theorem nmX2 : ∀ a, a < 10 → ∀ b, b < 10 → a ≠ b → (TX2 a).2.1 ≠ (TX2 b).2.1 := by decide +kernel
theorem tyX2_ok : ∀ k, k < 10 → parseFieldDescriptor (TX2 k).2.2.1 = some (tyX2 k) := by decide +kernel
abbrev cX2_init : ByteArray := prog_4_method_1_code
def yX2_init : MethodName := ⟨RX2, "<init>", "()V"⟩
abbrev cX2_thrown : ByteArray := prog_4_method_2_code
def yX2_thrown : MethodName := ⟨RX2, "thrown", "()I"⟩
abbrev cX2_in : ByteArray := prog_4_method_3_code
def yX2_in : MethodName := ⟨RX2, "in", "(III)Z"⟩
abbrev cX2_isModel : ByteArray := prog_4_method_4_code
def yX2_isModel : MethodName := ⟨RX2, "isModel", "(I)Z"⟩
abbrev cX2_isRow : ByteArray := prog_4_method_5_code
def yX2_isRow : MethodName := ⟨RX2, "isRow", "(I)Z"⟩
abbrev cX2_isByte : ByteArray := prog_4_method_6_code
def yX2_isByte : MethodName := ⟨RX2, "isByte", "(I)Z"⟩
abbrev cX2_hasBits : ByteArray := prog_4_method_7_code
def yX2_hasBits : MethodName := ⟨RX2, "hasBits", "(II)Z"⟩
abbrev cX2_isNumber : ByteArray := prog_4_method_8_code
def yX2_isNumber : MethodName := ⟨RX2, "isNumber", "(II)Z"⟩
abbrev cX2_asked : ByteArray := prog_4_method_9_code
def yX2_asked : MethodName := ⟨RX2, "asked", "(Z)Z"⟩
abbrev cX2_asked_ : ByteArray := prog_4_method_10_code
def yX2_asked_ : MethodName := ⟨RX2, "asked", "(ZZ)Z"⟩
abbrev cX2_timesX : ByteArray := prog_4_method_11_code
def yX2_timesX : MethodName := ⟨RX2, "timesX", "(II)I"⟩
abbrev cX2_times : ByteArray := prog_4_method_12_code
def yX2_times : MethodName := ⟨RX2, "times", "(IIII)I"⟩
abbrev cX2_powerOf : ByteArray := prog_4_method_13_code
def yX2_powerOf : MethodName := ⟨RX2, "powerOf", "(IJ)I"⟩
abbrev cX2_reversed : ByteArray := prog_4_method_14_code
def yX2_reversed : MethodName := ⟨RX2, "reversed", "(II)I"⟩
abbrev cX2_registerOf : ByteArray := prog_4_method_15_code
def yX2_registerOf : MethodName := ⟨RX2, "registerOf", "(II)I"⟩
abbrev cX2_sumOf : ByteArray := prog_4_method_16_code
def yX2_sumOf : MethodName := ⟨RX2, "sumOf", "(II)I"⟩
abbrev cX2_takes : ByteArray := prog_4_method_17_code
def yX2_takes : MethodName := ⟨RX2, "takes", "(III)I"⟩
abbrev cX2_define : ByteArray := prog_4_method_18_code
def yX2_define : MethodName := ⟨RX2, "define", "(IIIZZI)I"⟩
abbrev cX2_models : ByteArray := prog_4_method_19_code
def yX2_models : MethodName := ⟨RX2, "models", "()I"⟩
abbrev cX2_check : ByteArray := prog_4_method_20_code
def yX2_check : MethodName := ⟨RX2, "check", "(I)I"⟩
abbrev cX2_multiply : ByteArray := prog_4_method_21_code
def yX2_multiply : MethodName := ⟨RX2, "multiply", "(III)I"⟩
abbrev cX2_power : ByteArray := prog_4_method_22_code
def yX2_power : MethodName := ⟨RX2, "power", "(IJ)I"⟩
abbrev cX2_period : ByteArray := prog_4_method_23_code
def yX2_period : MethodName := ⟨RX2, "period", "(II)I"⟩
abbrev cX2_puts : ByteArray := prog_4_method_24_code
def yX2_puts : MethodName := ⟨RX2, "puts", "(II)V"⟩
abbrev cX2_append : ByteArray := prog_4_method_25_code
def yX2_append : MethodName := ⟨RX2, "append", "(II)I"⟩
abbrev cX2_appendSeries : ByteArray := prog_4_method_26_code
def yX2_appendSeries : MethodName := ⟨RX2, "appendSeries", "(IIII)I"⟩
abbrev cX2_appendRow : ByteArray := prog_4_method_27_code
def yX2_appendRow : MethodName := ⟨RX2, "appendRow", "(II)I"⟩
abbrev cX2_isPlace : ByteArray := prog_4_method_28_code
def yX2_isPlace : MethodName := ⟨RX2, "isPlace", "(II)Z"⟩
abbrev cX2_setByte : ByteArray := prog_4_method_29_code
def yX2_setByte : MethodName := ⟨RX2, "setByte", "(III)I"⟩
abbrev cX2_truncate : ByteArray := prog_4_method_30_code
def yX2_truncate : MethodName := ⟨RX2, "truncate", "(II)I"⟩
abbrev cX2_length : ByteArray := prog_4_method_31_code
def yX2_length : MethodName := ⟨RX2, "length", "(I)I"⟩
abbrev cX2_byteAt : ByteArray := prog_4_method_32_code
def yX2_byteAt : MethodName := ⟨RX2, "byteAt", "(II)I"⟩
abbrev cX2_part : ByteArray := prog_4_method_33_code
def yX2_part : MethodName := ⟨RX2, "part", "(IIII)I"⟩
abbrev cX2_sum : ByteArray := prog_4_method_34_code
def yX2_sum : MethodName := ⟨RX2, "sum", "(II)I"⟩
abbrev cX2_sumOfPart : ByteArray := prog_4_method_35_code
def yX2_sumOfPart : MethodName := ⟨RX2, "sumOfPart", "(IIII)I"⟩
abbrev cX2_remainder : ByteArray := prog_4_method_36_code
def yX2_remainder : MethodName := ⟨RX2, "remainder", "(II)I"⟩
abbrev cX2_joined : ByteArray := prog_4_method_37_code
def yX2_joined : MethodName := ⟨RX2, "joined", "(IIII)I"⟩
abbrev cX2_patched : ByteArray := prog_4_method_38_code
def yX2_patched : MethodName := ⟨RX2, "patched", "(IIII)I"⟩
abbrev cX2_wrongBit : ByteArray := prog_4_method_39_code
def yX2_wrongBit : MethodName := ⟨RX2, "wrongBit", "(III)I"⟩
abbrev cX2_fletcher : ByteArray := prog_4_method_40_code
def yX2_fletcher : MethodName := ⟨RX2, "fletcher", "(I)I"⟩
abbrev cX2_isFletcher : ByteArray := prog_4_method_41_code
def yX2_isFletcher : MethodName := ⟨RX2, "isFletcher", "(I)Z"⟩
abbrev cX2_fletcherJoined : ByteArray := prog_4_method_42_code
def yX2_fletcherJoined : MethodName := ⟨RX2, "fletcherJoined", "(III)I"⟩
abbrev cX2_adler : ByteArray := prog_4_method_43_code
def yX2_adler : MethodName := ⟨RX2, "adler", "(I)I"⟩
abbrev cX2_low : ByteArray := prog_4_method_44_code
def yX2_low : MethodName := ⟨RX2, "low", "(I)I"⟩
abbrev cX2_high : ByteArray := prog_4_method_45_code
def yX2_high : MethodName := ⟨RX2, "high", "(I)I"⟩
abbrev cX2_isAdler : ByteArray := prog_4_method_46_code
def yX2_isAdler : MethodName := ⟨RX2, "isAdler", "(I)Z"⟩
abbrev cX2_reduced : ByteArray := prog_4_method_47_code
def yX2_reduced : MethodName := ⟨RX2, "reduced", "(J)I"⟩
abbrev cX2_adlerOf : ByteArray := prog_4_method_48_code
def yX2_adlerOf : MethodName := ⟨RX2, "adlerOf", "(JJ)I"⟩
abbrev cX2_adlerJoined : ByteArray := prog_4_method_49_code
def yX2_adlerJoined : MethodName := ⟨RX2, "adlerJoined", "(III)I"⟩
abbrev cX2_adlerRolled : ByteArray := prog_4_method_50_code
def yX2_adlerRolled : MethodName := ⟨RX2, "adlerRolled", "(IIII)I"⟩
def RJ9 : String := "java/lang/Math"
def TJ9 : u_T := fun k => match k with
  | _ => ("", "", "", false)
def tyJ9 : Nat → FieldType := fun k => match k with
  | _ => .int
abbrev wsJ90 : List Cond := u_ws RJ9 TJ9 0
theorem nmJ9 : ∀ a, a < 0 → ∀ b, b < 0 → a ≠ b → (TJ9 a).2.1 ≠ (TJ9 b).2.1 := by decide +kernel
theorem tyJ9_ok : ∀ k, k < 0 → parseFieldDescriptor (TJ9 k).2.2.1 = some (tyJ9 k) := by decide +kernel
abbrev cJ9_floorMod_f86c9 : ByteArray := prog_9_method_52_code
def yJ9_floorMod_f86c9 : MethodName := ⟨RJ9, "floorMod", "(JJ)J"⟩
def RJ0 : String := "java/lang/String"
def TJ0 : u_T := fun k => match k with
  | _ => ("", "", "", false)
def tyJ0 : Nat → FieldType := fun k => match k with
  | _ => .int
abbrev wsJ00 : List Cond := u_ws RJ0 TJ0 0
theorem nmJ0 : ∀ a, a < 0 → ∀ b, b < 0 → a ≠ b → (TJ0 a).2.1 ≠ (TJ0 b).2.1 := by decide +kernel
theorem tyJ0_ok : ∀ k, k < 0 → parseFieldDescriptor (TJ0 k).2.2.1 = some (tyJ0 k) := by decide +kernel
def RL : String := "ChecksumLabLaw"
abbrev cL_define : ByteArray := method_3_code
def yL_define : MethodName := ⟨RL, "define", "(LChecksumLab;IIIZZI[J)I"⟩
abbrev cL_check : ByteArray := method_4_code
def yL_check : MethodName := ⟨RL, "check", "(LChecksumLab;I[J)I"⟩
abbrev cL_multiply : ByteArray := method_5_code
def yL_multiply : MethodName := ⟨RL, "multiply", "(LChecksumLab;III[J)I"⟩
abbrev cL_power : ByteArray := method_6_code
def yL_power : MethodName := ⟨RL, "power", "(LChecksumLab;IJ[J)I"⟩
abbrev cL_period : ByteArray := method_7_code
def yL_period : MethodName := ⟨RL, "period", "(LChecksumLab;II[J)I"⟩
abbrev cL_append : ByteArray := method_8_code
def yL_append : MethodName := ⟨RL, "append", "(LChecksumLab;II[J)I"⟩
abbrev cL_appendSeries : ByteArray := method_9_code
def yL_appendSeries : MethodName := ⟨RL, "appendSeries", "(LChecksumLab;IIII[J)I"⟩
abbrev cL_appendRow : ByteArray := method_10_code
def yL_appendRow : MethodName := ⟨RL, "appendRow", "(LChecksumLab;II[J)I"⟩
abbrev cL_setByte : ByteArray := method_11_code
def yL_setByte : MethodName := ⟨RL, "setByte", "(LChecksumLab;III[J)I"⟩
abbrev cL_truncate : ByteArray := method_12_code
def yL_truncate : MethodName := ⟨RL, "truncate", "(LChecksumLab;II[J)I"⟩
abbrev cL_length : ByteArray := method_13_code
def yL_length : MethodName := ⟨RL, "length", "(LChecksumLab;I[J)I"⟩
abbrev cL_byteAt : ByteArray := method_14_code
def yL_byteAt : MethodName := ⟨RL, "byteAt", "(LChecksumLab;II[J)I"⟩
abbrev cL_sum : ByteArray := method_15_code
def yL_sum : MethodName := ⟨RL, "sum", "(LChecksumLab;II[J)I"⟩
abbrev cL_sumOfPart : ByteArray := method_16_code
def yL_sumOfPart : MethodName := ⟨RL, "sumOfPart", "(LChecksumLab;IIII[J)I"⟩
abbrev cL_remainder : ByteArray := method_17_code
def yL_remainder : MethodName := ⟨RL, "remainder", "(LChecksumLab;II[J)I"⟩
abbrev cL_joined : ByteArray := method_18_code
def yL_joined : MethodName := ⟨RL, "joined", "(LChecksumLab;IIII[J)I"⟩
abbrev cL_patched : ByteArray := method_19_code
def yL_patched : MethodName := ⟨RL, "patched", "(LChecksumLab;IIII[J)I"⟩
abbrev cL_wrongBit : ByteArray := method_20_code
def yL_wrongBit : MethodName := ⟨RL, "wrongBit", "(LChecksumLab;III[J)I"⟩
abbrev cL_fletcher : ByteArray := method_21_code
def yL_fletcher : MethodName := ⟨RL, "fletcher", "(LChecksumLab;I[J)I"⟩
abbrev cL_fletcherJoined : ByteArray := method_22_code
def yL_fletcherJoined : MethodName := ⟨RL, "fletcherJoined", "(LChecksumLab;III[J)I"⟩
abbrev cL_adler : ByteArray := method_23_code
def yL_adler : MethodName := ⟨RL, "adler", "(LChecksumLab;I[J)I"⟩
abbrev cL_adlerJoined : ByteArray := method_24_code
def yL_adlerJoined : MethodName := ⟨RL, "adlerJoined", "(LChecksumLab;III[J)I"⟩
abbrev cL_adlerRolled : ByteArray := method_25_code
def yL_adlerRolled : MethodName := ⟨RL, "adlerRolled", "(LChecksumLab;IIII[J)I"⟩
abbrev cL_law : ByteArray := code
def yL_law : MethodName := ⟨RL, "law", "([I)Z"⟩
def wsX0_init : List Cond := .code yX0_init cX0_init 7 none :: ([.methodLink RX0 3 objectInit, .instanceMethod objectInit, .code objectInit ⟨#[0xb1]⟩ 1 none, .fieldLink RX0 9 "ChecksumLab$Model" "width" "I", .fieldLink RX0 15 "ChecksumLab$Model" "poly" "I", .fieldLink RX0 18 "ChecksumLab$Model" "init" "I", .fieldLink RX0 21 "ChecksumLab$Model" "reflectIn" "Z", .fieldLink RX0 25 "ChecksumLab$Model" "reflectOut" "Z", .fieldLink RX0 28 "ChecksumLab$Model" "xorOut" "I", .fieldLink RX0 31 "ChecksumLab$Model" "mask" "I", .fieldLink RX0 34 "ChecksumLab$Model" "highest" "I"] ++ wsX00)
def wsX0_timesX : List Cond := .code yX0_timesX cX0_timesX 3 (some .int) :: ([.fieldLink RX0 31 "ChecksumLab$Model" "mask" "I", .fieldLink RX0 34 "ChecksumLab$Model" "highest" "I", .fieldLink RX0 15 "ChecksumLab$Model" "poly" "I"] ++ wsX00)
def wsX0_product : List Cond := .code yX0_product cX0_product 5 (some .int) :: ([.fieldLink RX0 9 "ChecksumLab$Model" "width" "I", .methodLink RX0 37 yX0_timesX, .instanceMethod yX0_timesX, .selects RX0 yX0_timesX yX0_timesX, .initialized RX0, .code yX0_timesX cX0_timesX 3 (some .int), .fieldLink RX0 31 "ChecksumLab$Model" "mask" "I", .fieldLink RX0 34 "ChecksumLab$Model" "highest" "I", .fieldLink RX0 15 "ChecksumLab$Model" "poly" "I"] ++ wsX00)
def wsX0_powerOfX : List Cond := .code yX0_powerOfX cX0_powerOfX 5 (some .int) :: ([.methodLink RX0 41 yX0_product, .instanceMethod yX0_product, .selects RX0 yX0_product yX0_product, .initialized RX0, .code yX0_product cX0_product 5 (some .int), .fieldLink RX0 9 "ChecksumLab$Model" "width" "I", .methodLink RX0 37 yX0_timesX, .instanceMethod yX0_timesX, .selects RX0 yX0_timesX yX0_timesX, .code yX0_timesX cX0_timesX 3 (some .int), .fieldLink RX0 31 "ChecksumLab$Model" "mask" "I", .fieldLink RX0 34 "ChecksumLab$Model" "highest" "I", .fieldLink RX0 15 "ChecksumLab$Model" "poly" "I"] ++ wsX00)
def wsX0_takeBit : List Cond := .code yX0_takeBit cX0_takeBit 3 (some .int) :: ([.fieldLink RX0 9 "ChecksumLab$Model" "width" "I", .methodLink RX0 37 yX0_timesX, .instanceMethod yX0_timesX, .selects RX0 yX0_timesX yX0_timesX, .initialized RX0, .code yX0_timesX cX0_timesX 3 (some .int), .fieldLink RX0 31 "ChecksumLab$Model" "mask" "I", .fieldLink RX0 34 "ChecksumLab$Model" "highest" "I", .fieldLink RX0 15 "ChecksumLab$Model" "poly" "I"] ++ wsX00)
def wsX1_reversed : List Cond := .code yX1_reversed cX1_reversed 4 (some .int) :: ([])
def wsX0_inTakenOrder : List Cond := .code yX0_inTakenOrder cX0_inTakenOrder 2 (some .int) :: ([.fieldLink RX0 21 "ChecksumLab$Model" "reflectIn" "Z", .static yX1_reversed, .initialized RX1, .code yX1_reversed cX1_reversed 4 (some .int)] ++ wsX00)
def wsX0_takeByte : List Cond := .code yX0_takeByte cX0_takeByte 6 (some .int) :: ([.methodLink RX0 45 yX0_inTakenOrder, .instanceMethod yX0_inTakenOrder, .selects RX0 yX0_inTakenOrder yX0_inTakenOrder, .initialized RX0, .code yX0_inTakenOrder cX0_inTakenOrder 2 (some .int), .fieldLink RX0 21 "ChecksumLab$Model" "reflectIn" "Z", .static yX1_reversed, .initialized RX1, .code yX1_reversed cX1_reversed 4 (some .int), .methodLink RX0 48 yX0_takeBit, .instanceMethod yX0_takeBit, .selects RX0 yX0_takeBit yX0_takeBit, .code yX0_takeBit cX0_takeBit 3 (some .int), .fieldLink RX0 9 "ChecksumLab$Model" "width" "I", .methodLink RX0 37 yX0_timesX, .instanceMethod yX0_timesX, .selects RX0 yX0_timesX yX0_timesX, .code yX0_timesX cX0_timesX 3 (some .int), .fieldLink RX0 31 "ChecksumLab$Model" "mask" "I", .fieldLink RX0 34 "ChecksumLab$Model" "highest" "I", .fieldLink RX0 15 "ChecksumLab$Model" "poly" "I"] ++ wsX00)
def wsX0_divideByte : List Cond := .code yX0_divideByte cX0_divideByte 5 (some .int) :: ([.methodLink RX0 37 yX0_timesX, .instanceMethod yX0_timesX, .selects RX0 yX0_timesX yX0_timesX, .initialized RX0, .code yX0_timesX cX0_timesX 3 (some .int), .fieldLink RX0 31 "ChecksumLab$Model" "mask" "I", .fieldLink RX0 34 "ChecksumLab$Model" "highest" "I", .fieldLink RX0 15 "ChecksumLab$Model" "poly" "I"] ++ wsX00)
def wsX0_inSumOrder : List Cond := .code yX0_inSumOrder cX0_inSumOrder 2 (some .int) :: ([.fieldLink RX0 25 "ChecksumLab$Model" "reflectOut" "Z", .fieldLink RX0 9 "ChecksumLab$Model" "width" "I", .static yX1_reversed, .initialized RX1, .code yX1_reversed cX1_reversed 4 (some .int)] ++ wsX00)
def wsX0_sumOfRegister : List Cond := .code yX0_sumOfRegister cX0_sumOfRegister 2 (some .int) :: ([.fieldLink RX0 28 "ChecksumLab$Model" "xorOut" "I", .methodLink RX0 54 yX0_inSumOrder, .instanceMethod yX0_inSumOrder, .selects RX0 yX0_inSumOrder yX0_inSumOrder, .initialized RX0, .code yX0_inSumOrder cX0_inSumOrder 2 (some .int), .fieldLink RX0 25 "ChecksumLab$Model" "reflectOut" "Z", .fieldLink RX0 9 "ChecksumLab$Model" "width" "I", .static yX1_reversed, .initialized RX1, .code yX1_reversed cX1_reversed 4 (some .int)] ++ wsX00)
def wsX0_registerOfSum : List Cond := .code yX0_registerOfSum cX0_registerOfSum 2 (some .int) :: ([.fieldLink RX0 28 "ChecksumLab$Model" "xorOut" "I", .methodLink RX0 54 yX0_inSumOrder, .instanceMethod yX0_inSumOrder, .selects RX0 yX0_inSumOrder yX0_inSumOrder, .initialized RX0, .code yX0_inSumOrder cX0_inSumOrder 2 (some .int), .fieldLink RX0 25 "ChecksumLab$Model" "reflectOut" "Z", .fieldLink RX0 9 "ChecksumLab$Model" "width" "I", .static yX1_reversed, .initialized RX1, .code yX1_reversed cX1_reversed 4 (some .int)] ++ wsX00)
def wsX1_init : List Cond := .code yX1_init cX1_init 1 none :: ([.methodLink RX1 1 objectInit, .instanceMethod objectInit, .code objectInit ⟨#[0xb1]⟩ 1 none, .classLink RX1 9 RX0, .fieldLink RX1 11 "ChecksumLab" "defined" "[LChecksumLab$Model;", .fieldLink RX1 15 "ChecksumLab" "definedCount" "I", .classLink RX1 19 "[[I", .arrayClass .int, .fieldLink RX1 21 "ChecksumLab" "rows" "[[I", .fieldLink RX1 24 "ChecksumLab" "sizes" "[I"] ++ wsX10)
def wsX1_requireNumber : List Cond := .code yX1_requireNumber cX1_requireNumber 2 none :: ([.classLink RX1 28 "java/lang/IllegalArgumentException", .initialized "java/lang/IllegalArgumentException"] ++ (vx_atS RX1 32 "java/lang/IllegalArgumentException" ["java/lang/RuntimeException", "java/lang/Exception"]).filter goodWord)
def wsX1_define_r1 : List Cond := [Cond.classLink RX1 28 "java/lang/IllegalArgumentException", Cond.initialized "java/lang/IllegalArgumentException", Cond.classLink RX1 39 "java/lang/IllegalStateException", Cond.initialized "java/lang/IllegalStateException", Cond.fieldLink RX1 15 "ChecksumLab" "definedCount" "I", Cond.fieldLink RX1 11 "ChecksumLab" "defined" "[LChecksumLab$Model;", Cond.classLink RX1 9 RX0, Cond.instantiable RX0 8, Cond.initialized RX0, Cond.methodLink RX1 35 yX1_requireNumber, Cond.static yX1_requireNumber, Cond.initialized RX1, Cond.code yX1_requireNumber cX1_requireNumber 2 none, Cond.methodLink RX1 44 yX0_init, Cond.instanceMethod yX0_init, Cond.code yX0_init cX0_init 7 none, Cond.methodLink RX0 3 objectInit, Cond.instanceMethod objectInit, Cond.code objectInit ⟨#[0xb1]⟩ 1 none, Cond.fieldLink RX0 9 "ChecksumLab$Model" "width" "I", Cond.fieldLink RX0 15 "ChecksumLab$Model" "poly" "I", Cond.fieldLink RX0 18 "ChecksumLab$Model" "init" "I", Cond.fieldLink RX0 21 "ChecksumLab$Model" "reflectIn" "Z", Cond.fieldLink RX0 25 "ChecksumLab$Model" "reflectOut" "Z"]
def wsX1_define_r2 : List Cond := [Cond.fieldLink RX0 28 "ChecksumLab$Model" "xorOut" "I", Cond.fieldLink RX0 31 "ChecksumLab$Model" "mask" "I", Cond.fieldLink RX0 34 "ChecksumLab$Model" "highest" "I"]
def wsX1_define : List Cond := .code yX1_define cX1_define 8 (some .int) :: ((wsX1_define_r1 ++ wsX1_define_r2) ++ wsX10 ++ wsX00 ++ (vx_atS RX1 32 "java/lang/IllegalArgumentException" ["java/lang/RuntimeException", "java/lang/Exception"]).filter goodWord ++ (vx_atS RX1 43 "java/lang/IllegalStateException" ["java/lang/RuntimeException", "java/lang/Exception"]).filter goodWord)
def wsX1_models : List Cond := .code yX1_models cX1_models 1 (some .int) :: ([.fieldLink RX1 15 "ChecksumLab" "definedCount" "I"] ++ wsX10)
def wsX1_findModel : List Cond := .code yX1_findModel cX1_findModel 2 (some (.object "ChecksumLab$Model")) :: ([.classLink RX1 101 "java/lang/IndexOutOfBoundsException", .initialized "java/lang/IndexOutOfBoundsException", .fieldLink RX1 11 "ChecksumLab" "defined" "[LChecksumLab$Model;"] ++ wsX10 ++ (vx_atS RX1 105 "java/lang/IndexOutOfBoundsException" ["java/lang/RuntimeException", "java/lang/Exception"]).filter goodWord)
def wsX1_check_r1 : List Cond := [Cond.fieldLink RX1 51 "ChecksumLab$Model" "init" "I", Cond.methodLink RX1 47 yX1_findModel, Cond.instanceMethod yX1_findModel, Cond.selects RX1 yX1_findModel yX1_findModel, Cond.initialized RX1, Cond.code yX1_findModel cX1_findModel 2 (some (.object "ChecksumLab$Model")), Cond.classLink RX1 101 "java/lang/IndexOutOfBoundsException", Cond.initialized "java/lang/IndexOutOfBoundsException", Cond.fieldLink RX1 11 "ChecksumLab" "defined" "[LChecksumLab$Model;", Cond.methodLink RX1 54 yX0_takeByte, Cond.instanceMethod yX0_takeByte, Cond.selects RX0 yX0_takeByte yX0_takeByte, Cond.initialized RX0, Cond.code yX0_takeByte cX0_takeByte 6 (some .int), Cond.methodLink RX0 45 yX0_inTakenOrder, Cond.instanceMethod yX0_inTakenOrder, Cond.selects RX0 yX0_inTakenOrder yX0_inTakenOrder, Cond.code yX0_inTakenOrder cX0_inTakenOrder 2 (some .int), Cond.fieldLink RX0 21 "ChecksumLab$Model" "reflectIn" "Z", Cond.static yX1_reversed, Cond.code yX1_reversed cX1_reversed 4 (some .int), Cond.methodLink RX0 48 yX0_takeBit, Cond.instanceMethod yX0_takeBit, Cond.selects RX0 yX0_takeBit yX0_takeBit]
def wsX1_check_r2 : List Cond := [Cond.code yX0_takeBit cX0_takeBit 3 (some .int), Cond.fieldLink RX0 9 "ChecksumLab$Model" "width" "I", Cond.methodLink RX0 37 yX0_timesX, Cond.instanceMethod yX0_timesX, Cond.selects RX0 yX0_timesX yX0_timesX, Cond.code yX0_timesX cX0_timesX 3 (some .int), Cond.fieldLink RX0 31 "ChecksumLab$Model" "mask" "I", Cond.fieldLink RX0 34 "ChecksumLab$Model" "highest" "I", Cond.fieldLink RX0 15 "ChecksumLab$Model" "poly" "I", Cond.methodLink RX1 58 yX0_sumOfRegister, Cond.instanceMethod yX0_sumOfRegister, Cond.selects RX0 yX0_sumOfRegister yX0_sumOfRegister, Cond.code yX0_sumOfRegister cX0_sumOfRegister 2 (some .int), Cond.fieldLink RX0 28 "ChecksumLab$Model" "xorOut" "I", Cond.methodLink RX0 54 yX0_inSumOrder, Cond.instanceMethod yX0_inSumOrder, Cond.selects RX0 yX0_inSumOrder yX0_inSumOrder, Cond.code yX0_inSumOrder cX0_inSumOrder 2 (some .int), Cond.fieldLink RX0 25 "ChecksumLab$Model" "reflectOut" "Z"]
def wsX1_check : List Cond := .code yX1_check cX1_check 5 (some .int) :: ((wsX1_check_r1 ++ wsX1_check_r2) ++ wsX00 ++ wsX10 ++ (vx_atS RX1 105 "java/lang/IndexOutOfBoundsException" ["java/lang/RuntimeException", "java/lang/Exception"]).filter goodWord)
def wsX1_multiply_r1 : List Cond := [Cond.fieldLink RX1 62 "ChecksumLab$Model" "width" "I", Cond.methodLink RX1 47 yX1_findModel, Cond.instanceMethod yX1_findModel, Cond.selects RX1 yX1_findModel yX1_findModel, Cond.initialized RX1, Cond.code yX1_findModel cX1_findModel 2 (some (.object "ChecksumLab$Model")), Cond.classLink RX1 101 "java/lang/IndexOutOfBoundsException", Cond.initialized "java/lang/IndexOutOfBoundsException", Cond.fieldLink RX1 11 "ChecksumLab" "defined" "[LChecksumLab$Model;", Cond.methodLink RX1 35 yX1_requireNumber, Cond.static yX1_requireNumber, Cond.code yX1_requireNumber cX1_requireNumber 2 none, Cond.classLink RX1 28 "java/lang/IllegalArgumentException", Cond.initialized "java/lang/IllegalArgumentException", Cond.methodLink RX1 65 yX0_product, Cond.instanceMethod yX0_product, Cond.selects RX0 yX0_product yX0_product, Cond.initialized RX0, Cond.code yX0_product cX0_product 5 (some .int), Cond.fieldLink RX0 9 "ChecksumLab$Model" "width" "I", Cond.methodLink RX0 37 yX0_timesX, Cond.instanceMethod yX0_timesX, Cond.selects RX0 yX0_timesX yX0_timesX, Cond.code yX0_timesX cX0_timesX 3 (some .int)]
def wsX1_multiply_r2 : List Cond := [Cond.fieldLink RX0 31 "ChecksumLab$Model" "mask" "I", Cond.fieldLink RX0 34 "ChecksumLab$Model" "highest" "I", Cond.fieldLink RX0 15 "ChecksumLab$Model" "poly" "I"]
def wsX1_multiply : List Cond := .code yX1_multiply cX1_multiply 5 (some .int) :: ((wsX1_multiply_r1 ++ wsX1_multiply_r2) ++ wsX00 ++ wsX10 ++ (vx_atS RX1 105 "java/lang/IndexOutOfBoundsException" ["java/lang/RuntimeException", "java/lang/Exception"]).filter goodWord ++ (vx_atS RX1 32 "java/lang/IllegalArgumentException" ["java/lang/RuntimeException", "java/lang/Exception"]).filter goodWord)
def wsX1_power_r1 : List Cond := [Cond.classLink RX1 28 "java/lang/IllegalArgumentException", Cond.initialized "java/lang/IllegalArgumentException", Cond.methodLink RX1 47 yX1_findModel, Cond.instanceMethod yX1_findModel, Cond.selects RX1 yX1_findModel yX1_findModel, Cond.initialized RX1, Cond.code yX1_findModel cX1_findModel 2 (some (.object "ChecksumLab$Model")), Cond.classLink RX1 101 "java/lang/IndexOutOfBoundsException", Cond.initialized "java/lang/IndexOutOfBoundsException", Cond.fieldLink RX1 11 "ChecksumLab" "defined" "[LChecksumLab$Model;", Cond.methodLink RX1 70 yX0_powerOfX, Cond.instanceMethod yX0_powerOfX, Cond.selects RX0 yX0_powerOfX yX0_powerOfX, Cond.initialized RX0, Cond.code yX0_powerOfX cX0_powerOfX 5 (some .int), Cond.methodLink RX0 41 yX0_product, Cond.instanceMethod yX0_product, Cond.selects RX0 yX0_product yX0_product, Cond.code yX0_product cX0_product 5 (some .int), Cond.fieldLink RX0 9 "ChecksumLab$Model" "width" "I", Cond.methodLink RX0 37 yX0_timesX, Cond.instanceMethod yX0_timesX, Cond.selects RX0 yX0_timesX yX0_timesX, Cond.code yX0_timesX cX0_timesX 3 (some .int)]
def wsX1_power_r2 : List Cond := [Cond.fieldLink RX0 31 "ChecksumLab$Model" "mask" "I", Cond.fieldLink RX0 34 "ChecksumLab$Model" "highest" "I", Cond.fieldLink RX0 15 "ChecksumLab$Model" "poly" "I"]
def wsX1_power : List Cond := .code yX1_power cX1_power 5 (some .int) :: ((wsX1_power_r1 ++ wsX1_power_r2) ++ wsX10 ++ wsX00 ++ (vx_atS RX1 32 "java/lang/IllegalArgumentException" ["java/lang/RuntimeException", "java/lang/Exception"]).filter goodWord ++ (vx_atS RX1 105 "java/lang/IndexOutOfBoundsException" ["java/lang/RuntimeException", "java/lang/Exception"]).filter goodWord)
def wsX1_period : List Cond := .code yX1_period cX1_period 6 (some .int) :: ([.classLink RX1 28 "java/lang/IllegalArgumentException", .initialized "java/lang/IllegalArgumentException", .constant RX1 74 (70000), .methodLink RX1 47 yX1_findModel, .instanceMethod yX1_findModel, .selects RX1 yX1_findModel yX1_findModel, .initialized RX1, .code yX1_findModel cX1_findModel 2 (some (.object "ChecksumLab$Model")), .classLink RX1 101 "java/lang/IndexOutOfBoundsException", .initialized "java/lang/IndexOutOfBoundsException", .fieldLink RX1 11 "ChecksumLab" "defined" "[LChecksumLab$Model;", .methodLink RX1 77 yX0_timesX, .instanceMethod yX0_timesX, .selects RX0 yX0_timesX yX0_timesX, .initialized RX0, .code yX0_timesX cX0_timesX 3 (some .int), .fieldLink RX0 31 "ChecksumLab$Model" "mask" "I", .fieldLink RX0 34 "ChecksumLab$Model" "highest" "I", .fieldLink RX0 15 "ChecksumLab$Model" "poly" "I"] ++ wsX10 ++ wsX00 ++ (vx_atS RX1 32 "java/lang/IllegalArgumentException" ["java/lang/RuntimeException", "java/lang/Exception"]).filter goodWord ++ (vx_atS RX1 105 "java/lang/IndexOutOfBoundsException" ["java/lang/RuntimeException", "java/lang/Exception"]).filter goodWord)
def wsX1_requireRow : List Cond := .code yX1_requireRow cX1_requireRow 1 none :: ([.classLink RX1 101 "java/lang/IndexOutOfBoundsException", .initialized "java/lang/IndexOutOfBoundsException"] ++ (vx_atS RX1 105 "java/lang/IndexOutOfBoundsException" ["java/lang/RuntimeException", "java/lang/Exception"]).filter goodWord)
def wsX1_requireByte : List Cond := .code yX1_requireByte cX1_requireByte 1 none :: ([.classLink RX1 28 "java/lang/IllegalArgumentException", .initialized "java/lang/IllegalArgumentException"] ++ (vx_atS RX1 32 "java/lang/IllegalArgumentException" ["java/lang/RuntimeException", "java/lang/Exception"]).filter goodWord)
def wsX1_requireRoom : List Cond := .code yX1_requireRoom cX1_requireRoom 3 none :: ([.classLink RX1 39 "java/lang/IllegalStateException", .initialized "java/lang/IllegalStateException", .fieldLink RX1 24 "ChecksumLab" "sizes" "[I"] ++ wsX10 ++ (vx_atS RX1 43 "java/lang/IllegalStateException" ["java/lang/RuntimeException", "java/lang/Exception"]).filter goodWord)
def wsX1_append : List Cond := .code yX1_append cX1_append 3 (some .int) :: ([.fieldLink RX1 21 "ChecksumLab" "rows" "[[I", .fieldLink RX1 24 "ChecksumLab" "sizes" "[I", .methodLink RX1 80 yX1_requireRow, .static yX1_requireRow, .initialized RX1, .code yX1_requireRow cX1_requireRow 1 none, .classLink RX1 101 "java/lang/IndexOutOfBoundsException", .initialized "java/lang/IndexOutOfBoundsException", .methodLink RX1 84 yX1_requireByte, .static yX1_requireByte, .code yX1_requireByte cX1_requireByte 1 none, .classLink RX1 28 "java/lang/IllegalArgumentException", .initialized "java/lang/IllegalArgumentException", .methodLink RX1 87 yX1_requireRoom, .instanceMethod yX1_requireRoom, .selects RX1 yX1_requireRoom yX1_requireRoom, .code yX1_requireRoom cX1_requireRoom 3 none, .classLink RX1 39 "java/lang/IllegalStateException", .initialized "java/lang/IllegalStateException"] ++ wsX10 ++ (vx_atS RX1 105 "java/lang/IndexOutOfBoundsException" ["java/lang/RuntimeException", "java/lang/Exception"]).filter goodWord ++ (vx_atS RX1 32 "java/lang/IllegalArgumentException" ["java/lang/RuntimeException", "java/lang/Exception"]).filter goodWord ++ (vx_atS RX1 43 "java/lang/IllegalStateException" ["java/lang/RuntimeException", "java/lang/Exception"]).filter goodWord)
def wsX1_appendSeries : List Cond := .code yX1_appendSeries cX1_appendSeries 7 (some .int) :: ([.classLink RX1 28 "java/lang/IllegalArgumentException", .initialized "java/lang/IllegalArgumentException", .fieldLink RX1 24 "ChecksumLab" "sizes" "[I", .fieldLink RX1 21 "ChecksumLab" "rows" "[[I", .methodLink RX1 80 yX1_requireRow, .static yX1_requireRow, .initialized RX1, .code yX1_requireRow cX1_requireRow 1 none, .classLink RX1 101 "java/lang/IndexOutOfBoundsException", .initialized "java/lang/IndexOutOfBoundsException", .methodLink RX1 84 yX1_requireByte, .static yX1_requireByte, .code yX1_requireByte cX1_requireByte 1 none, .methodLink RX1 87 yX1_requireRoom, .instanceMethod yX1_requireRoom, .selects RX1 yX1_requireRoom yX1_requireRoom, .code yX1_requireRoom cX1_requireRoom 3 none, .classLink RX1 39 "java/lang/IllegalStateException", .initialized "java/lang/IllegalStateException"] ++ wsX10 ++ (vx_atS RX1 32 "java/lang/IllegalArgumentException" ["java/lang/RuntimeException", "java/lang/Exception"]).filter goodWord ++ (vx_atS RX1 105 "java/lang/IndexOutOfBoundsException" ["java/lang/RuntimeException", "java/lang/Exception"]).filter goodWord ++ (vx_atS RX1 43 "java/lang/IllegalStateException" ["java/lang/RuntimeException", "java/lang/Exception"]).filter goodWord)
def wsX1_appendRow : List Cond := .code yX1_appendRow cX1_appendRow 6 (some .int) :: ([.fieldLink RX1 24 "ChecksumLab" "sizes" "[I", .fieldLink RX1 21 "ChecksumLab" "rows" "[[I", .methodLink RX1 80 yX1_requireRow, .static yX1_requireRow, .initialized RX1, .code yX1_requireRow cX1_requireRow 1 none, .classLink RX1 101 "java/lang/IndexOutOfBoundsException", .initialized "java/lang/IndexOutOfBoundsException", .methodLink RX1 87 yX1_requireRoom, .instanceMethod yX1_requireRoom, .selects RX1 yX1_requireRoom yX1_requireRoom, .code yX1_requireRoom cX1_requireRoom 3 none, .classLink RX1 39 "java/lang/IllegalStateException", .initialized "java/lang/IllegalStateException"] ++ wsX10 ++ (vx_atS RX1 105 "java/lang/IndexOutOfBoundsException" ["java/lang/RuntimeException", "java/lang/Exception"]).filter goodWord ++ (vx_atS RX1 43 "java/lang/IllegalStateException" ["java/lang/RuntimeException", "java/lang/Exception"]).filter goodWord)
def wsX1_requireIndex : List Cond := .code yX1_requireIndex cX1_requireIndex 3 none :: ([.classLink RX1 101 "java/lang/IndexOutOfBoundsException", .initialized "java/lang/IndexOutOfBoundsException", .fieldLink RX1 24 "ChecksumLab" "sizes" "[I"] ++ wsX10 ++ (vx_atS RX1 105 "java/lang/IndexOutOfBoundsException" ["java/lang/RuntimeException", "java/lang/Exception"]).filter goodWord)
def wsX1_setByte : List Cond := .code yX1_setByte cX1_setByte 5 (some .int) :: ([.fieldLink RX1 21 "ChecksumLab" "rows" "[[I", .methodLink RX1 80 yX1_requireRow, .static yX1_requireRow, .initialized RX1, .code yX1_requireRow cX1_requireRow 1 none, .classLink RX1 101 "java/lang/IndexOutOfBoundsException", .initialized "java/lang/IndexOutOfBoundsException", .methodLink RX1 92 yX1_requireIndex, .instanceMethod yX1_requireIndex, .selects RX1 yX1_requireIndex yX1_requireIndex, .code yX1_requireIndex cX1_requireIndex 3 none, .fieldLink RX1 24 "ChecksumLab" "sizes" "[I", .methodLink RX1 84 yX1_requireByte, .static yX1_requireByte, .code yX1_requireByte cX1_requireByte 1 none, .classLink RX1 28 "java/lang/IllegalArgumentException", .initialized "java/lang/IllegalArgumentException"] ++ wsX10 ++ (vx_atS RX1 105 "java/lang/IndexOutOfBoundsException" ["java/lang/RuntimeException", "java/lang/Exception"]).filter goodWord ++ (vx_atS RX1 32 "java/lang/IllegalArgumentException" ["java/lang/RuntimeException", "java/lang/Exception"]).filter goodWord)
def wsX1_truncate : List Cond := .code yX1_truncate cX1_truncate 4 (some .int) :: ([.classLink RX1 28 "java/lang/IllegalArgumentException", .initialized "java/lang/IllegalArgumentException", .fieldLink RX1 24 "ChecksumLab" "sizes" "[I", .methodLink RX1 80 yX1_requireRow, .static yX1_requireRow, .initialized RX1, .code yX1_requireRow cX1_requireRow 1 none, .classLink RX1 101 "java/lang/IndexOutOfBoundsException", .initialized "java/lang/IndexOutOfBoundsException"] ++ wsX10 ++ (vx_atS RX1 32 "java/lang/IllegalArgumentException" ["java/lang/RuntimeException", "java/lang/Exception"]).filter goodWord ++ (vx_atS RX1 105 "java/lang/IndexOutOfBoundsException" ["java/lang/RuntimeException", "java/lang/Exception"]).filter goodWord)
def wsX1_length : List Cond := .code yX1_length cX1_length 2 (some .int) :: ([.fieldLink RX1 24 "ChecksumLab" "sizes" "[I", .methodLink RX1 80 yX1_requireRow, .static yX1_requireRow, .initialized RX1, .code yX1_requireRow cX1_requireRow 1 none, .classLink RX1 101 "java/lang/IndexOutOfBoundsException", .initialized "java/lang/IndexOutOfBoundsException"] ++ wsX10 ++ (vx_atS RX1 105 "java/lang/IndexOutOfBoundsException" ["java/lang/RuntimeException", "java/lang/Exception"]).filter goodWord)
def wsX1_byteAt : List Cond := .code yX1_byteAt cX1_byteAt 3 (some .int) :: ([.fieldLink RX1 21 "ChecksumLab" "rows" "[[I", .methodLink RX1 80 yX1_requireRow, .static yX1_requireRow, .initialized RX1, .code yX1_requireRow cX1_requireRow 1 none, .classLink RX1 101 "java/lang/IndexOutOfBoundsException", .initialized "java/lang/IndexOutOfBoundsException", .methodLink RX1 92 yX1_requireIndex, .instanceMethod yX1_requireIndex, .selects RX1 yX1_requireIndex yX1_requireIndex, .code yX1_requireIndex cX1_requireIndex 3 none, .fieldLink RX1 24 "ChecksumLab" "sizes" "[I"] ++ wsX10 ++ (vx_atS RX1 105 "java/lang/IndexOutOfBoundsException" ["java/lang/RuntimeException", "java/lang/Exception"]).filter goodWord)
def wsX1_partSum_r1 : List Cond := [Cond.fieldLink RX1 51 "ChecksumLab$Model" "init" "I", Cond.fieldLink RX1 21 "ChecksumLab" "rows" "[[I", Cond.methodLink RX1 54 yX0_takeByte, Cond.instanceMethod yX0_takeByte, Cond.selects RX0 yX0_takeByte yX0_takeByte, Cond.initialized RX0, Cond.code yX0_takeByte cX0_takeByte 6 (some .int), Cond.methodLink RX0 45 yX0_inTakenOrder, Cond.instanceMethod yX0_inTakenOrder, Cond.selects RX0 yX0_inTakenOrder yX0_inTakenOrder, Cond.code yX0_inTakenOrder cX0_inTakenOrder 2 (some .int), Cond.fieldLink RX0 21 "ChecksumLab$Model" "reflectIn" "Z", Cond.static yX1_reversed, Cond.initialized RX1, Cond.code yX1_reversed cX1_reversed 4 (some .int), Cond.methodLink RX0 48 yX0_takeBit, Cond.instanceMethod yX0_takeBit, Cond.selects RX0 yX0_takeBit yX0_takeBit, Cond.code yX0_takeBit cX0_takeBit 3 (some .int), Cond.fieldLink RX0 9 "ChecksumLab$Model" "width" "I", Cond.methodLink RX0 37 yX0_timesX, Cond.instanceMethod yX0_timesX, Cond.selects RX0 yX0_timesX yX0_timesX, Cond.code yX0_timesX cX0_timesX 3 (some .int)]
def wsX1_partSum_r2 : List Cond := [Cond.fieldLink RX0 31 "ChecksumLab$Model" "mask" "I", Cond.fieldLink RX0 34 "ChecksumLab$Model" "highest" "I", Cond.fieldLink RX0 15 "ChecksumLab$Model" "poly" "I", Cond.methodLink RX1 58 yX0_sumOfRegister, Cond.instanceMethod yX0_sumOfRegister, Cond.selects RX0 yX0_sumOfRegister yX0_sumOfRegister, Cond.code yX0_sumOfRegister cX0_sumOfRegister 2 (some .int), Cond.fieldLink RX0 28 "ChecksumLab$Model" "xorOut" "I", Cond.methodLink RX0 54 yX0_inSumOrder, Cond.instanceMethod yX0_inSumOrder, Cond.selects RX0 yX0_inSumOrder yX0_inSumOrder, Cond.code yX0_inSumOrder cX0_inSumOrder 2 (some .int), Cond.fieldLink RX0 25 "ChecksumLab$Model" "reflectOut" "Z"]
def wsX1_partSum : List Cond := .code yX1_partSum cX1_partSum 7 (some .int) :: ((wsX1_partSum_r1 ++ wsX1_partSum_r2) ++ wsX00 ++ wsX10)
def wsX1_sum_r1 : List Cond := [Cond.fieldLink RX1 24 "ChecksumLab" "sizes" "[I", Cond.methodLink RX1 47 yX1_findModel, Cond.instanceMethod yX1_findModel, Cond.selects RX1 yX1_findModel yX1_findModel, Cond.initialized RX1, Cond.code yX1_findModel cX1_findModel 2 (some (.object "ChecksumLab$Model")), Cond.classLink RX1 101 "java/lang/IndexOutOfBoundsException", Cond.initialized "java/lang/IndexOutOfBoundsException", Cond.fieldLink RX1 11 "ChecksumLab" "defined" "[LChecksumLab$Model;", Cond.methodLink RX1 80 yX1_requireRow, Cond.static yX1_requireRow, Cond.code yX1_requireRow cX1_requireRow 1 none, Cond.methodLink RX1 97 yX1_partSum, Cond.instanceMethod yX1_partSum, Cond.selects RX1 yX1_partSum yX1_partSum, Cond.code yX1_partSum cX1_partSum 7 (some .int), Cond.fieldLink RX1 51 "ChecksumLab$Model" "init" "I", Cond.fieldLink RX1 21 "ChecksumLab" "rows" "[[I", Cond.methodLink RX1 54 yX0_takeByte, Cond.instanceMethod yX0_takeByte, Cond.selects RX0 yX0_takeByte yX0_takeByte, Cond.initialized RX0, Cond.code yX0_takeByte cX0_takeByte 6 (some .int), Cond.methodLink RX0 45 yX0_inTakenOrder]
def wsX1_sum_r2 : List Cond := [Cond.instanceMethod yX0_inTakenOrder, Cond.selects RX0 yX0_inTakenOrder yX0_inTakenOrder, Cond.code yX0_inTakenOrder cX0_inTakenOrder 2 (some .int), Cond.fieldLink RX0 21 "ChecksumLab$Model" "reflectIn" "Z", Cond.static yX1_reversed, Cond.code yX1_reversed cX1_reversed 4 (some .int), Cond.methodLink RX0 48 yX0_takeBit, Cond.instanceMethod yX0_takeBit, Cond.selects RX0 yX0_takeBit yX0_takeBit, Cond.code yX0_takeBit cX0_takeBit 3 (some .int), Cond.fieldLink RX0 9 "ChecksumLab$Model" "width" "I", Cond.methodLink RX0 37 yX0_timesX, Cond.instanceMethod yX0_timesX, Cond.selects RX0 yX0_timesX yX0_timesX, Cond.code yX0_timesX cX0_timesX 3 (some .int), Cond.fieldLink RX0 31 "ChecksumLab$Model" "mask" "I", Cond.fieldLink RX0 34 "ChecksumLab$Model" "highest" "I", Cond.fieldLink RX0 15 "ChecksumLab$Model" "poly" "I", Cond.methodLink RX1 58 yX0_sumOfRegister, Cond.instanceMethod yX0_sumOfRegister, Cond.selects RX0 yX0_sumOfRegister yX0_sumOfRegister, Cond.code yX0_sumOfRegister cX0_sumOfRegister 2 (some .int), Cond.fieldLink RX0 28 "ChecksumLab$Model" "xorOut" "I", Cond.methodLink RX0 54 yX0_inSumOrder]
def wsX1_sum_r3 : List Cond := [Cond.instanceMethod yX0_inSumOrder, Cond.selects RX0 yX0_inSumOrder yX0_inSumOrder, Cond.code yX0_inSumOrder cX0_inSumOrder 2 (some .int), Cond.fieldLink RX0 25 "ChecksumLab$Model" "reflectOut" "Z"]
def wsX1_sum : List Cond := .code yX1_sum cX1_sum 4 (some .int) :: ((wsX1_sum_r1 ++ (wsX1_sum_r2 ++ wsX1_sum_r3)) ++ wsX10 ++ wsX00 ++ (vx_atS RX1 105 "java/lang/IndexOutOfBoundsException" ["java/lang/RuntimeException", "java/lang/Exception"]).filter goodWord)
def wsX1_sumOfPart_r1 : List Cond := [Cond.classLink RX1 101 "java/lang/IndexOutOfBoundsException", Cond.initialized "java/lang/IndexOutOfBoundsException", Cond.fieldLink RX1 24 "ChecksumLab" "sizes" "[I", Cond.methodLink RX1 47 yX1_findModel, Cond.instanceMethod yX1_findModel, Cond.selects RX1 yX1_findModel yX1_findModel, Cond.initialized RX1, Cond.code yX1_findModel cX1_findModel 2 (some (.object "ChecksumLab$Model")), Cond.fieldLink RX1 11 "ChecksumLab" "defined" "[LChecksumLab$Model;", Cond.methodLink RX1 80 yX1_requireRow, Cond.static yX1_requireRow, Cond.code yX1_requireRow cX1_requireRow 1 none, Cond.methodLink RX1 97 yX1_partSum, Cond.instanceMethod yX1_partSum, Cond.selects RX1 yX1_partSum yX1_partSum, Cond.code yX1_partSum cX1_partSum 7 (some .int), Cond.fieldLink RX1 51 "ChecksumLab$Model" "init" "I", Cond.fieldLink RX1 21 "ChecksumLab" "rows" "[[I", Cond.methodLink RX1 54 yX0_takeByte, Cond.instanceMethod yX0_takeByte, Cond.selects RX0 yX0_takeByte yX0_takeByte, Cond.initialized RX0, Cond.code yX0_takeByte cX0_takeByte 6 (some .int), Cond.methodLink RX0 45 yX0_inTakenOrder]
def wsX1_sumOfPart_r2 : List Cond := [Cond.instanceMethod yX0_inTakenOrder, Cond.selects RX0 yX0_inTakenOrder yX0_inTakenOrder, Cond.code yX0_inTakenOrder cX0_inTakenOrder 2 (some .int), Cond.fieldLink RX0 21 "ChecksumLab$Model" "reflectIn" "Z", Cond.static yX1_reversed, Cond.code yX1_reversed cX1_reversed 4 (some .int), Cond.methodLink RX0 48 yX0_takeBit, Cond.instanceMethod yX0_takeBit, Cond.selects RX0 yX0_takeBit yX0_takeBit, Cond.code yX0_takeBit cX0_takeBit 3 (some .int), Cond.fieldLink RX0 9 "ChecksumLab$Model" "width" "I", Cond.methodLink RX0 37 yX0_timesX, Cond.instanceMethod yX0_timesX, Cond.selects RX0 yX0_timesX yX0_timesX, Cond.code yX0_timesX cX0_timesX 3 (some .int), Cond.fieldLink RX0 31 "ChecksumLab$Model" "mask" "I", Cond.fieldLink RX0 34 "ChecksumLab$Model" "highest" "I", Cond.fieldLink RX0 15 "ChecksumLab$Model" "poly" "I", Cond.methodLink RX1 58 yX0_sumOfRegister, Cond.instanceMethod yX0_sumOfRegister, Cond.selects RX0 yX0_sumOfRegister yX0_sumOfRegister, Cond.code yX0_sumOfRegister cX0_sumOfRegister 2 (some .int), Cond.fieldLink RX0 28 "ChecksumLab$Model" "xorOut" "I", Cond.methodLink RX0 54 yX0_inSumOrder]
def wsX1_sumOfPart_r3 : List Cond := [Cond.instanceMethod yX0_inSumOrder, Cond.selects RX0 yX0_inSumOrder yX0_inSumOrder, Cond.code yX0_inSumOrder cX0_inSumOrder 2 (some .int), Cond.fieldLink RX0 25 "ChecksumLab$Model" "reflectOut" "Z"]
def wsX1_sumOfPart : List Cond := .code yX1_sumOfPart cX1_sumOfPart 6 (some .int) :: ((wsX1_sumOfPart_r1 ++ (wsX1_sumOfPart_r2 ++ wsX1_sumOfPart_r3)) ++ wsX10 ++ wsX00 ++ (vx_atS RX1 105 "java/lang/IndexOutOfBoundsException" ["java/lang/RuntimeException", "java/lang/Exception"]).filter goodWord)
def wsX1_remainder_r1 : List Cond := [Cond.fieldLink RX1 24 "ChecksumLab" "sizes" "[I", Cond.fieldLink RX1 21 "ChecksumLab" "rows" "[[I", Cond.methodLink RX1 47 yX1_findModel, Cond.instanceMethod yX1_findModel, Cond.selects RX1 yX1_findModel yX1_findModel, Cond.initialized RX1, Cond.code yX1_findModel cX1_findModel 2 (some (.object "ChecksumLab$Model")), Cond.classLink RX1 101 "java/lang/IndexOutOfBoundsException", Cond.initialized "java/lang/IndexOutOfBoundsException", Cond.fieldLink RX1 11 "ChecksumLab" "defined" "[LChecksumLab$Model;", Cond.methodLink RX1 80 yX1_requireRow, Cond.static yX1_requireRow, Cond.code yX1_requireRow cX1_requireRow 1 none, Cond.methodLink RX1 106 yX0_divideByte, Cond.instanceMethod yX0_divideByte, Cond.selects RX0 yX0_divideByte yX0_divideByte, Cond.initialized RX0, Cond.code yX0_divideByte cX0_divideByte 5 (some .int), Cond.methodLink RX0 37 yX0_timesX, Cond.instanceMethod yX0_timesX, Cond.selects RX0 yX0_timesX yX0_timesX, Cond.code yX0_timesX cX0_timesX 3 (some .int), Cond.fieldLink RX0 31 "ChecksumLab$Model" "mask" "I", Cond.fieldLink RX0 34 "ChecksumLab$Model" "highest" "I"]
def wsX1_remainder_r2 : List Cond := [Cond.fieldLink RX0 15 "ChecksumLab$Model" "poly" "I"]
def wsX1_remainder : List Cond := .code yX1_remainder cX1_remainder 7 (some .int) :: ((wsX1_remainder_r1 ++ wsX1_remainder_r2) ++ wsX10 ++ wsX00 ++ (vx_atS RX1 105 "java/lang/IndexOutOfBoundsException" ["java/lang/RuntimeException", "java/lang/Exception"]).filter goodWord)
def wsX1_requireLength : List Cond := .code yX1_requireLength cX1_requireLength 1 none :: ([.classLink RX1 28 "java/lang/IllegalArgumentException", .initialized "java/lang/IllegalArgumentException"] ++ (vx_atS RX1 32 "java/lang/IllegalArgumentException" ["java/lang/RuntimeException", "java/lang/Exception"]).filter goodWord)
def wsX1_joined_r1 : List Cond := [Cond.fieldLink RX1 62 "ChecksumLab$Model" "width" "I", Cond.fieldLink RX1 51 "ChecksumLab$Model" "init" "I", Cond.constantLong RX1 115 (8), Cond.methodLink RX1 47 yX1_findModel, Cond.instanceMethod yX1_findModel, Cond.selects RX1 yX1_findModel yX1_findModel, Cond.initialized RX1, Cond.code yX1_findModel cX1_findModel 2 (some (.object "ChecksumLab$Model")), Cond.classLink RX1 101 "java/lang/IndexOutOfBoundsException", Cond.initialized "java/lang/IndexOutOfBoundsException", Cond.fieldLink RX1 11 "ChecksumLab" "defined" "[LChecksumLab$Model;", Cond.methodLink RX1 35 yX1_requireNumber, Cond.static yX1_requireNumber, Cond.code yX1_requireNumber cX1_requireNumber 2 none, Cond.classLink RX1 28 "java/lang/IllegalArgumentException", Cond.initialized "java/lang/IllegalArgumentException", Cond.methodLink RX1 109 yX1_requireLength, Cond.static yX1_requireLength, Cond.code yX1_requireLength cX1_requireLength 1 none, Cond.methodLink RX1 112 yX0_registerOfSum, Cond.instanceMethod yX0_registerOfSum, Cond.selects RX0 yX0_registerOfSum yX0_registerOfSum, Cond.initialized RX0, Cond.code yX0_registerOfSum cX0_registerOfSum 2 (some .int)]
def wsX1_joined_r2 : List Cond := [Cond.fieldLink RX0 28 "ChecksumLab$Model" "xorOut" "I", Cond.methodLink RX0 54 yX0_inSumOrder, Cond.instanceMethod yX0_inSumOrder, Cond.selects RX0 yX0_inSumOrder yX0_inSumOrder, Cond.code yX0_inSumOrder cX0_inSumOrder 2 (some .int), Cond.fieldLink RX0 25 "ChecksumLab$Model" "reflectOut" "Z", Cond.fieldLink RX0 9 "ChecksumLab$Model" "width" "I", Cond.static yX1_reversed, Cond.code yX1_reversed cX1_reversed 4 (some .int), Cond.methodLink RX1 70 yX0_powerOfX, Cond.instanceMethod yX0_powerOfX, Cond.selects RX0 yX0_powerOfX yX0_powerOfX, Cond.code yX0_powerOfX cX0_powerOfX 5 (some .int), Cond.methodLink RX0 41 yX0_product, Cond.instanceMethod yX0_product, Cond.selects RX0 yX0_product yX0_product, Cond.code yX0_product cX0_product 5 (some .int), Cond.methodLink RX0 37 yX0_timesX, Cond.instanceMethod yX0_timesX, Cond.selects RX0 yX0_timesX yX0_timesX, Cond.code yX0_timesX cX0_timesX 3 (some .int), Cond.fieldLink RX0 31 "ChecksumLab$Model" "mask" "I", Cond.fieldLink RX0 34 "ChecksumLab$Model" "highest" "I", Cond.fieldLink RX0 15 "ChecksumLab$Model" "poly" "I"]
def wsX1_joined_r3 : List Cond := [Cond.methodLink RX1 65 yX0_product, Cond.methodLink RX1 58 yX0_sumOfRegister, Cond.instanceMethod yX0_sumOfRegister, Cond.selects RX0 yX0_sumOfRegister yX0_sumOfRegister, Cond.code yX0_sumOfRegister cX0_sumOfRegister 2 (some .int)]
def wsX1_joined : List Cond := .code yX1_joined cX1_joined 9 (some .int) :: ((wsX1_joined_r1 ++ (wsX1_joined_r2 ++ wsX1_joined_r3)) ++ wsX00 ++ wsX10 ++ (vx_atS RX1 105 "java/lang/IndexOutOfBoundsException" ["java/lang/RuntimeException", "java/lang/Exception"]).filter goodWord ++ (vx_atS RX1 32 "java/lang/IllegalArgumentException" ["java/lang/RuntimeException", "java/lang/Exception"]).filter goodWord)
def wsX1_patched_r1 : List Cond := [Cond.fieldLink RX1 62 "ChecksumLab$Model" "width" "I", Cond.constantLong RX1 115 (8), Cond.methodLink RX1 47 yX1_findModel, Cond.instanceMethod yX1_findModel, Cond.selects RX1 yX1_findModel yX1_findModel, Cond.initialized RX1, Cond.code yX1_findModel cX1_findModel 2 (some (.object "ChecksumLab$Model")), Cond.classLink RX1 101 "java/lang/IndexOutOfBoundsException", Cond.initialized "java/lang/IndexOutOfBoundsException", Cond.fieldLink RX1 11 "ChecksumLab" "defined" "[LChecksumLab$Model;", Cond.methodLink RX1 35 yX1_requireNumber, Cond.static yX1_requireNumber, Cond.code yX1_requireNumber cX1_requireNumber 2 none, Cond.classLink RX1 28 "java/lang/IllegalArgumentException", Cond.initialized "java/lang/IllegalArgumentException", Cond.methodLink RX1 109 yX1_requireLength, Cond.static yX1_requireLength, Cond.code yX1_requireLength cX1_requireLength 1 none, Cond.methodLink RX1 84 yX1_requireByte, Cond.static yX1_requireByte, Cond.code yX1_requireByte cX1_requireByte 1 none, Cond.methodLink RX1 117 yX0_inTakenOrder, Cond.instanceMethod yX0_inTakenOrder, Cond.selects RX0 yX0_inTakenOrder yX0_inTakenOrder]
def wsX1_patched_r2 : List Cond := [Cond.initialized RX0, Cond.code yX0_inTakenOrder cX0_inTakenOrder 2 (some .int), Cond.fieldLink RX0 21 "ChecksumLab$Model" "reflectIn" "Z", Cond.static yX1_reversed, Cond.code yX1_reversed cX1_reversed 4 (some .int), Cond.methodLink RX1 106 yX0_divideByte, Cond.instanceMethod yX0_divideByte, Cond.selects RX0 yX0_divideByte yX0_divideByte, Cond.code yX0_divideByte cX0_divideByte 5 (some .int), Cond.methodLink RX0 37 yX0_timesX, Cond.instanceMethod yX0_timesX, Cond.selects RX0 yX0_timesX yX0_timesX, Cond.code yX0_timesX cX0_timesX 3 (some .int), Cond.fieldLink RX0 31 "ChecksumLab$Model" "mask" "I", Cond.fieldLink RX0 34 "ChecksumLab$Model" "highest" "I", Cond.fieldLink RX0 15 "ChecksumLab$Model" "poly" "I", Cond.methodLink RX1 70 yX0_powerOfX, Cond.instanceMethod yX0_powerOfX, Cond.selects RX0 yX0_powerOfX yX0_powerOfX, Cond.code yX0_powerOfX cX0_powerOfX 5 (some .int), Cond.methodLink RX0 41 yX0_product, Cond.instanceMethod yX0_product, Cond.selects RX0 yX0_product yX0_product, Cond.code yX0_product cX0_product 5 (some .int)]
def wsX1_patched_r3 : List Cond := [Cond.fieldLink RX0 9 "ChecksumLab$Model" "width" "I", Cond.methodLink RX1 112 yX0_registerOfSum, Cond.instanceMethod yX0_registerOfSum, Cond.selects RX0 yX0_registerOfSum yX0_registerOfSum, Cond.code yX0_registerOfSum cX0_registerOfSum 2 (some .int), Cond.fieldLink RX0 28 "ChecksumLab$Model" "xorOut" "I", Cond.methodLink RX0 54 yX0_inSumOrder, Cond.instanceMethod yX0_inSumOrder, Cond.selects RX0 yX0_inSumOrder yX0_inSumOrder, Cond.code yX0_inSumOrder cX0_inSumOrder 2 (some .int), Cond.fieldLink RX0 25 "ChecksumLab$Model" "reflectOut" "Z", Cond.methodLink RX1 65 yX0_product, Cond.methodLink RX1 58 yX0_sumOfRegister, Cond.instanceMethod yX0_sumOfRegister, Cond.selects RX0 yX0_sumOfRegister yX0_sumOfRegister, Cond.code yX0_sumOfRegister cX0_sumOfRegister 2 (some .int)]
def wsX1_patched : List Cond := .code yX1_patched cX1_patched 9 (some .int) :: ((wsX1_patched_r1 ++ (wsX1_patched_r2 ++ wsX1_patched_r3)) ++ wsX00 ++ wsX10 ++ (vx_atS RX1 105 "java/lang/IndexOutOfBoundsException" ["java/lang/RuntimeException", "java/lang/Exception"]).filter goodWord ++ (vx_atS RX1 32 "java/lang/IllegalArgumentException" ["java/lang/RuntimeException", "java/lang/Exception"]).filter goodWord)
def wsX1_wrongBit_r1 : List Cond := [Cond.classLink RX1 28 "java/lang/IllegalArgumentException", Cond.initialized "java/lang/IllegalArgumentException", Cond.fieldLink RX1 62 "ChecksumLab$Model" "width" "I", Cond.fieldLink RX1 123 "ChecksumLab$Model" "poly" "I", Cond.methodLink RX1 47 yX1_findModel, Cond.instanceMethod yX1_findModel, Cond.selects RX1 yX1_findModel yX1_findModel, Cond.initialized RX1, Cond.code yX1_findModel cX1_findModel 2 (some (.object "ChecksumLab$Model")), Cond.classLink RX1 101 "java/lang/IndexOutOfBoundsException", Cond.initialized "java/lang/IndexOutOfBoundsException", Cond.fieldLink RX1 11 "ChecksumLab" "defined" "[LChecksumLab$Model;", Cond.methodLink RX1 35 yX1_requireNumber, Cond.static yX1_requireNumber, Cond.code yX1_requireNumber cX1_requireNumber 2 none, Cond.methodLink RX1 120 yX0_inSumOrder, Cond.instanceMethod yX0_inSumOrder, Cond.selects RX0 yX0_inSumOrder yX0_inSumOrder, Cond.initialized RX0, Cond.code yX0_inSumOrder cX0_inSumOrder 2 (some .int), Cond.fieldLink RX0 25 "ChecksumLab$Model" "reflectOut" "Z", Cond.fieldLink RX0 9 "ChecksumLab$Model" "width" "I", Cond.static yX1_reversed, Cond.code yX1_reversed cX1_reversed 4 (some .int)]
def wsX1_wrongBit_r2 : List Cond := [Cond.methodLink RX1 77 yX0_timesX, Cond.instanceMethod yX0_timesX, Cond.selects RX0 yX0_timesX yX0_timesX, Cond.code yX0_timesX cX0_timesX 3 (some .int), Cond.fieldLink RX0 31 "ChecksumLab$Model" "mask" "I", Cond.fieldLink RX0 34 "ChecksumLab$Model" "highest" "I", Cond.fieldLink RX0 15 "ChecksumLab$Model" "poly" "I"]
def wsX1_wrongBit : List Cond := .code yX1_wrongBit cX1_wrongBit 9 (some .int) :: ((wsX1_wrongBit_r1 ++ wsX1_wrongBit_r2) ++ wsX00 ++ wsX10 ++ (vx_atS RX1 32 "java/lang/IllegalArgumentException" ["java/lang/RuntimeException", "java/lang/Exception"]).filter goodWord ++ (vx_atS RX1 105 "java/lang/IndexOutOfBoundsException" ["java/lang/RuntimeException", "java/lang/Exception"]).filter goodWord)
def wsX1_fletcher : List Cond := .code yX1_fletcher cX1_fletcher 6 (some .int) :: ([.fieldLink RX1 24 "ChecksumLab" "sizes" "[I", .fieldLink RX1 21 "ChecksumLab" "rows" "[[I", .methodLink RX1 80 yX1_requireRow, .static yX1_requireRow, .initialized RX1, .code yX1_requireRow cX1_requireRow 1 none, .classLink RX1 101 "java/lang/IndexOutOfBoundsException", .initialized "java/lang/IndexOutOfBoundsException"] ++ wsX10 ++ (vx_atS RX1 105 "java/lang/IndexOutOfBoundsException" ["java/lang/RuntimeException", "java/lang/Exception"]).filter goodWord)
def wsX1_requireFletcher : List Cond := .code yX1_requireFletcher cX1_requireFletcher 1 none :: ([.classLink RX1 28 "java/lang/IllegalArgumentException", .initialized "java/lang/IllegalArgumentException"] ++ (vx_atS RX1 32 "java/lang/IllegalArgumentException" ["java/lang/RuntimeException", "java/lang/Exception"]).filter goodWord)
def wsX1_fletcherJoined : List Cond := .code yX1_fletcherJoined cX1_fletcherJoined 10 (some .int) :: ([.constantLong RX1 129 (255), .methodLink RX1 126 yX1_requireFletcher, .static yX1_requireFletcher, .initialized RX1, .code yX1_requireFletcher cX1_requireFletcher 1 none, .classLink RX1 28 "java/lang/IllegalArgumentException", .initialized "java/lang/IllegalArgumentException", .methodLink RX1 109 yX1_requireLength, .static yX1_requireLength, .code yX1_requireLength cX1_requireLength 1 none] ++ (vx_atS RX1 32 "java/lang/IllegalArgumentException" ["java/lang/RuntimeException", "java/lang/Exception"]).filter goodWord)
def wsJ9_floorMod_f86c9 : List Cond := .code yJ9_floorMod_f86c9 cJ9_floorMod_f86c9 6 (some .long) :: ([])
def wsX1_adlerSum : List Cond := .code yX1_adlerSum cX1_adlerSum 6 (some .int) :: ([.constantLong RX1 166 (65521), .methodLink RX1 168 yJ9_floorMod_f86c9, .static yJ9_floorMod_f86c9, .initialized RJ9, .code yJ9_floorMod_f86c9 cJ9_floorMod_f86c9 6 (some .long)])
def wsX1_adler : List Cond := .code yX1_adler cX1_adler 6 (some .int) :: ([.fieldLink RX1 24 "ChecksumLab" "sizes" "[I", .fieldLink RX1 21 "ChecksumLab" "rows" "[[I", .constant RX1 131 (65521), .methodLink RX1 80 yX1_requireRow, .static yX1_requireRow, .initialized RX1, .code yX1_requireRow cX1_requireRow 1 none, .classLink RX1 101 "java/lang/IndexOutOfBoundsException", .initialized "java/lang/IndexOutOfBoundsException", .methodLink RX1 132 yX1_adlerSum, .static yX1_adlerSum, .code yX1_adlerSum cX1_adlerSum 6 (some .int), .constantLong RX1 166 (65521), .methodLink RX1 168 yJ9_floorMod_f86c9, .static yJ9_floorMod_f86c9, .initialized RJ9, .code yJ9_floorMod_f86c9 cJ9_floorMod_f86c9 6 (some .long)] ++ wsX10 ++ (vx_atS RX1 105 "java/lang/IndexOutOfBoundsException" ["java/lang/RuntimeException", "java/lang/Exception"]).filter goodWord)
def wsX1_adlerA : List Cond := .code yX1_adlerA cX1_adlerA 1 (some .int) :: ([.constant RX1 165 (65535)])
def wsX1_adlerB : List Cond := .code yX1_adlerB cX1_adlerB 1 (some .int) :: ([])
def wsX1_requireAdler : List Cond := .code yX1_requireAdler cX1_requireAdler 1 none :: ([.classLink RX1 28 "java/lang/IllegalArgumentException", .initialized "java/lang/IllegalArgumentException", .constant RX1 131 (65521), .methodLink RX1 139 yX1_adlerA, .static yX1_adlerA, .initialized RX1, .code yX1_adlerA cX1_adlerA 1 (some .int), .constant RX1 165 (65535), .methodLink RX1 142 yX1_adlerB, .static yX1_adlerB, .code yX1_adlerB cX1_adlerB 1 (some .int)] ++ (vx_atS RX1 32 "java/lang/IllegalArgumentException" ["java/lang/RuntimeException", "java/lang/Exception"]).filter goodWord)
def wsX1_adlerJoined_r1 : List Cond := [Cond.methodLink RX1 136 yX1_requireAdler, Cond.static yX1_requireAdler, Cond.initialized RX1, Cond.code yX1_requireAdler cX1_requireAdler 1 none, Cond.classLink RX1 28 "java/lang/IllegalArgumentException", Cond.initialized "java/lang/IllegalArgumentException", Cond.constant RX1 131 (65521), Cond.methodLink RX1 139 yX1_adlerA, Cond.static yX1_adlerA, Cond.code yX1_adlerA cX1_adlerA 1 (some .int), Cond.constant RX1 165 (65535), Cond.methodLink RX1 142 yX1_adlerB, Cond.static yX1_adlerB, Cond.code yX1_adlerB cX1_adlerB 1 (some .int), Cond.methodLink RX1 109 yX1_requireLength, Cond.static yX1_requireLength, Cond.code yX1_requireLength cX1_requireLength 1 none, Cond.methodLink RX1 132 yX1_adlerSum, Cond.static yX1_adlerSum, Cond.code yX1_adlerSum cX1_adlerSum 6 (some .int), Cond.constantLong RX1 166 (65521), Cond.methodLink RX1 168 yJ9_floorMod_f86c9, Cond.static yJ9_floorMod_f86c9, Cond.initialized RJ9]
def wsX1_adlerJoined_r2 : List Cond := [Cond.code yJ9_floorMod_f86c9 cJ9_floorMod_f86c9 6 (some .long)]
def wsX1_adlerJoined : List Cond := .code yX1_adlerJoined cX1_adlerJoined 10 (some .int) :: ((wsX1_adlerJoined_r1 ++ wsX1_adlerJoined_r2) ++ (vx_atS RX1 32 "java/lang/IllegalArgumentException" ["java/lang/RuntimeException", "java/lang/Exception"]).filter goodWord)
def wsX1_adlerRolled_r1 : List Cond := [Cond.classLink RX1 28 "java/lang/IllegalArgumentException", Cond.initialized "java/lang/IllegalArgumentException", Cond.methodLink RX1 136 yX1_requireAdler, Cond.static yX1_requireAdler, Cond.initialized RX1, Cond.code yX1_requireAdler cX1_requireAdler 1 none, Cond.constant RX1 131 (65521), Cond.methodLink RX1 139 yX1_adlerA, Cond.static yX1_adlerA, Cond.code yX1_adlerA cX1_adlerA 1 (some .int), Cond.constant RX1 165 (65535), Cond.methodLink RX1 142 yX1_adlerB, Cond.static yX1_adlerB, Cond.code yX1_adlerB cX1_adlerB 1 (some .int), Cond.methodLink RX1 84 yX1_requireByte, Cond.static yX1_requireByte, Cond.code yX1_requireByte cX1_requireByte 1 none, Cond.methodLink RX1 132 yX1_adlerSum, Cond.static yX1_adlerSum, Cond.code yX1_adlerSum cX1_adlerSum 6 (some .int), Cond.constantLong RX1 166 (65521), Cond.methodLink RX1 168 yJ9_floorMod_f86c9, Cond.static yJ9_floorMod_f86c9, Cond.initialized RJ9]
def wsX1_adlerRolled_r2 : List Cond := [Cond.code yJ9_floorMod_f86c9 cJ9_floorMod_f86c9 6 (some .long)]
def wsX1_adlerRolled : List Cond := .code yX1_adlerRolled cX1_adlerRolled 9 (some .int) :: ((wsX1_adlerRolled_r1 ++ wsX1_adlerRolled_r2) ++ (vx_atS RX1 32 "java/lang/IllegalArgumentException" ["java/lang/RuntimeException", "java/lang/Exception"]).filter goodWord)
def wsX2_init : List Cond := .code yX2_init cX2_init 1 none :: ([.methodLink RX2 1 objectInit, .instanceMethod objectInit, .code objectInit ⟨#[0xb1]⟩ 1 none, .arrayClass .int, .fieldLink RX2 7 "ChecksumLabModel" "width" "[I", .fieldLink RX2 13 "ChecksumLabModel" "poly" "[I", .fieldLink RX2 16 "ChecksumLabModel" "init" "[I", .fieldLink RX2 19 "ChecksumLabModel" "xorOut" "[I", .arrayClass .boolean, .fieldLink RX2 22 "ChecksumLabModel" "reflectIn" "[Z", .fieldLink RX2 26 "ChecksumLabModel" "reflectOut" "[Z", .fieldLink RX2 29 "ChecksumLabModel" "bytes" "[I", .fieldLink RX2 32 "ChecksumLabModel" "length" "[I"] ++ wsX20)
def wsX2_thrown : List Cond := .code yX2_thrown cX2_thrown 1 (some .int) :: ([.fieldLink RX2 35 "ChecksumLabModel" "thrown" "I"] ++ wsX20)
def wsX2_in : List Cond := .code yX2_in cX2_in 3 (some .boolean) :: ([])
def wsX2_isModel : List Cond := .code yX2_isModel cX2_isModel 2 (some .boolean) :: ([.fieldLink RX2 39 "ChecksumLabModel" "models" "I", .methodLink RX2 42 yX2_in, .static yX2_in, .initialized RX2, .code yX2_in cX2_in 3 (some .boolean)] ++ wsX20)
def wsX2_isRow : List Cond := .code yX2_isRow cX2_isRow 1 (some .boolean) :: ([.methodLink RX2 42 yX2_in, .static yX2_in, .initialized RX2, .code yX2_in cX2_in 3 (some .boolean)])
def wsX2_isByte : List Cond := .code yX2_isByte cX2_isByte 1 (some .boolean) :: ([.methodLink RX2 42 yX2_in, .static yX2_in, .initialized RX2, .code yX2_in cX2_in 3 (some .boolean)])
def wsX2_hasBits : List Cond := .code yX2_hasBits cX2_hasBits 2 (some .boolean) :: ([])
def wsX2_isNumber : List Cond := .code yX2_isNumber cX2_isNumber 3 (some .boolean) :: ([.fieldLink RX2 7 "ChecksumLabModel" "width" "[I", .methodLink RX2 46 yX2_hasBits, .static yX2_hasBits, .initialized RX2, .code yX2_hasBits cX2_hasBits 2 (some .boolean)] ++ wsX20)
def wsX2_asked : List Cond := .code yX2_asked cX2_asked 2 (some .boolean) :: ([.fieldLink RX2 35 "ChecksumLabModel" "thrown" "I"] ++ wsX20)
def wsX2_asked_ : List Cond := .code yX2_asked_ cX2_asked_ 3 (some .boolean) :: ([.fieldLink RX2 35 "ChecksumLabModel" "thrown" "I"] ++ wsX20)
def wsX2_timesX : List Cond := .code yX2_timesX cX2_timesX 5 (some .int) :: ([.fieldLink RX2 7 "ChecksumLabModel" "width" "[I", .fieldLink RX2 13 "ChecksumLabModel" "poly" "[I"] ++ wsX20)
def wsX2_times : List Cond := .code yX2_times cX2_times 7 (some .int) :: ([.methodLink RX2 50 yX2_timesX, .instanceMethod yX2_timesX, .selects RX2 yX2_timesX yX2_timesX, .initialized RX2, .code yX2_timesX cX2_timesX 5 (some .int), .fieldLink RX2 7 "ChecksumLabModel" "width" "[I", .fieldLink RX2 13 "ChecksumLabModel" "poly" "[I"] ++ wsX20)
def wsX2_powerOf : List Cond := .code yX2_powerOf cX2_powerOf 6 (some .int) :: ([.fieldLink RX2 7 "ChecksumLabModel" "width" "[I", .methodLink RX2 54 yX2_times, .instanceMethod yX2_times, .selects RX2 yX2_times yX2_times, .initialized RX2, .code yX2_times cX2_times 7 (some .int), .methodLink RX2 50 yX2_timesX, .instanceMethod yX2_timesX, .selects RX2 yX2_timesX yX2_timesX, .code yX2_timesX cX2_timesX 5 (some .int), .fieldLink RX2 13 "ChecksumLabModel" "poly" "[I"] ++ wsX20)
def wsX2_reversed : List Cond := .code yX2_reversed cX2_reversed 4 (some .int) :: ([])
def wsX2_registerOf : List Cond := .code yX2_registerOf cX2_registerOf 4 (some .int) :: ([.fieldLink RX2 19 "ChecksumLabModel" "xorOut" "[I", .fieldLink RX2 26 "ChecksumLabModel" "reflectOut" "[Z", .fieldLink RX2 7 "ChecksumLabModel" "width" "[I", .methodLink RX2 58 yX2_reversed, .static yX2_reversed, .initialized RX2, .code yX2_reversed cX2_reversed 4 (some .int)] ++ wsX20)
def wsX2_sumOf : List Cond := .code yX2_sumOf cX2_sumOf 4 (some .int) :: ([.fieldLink RX2 26 "ChecksumLabModel" "reflectOut" "[Z", .fieldLink RX2 7 "ChecksumLabModel" "width" "[I", .fieldLink RX2 19 "ChecksumLabModel" "xorOut" "[I", .methodLink RX2 58 yX2_reversed, .static yX2_reversed, .initialized RX2, .code yX2_reversed cX2_reversed 4 (some .int)] ++ wsX20)
def wsX2_takes : List Cond := .code yX2_takes cX2_takes 7 (some .int) :: ([.fieldLink RX2 22 "ChecksumLabModel" "reflectIn" "[Z", .fieldLink RX2 7 "ChecksumLabModel" "width" "[I", .methodLink RX2 50 yX2_timesX, .instanceMethod yX2_timesX, .selects RX2 yX2_timesX yX2_timesX, .initialized RX2, .code yX2_timesX cX2_timesX 5 (some .int), .fieldLink RX2 13 "ChecksumLabModel" "poly" "[I"] ++ wsX20)
def wsX2_define : List Cond := .code yX2_define cX2_define 8 (some .int) :: ([.fieldLink RX2 39 "ChecksumLabModel" "models" "I", .fieldLink RX2 7 "ChecksumLabModel" "width" "[I", .fieldLink RX2 13 "ChecksumLabModel" "poly" "[I", .fieldLink RX2 16 "ChecksumLabModel" "init" "[I", .fieldLink RX2 19 "ChecksumLabModel" "xorOut" "[I", .fieldLink RX2 22 "ChecksumLabModel" "reflectIn" "[Z", .fieldLink RX2 26 "ChecksumLabModel" "reflectOut" "[Z", .methodLink RX2 42 yX2_in, .static yX2_in, .initialized RX2, .code yX2_in cX2_in 3 (some .boolean), .methodLink RX2 46 yX2_hasBits, .static yX2_hasBits, .code yX2_hasBits cX2_hasBits 2 (some .boolean), .methodLink RX2 61 yX2_asked_, .instanceMethod yX2_asked_, .selects RX2 yX2_asked_ yX2_asked_, .code yX2_asked_ cX2_asked_ 3 (some .boolean), .fieldLink RX2 35 "ChecksumLabModel" "thrown" "I"] ++ wsX20)
def wsX2_models : List Cond := .code yX2_models cX2_models 1 (some .int) :: ([.fieldLink RX2 35 "ChecksumLabModel" "thrown" "I", .fieldLink RX2 39 "ChecksumLabModel" "models" "I"] ++ wsX20)
def wsX2_check_r1 : List Cond := [Cond.fieldLink RX2 16 "ChecksumLabModel" "init" "[I", Cond.methodLink RX2 65 yX2_isModel, Cond.instanceMethod yX2_isModel, Cond.selects RX2 yX2_isModel yX2_isModel, Cond.initialized RX2, Cond.code yX2_isModel cX2_isModel 2 (some .boolean), Cond.fieldLink RX2 39 "ChecksumLabModel" "models" "I", Cond.methodLink RX2 42 yX2_in, Cond.static yX2_in, Cond.code yX2_in cX2_in 3 (some .boolean), Cond.methodLink RX2 69 yX2_asked, Cond.instanceMethod yX2_asked, Cond.selects RX2 yX2_asked yX2_asked, Cond.code yX2_asked cX2_asked 2 (some .boolean), Cond.fieldLink RX2 35 "ChecksumLabModel" "thrown" "I", Cond.methodLink RX2 72 yX2_takes, Cond.instanceMethod yX2_takes, Cond.selects RX2 yX2_takes yX2_takes, Cond.code yX2_takes cX2_takes 7 (some .int), Cond.fieldLink RX2 22 "ChecksumLabModel" "reflectIn" "[Z", Cond.fieldLink RX2 7 "ChecksumLabModel" "width" "[I", Cond.methodLink RX2 50 yX2_timesX, Cond.instanceMethod yX2_timesX, Cond.selects RX2 yX2_timesX yX2_timesX]
def wsX2_check_r2 : List Cond := [Cond.code yX2_timesX cX2_timesX 5 (some .int), Cond.fieldLink RX2 13 "ChecksumLabModel" "poly" "[I", Cond.methodLink RX2 76 yX2_sumOf, Cond.instanceMethod yX2_sumOf, Cond.selects RX2 yX2_sumOf yX2_sumOf, Cond.code yX2_sumOf cX2_sumOf 4 (some .int), Cond.fieldLink RX2 26 "ChecksumLabModel" "reflectOut" "[Z", Cond.fieldLink RX2 19 "ChecksumLabModel" "xorOut" "[I", Cond.methodLink RX2 58 yX2_reversed, Cond.static yX2_reversed, Cond.code yX2_reversed cX2_reversed 4 (some .int)]
def wsX2_check : List Cond := .code yX2_check cX2_check 4 (some .int) :: ((wsX2_check_r1 ++ wsX2_check_r2) ++ wsX20)
def wsX2_multiply_r1 : List Cond := [Cond.fieldLink RX2 7 "ChecksumLabModel" "width" "[I", Cond.methodLink RX2 65 yX2_isModel, Cond.instanceMethod yX2_isModel, Cond.selects RX2 yX2_isModel yX2_isModel, Cond.initialized RX2, Cond.code yX2_isModel cX2_isModel 2 (some .boolean), Cond.fieldLink RX2 39 "ChecksumLabModel" "models" "I", Cond.methodLink RX2 42 yX2_in, Cond.static yX2_in, Cond.code yX2_in cX2_in 3 (some .boolean), Cond.methodLink RX2 79 yX2_isNumber, Cond.instanceMethod yX2_isNumber, Cond.selects RX2 yX2_isNumber yX2_isNumber, Cond.code yX2_isNumber cX2_isNumber 3 (some .boolean), Cond.methodLink RX2 46 yX2_hasBits, Cond.static yX2_hasBits, Cond.code yX2_hasBits cX2_hasBits 2 (some .boolean), Cond.methodLink RX2 61 yX2_asked_, Cond.instanceMethod yX2_asked_, Cond.selects RX2 yX2_asked_ yX2_asked_, Cond.code yX2_asked_ cX2_asked_ 3 (some .boolean), Cond.fieldLink RX2 35 "ChecksumLabModel" "thrown" "I", Cond.methodLink RX2 54 yX2_times, Cond.instanceMethod yX2_times]
def wsX2_multiply_r2 : List Cond := [Cond.selects RX2 yX2_times yX2_times, Cond.code yX2_times cX2_times 7 (some .int), Cond.methodLink RX2 50 yX2_timesX, Cond.instanceMethod yX2_timesX, Cond.selects RX2 yX2_timesX yX2_timesX, Cond.code yX2_timesX cX2_timesX 5 (some .int), Cond.fieldLink RX2 13 "ChecksumLabModel" "poly" "[I"]
def wsX2_multiply : List Cond := .code yX2_multiply cX2_multiply 5 (some .int) :: ((wsX2_multiply_r1 ++ wsX2_multiply_r2) ++ wsX20)
def wsX2_power_r1 : List Cond := [Cond.methodLink RX2 65 yX2_isModel, Cond.instanceMethod yX2_isModel, Cond.selects RX2 yX2_isModel yX2_isModel, Cond.initialized RX2, Cond.code yX2_isModel cX2_isModel 2 (some .boolean), Cond.fieldLink RX2 39 "ChecksumLabModel" "models" "I", Cond.methodLink RX2 42 yX2_in, Cond.static yX2_in, Cond.code yX2_in cX2_in 3 (some .boolean), Cond.methodLink RX2 61 yX2_asked_, Cond.instanceMethod yX2_asked_, Cond.selects RX2 yX2_asked_ yX2_asked_, Cond.code yX2_asked_ cX2_asked_ 3 (some .boolean), Cond.fieldLink RX2 35 "ChecksumLabModel" "thrown" "I", Cond.methodLink RX2 82 yX2_powerOf, Cond.instanceMethod yX2_powerOf, Cond.selects RX2 yX2_powerOf yX2_powerOf, Cond.code yX2_powerOf cX2_powerOf 6 (some .int), Cond.fieldLink RX2 7 "ChecksumLabModel" "width" "[I", Cond.methodLink RX2 54 yX2_times, Cond.instanceMethod yX2_times, Cond.selects RX2 yX2_times yX2_times, Cond.code yX2_times cX2_times 7 (some .int), Cond.methodLink RX2 50 yX2_timesX]
def wsX2_power_r2 : List Cond := [Cond.instanceMethod yX2_timesX, Cond.selects RX2 yX2_timesX yX2_timesX, Cond.code yX2_timesX cX2_timesX 5 (some .int), Cond.fieldLink RX2 13 "ChecksumLabModel" "poly" "[I"]
def wsX2_power : List Cond := .code yX2_power cX2_power 4 (some .int) :: ((wsX2_power_r1 ++ wsX2_power_r2) ++ wsX20)
def wsX2_period : List Cond := .code yX2_period cX2_period 5 (some .int) :: ([.constant RX2 86 (70000), .methodLink RX2 65 yX2_isModel, .instanceMethod yX2_isModel, .selects RX2 yX2_isModel yX2_isModel, .initialized RX2, .code yX2_isModel cX2_isModel 2 (some .boolean), .fieldLink RX2 39 "ChecksumLabModel" "models" "I", .methodLink RX2 42 yX2_in, .static yX2_in, .code yX2_in cX2_in 3 (some .boolean), .methodLink RX2 61 yX2_asked_, .instanceMethod yX2_asked_, .selects RX2 yX2_asked_ yX2_asked_, .code yX2_asked_ cX2_asked_ 3 (some .boolean), .fieldLink RX2 35 "ChecksumLabModel" "thrown" "I", .methodLink RX2 50 yX2_timesX, .instanceMethod yX2_timesX, .selects RX2 yX2_timesX yX2_timesX, .code yX2_timesX cX2_timesX 5 (some .int), .fieldLink RX2 7 "ChecksumLabModel" "width" "[I", .fieldLink RX2 13 "ChecksumLabModel" "poly" "[I"] ++ wsX20)
def wsX2_puts : List Cond := .code yX2_puts cX2_puts 3 none :: ([.fieldLink RX2 29 "ChecksumLabModel" "bytes" "[I", .fieldLink RX2 32 "ChecksumLabModel" "length" "[I"] ++ wsX20)
def wsX2_append : List Cond := .code yX2_append cX2_append 3 (some .int) :: ([.fieldLink RX2 32 "ChecksumLabModel" "length" "[I", .fieldLink RX2 35 "ChecksumLabModel" "thrown" "I", .methodLink RX2 87 yX2_isRow, .static yX2_isRow, .initialized RX2, .code yX2_isRow cX2_isRow 1 (some .boolean), .methodLink RX2 42 yX2_in, .static yX2_in, .code yX2_in cX2_in 3 (some .boolean), .methodLink RX2 90 yX2_isByte, .static yX2_isByte, .code yX2_isByte cX2_isByte 1 (some .boolean), .methodLink RX2 93 yX2_puts, .instanceMethod yX2_puts, .selects RX2 yX2_puts yX2_puts, .code yX2_puts cX2_puts 3 none, .fieldLink RX2 29 "ChecksumLabModel" "bytes" "[I"] ++ wsX20)
def wsX2_appendSeries : List Cond := .code yX2_appendSeries cX2_appendSeries 7 (some .int) :: ([.fieldLink RX2 32 "ChecksumLabModel" "length" "[I", .fieldLink RX2 35 "ChecksumLabModel" "thrown" "I", .methodLink RX2 90 yX2_isByte, .static yX2_isByte, .initialized RX2, .code yX2_isByte cX2_isByte 1 (some .boolean), .methodLink RX2 42 yX2_in, .static yX2_in, .code yX2_in cX2_in 3 (some .boolean), .methodLink RX2 87 yX2_isRow, .static yX2_isRow, .code yX2_isRow cX2_isRow 1 (some .boolean), .methodLink RX2 93 yX2_puts, .instanceMethod yX2_puts, .selects RX2 yX2_puts yX2_puts, .code yX2_puts cX2_puts 3 none, .fieldLink RX2 29 "ChecksumLabModel" "bytes" "[I"] ++ wsX20)
def wsX2_appendRow : List Cond := .code yX2_appendRow cX2_appendRow 6 (some .int) :: ([.fieldLink RX2 32 "ChecksumLabModel" "length" "[I", .fieldLink RX2 29 "ChecksumLabModel" "bytes" "[I", .methodLink RX2 87 yX2_isRow, .static yX2_isRow, .initialized RX2, .code yX2_isRow cX2_isRow 1 (some .boolean), .methodLink RX2 42 yX2_in, .static yX2_in, .code yX2_in cX2_in 3 (some .boolean), .methodLink RX2 61 yX2_asked_, .instanceMethod yX2_asked_, .selects RX2 yX2_asked_ yX2_asked_, .code yX2_asked_ cX2_asked_ 3 (some .boolean), .fieldLink RX2 35 "ChecksumLabModel" "thrown" "I", .methodLink RX2 93 yX2_puts, .instanceMethod yX2_puts, .selects RX2 yX2_puts yX2_puts, .code yX2_puts cX2_puts 3 none] ++ wsX20)
def wsX2_isPlace : List Cond := .code yX2_isPlace cX2_isPlace 3 (some .boolean) :: ([.fieldLink RX2 32 "ChecksumLabModel" "length" "[I", .methodLink RX2 87 yX2_isRow, .static yX2_isRow, .initialized RX2, .code yX2_isRow cX2_isRow 1 (some .boolean), .methodLink RX2 42 yX2_in, .static yX2_in, .code yX2_in cX2_in 3 (some .boolean)] ++ wsX20)
def wsX2_setByte : List Cond := .code yX2_setByte cX2_setByte 5 (some .int) :: ([.fieldLink RX2 29 "ChecksumLabModel" "bytes" "[I", .methodLink RX2 97 yX2_isPlace, .instanceMethod yX2_isPlace, .selects RX2 yX2_isPlace yX2_isPlace, .initialized RX2, .code yX2_isPlace cX2_isPlace 3 (some .boolean), .fieldLink RX2 32 "ChecksumLabModel" "length" "[I", .methodLink RX2 87 yX2_isRow, .static yX2_isRow, .code yX2_isRow cX2_isRow 1 (some .boolean), .methodLink RX2 42 yX2_in, .static yX2_in, .code yX2_in cX2_in 3 (some .boolean), .methodLink RX2 90 yX2_isByte, .static yX2_isByte, .code yX2_isByte cX2_isByte 1 (some .boolean), .methodLink RX2 61 yX2_asked_, .instanceMethod yX2_asked_, .selects RX2 yX2_asked_ yX2_asked_, .code yX2_asked_ cX2_asked_ 3 (some .boolean), .fieldLink RX2 35 "ChecksumLabModel" "thrown" "I"] ++ wsX20)
def wsX2_truncate : List Cond := .code yX2_truncate cX2_truncate 5 (some .int) :: ([.fieldLink RX2 32 "ChecksumLabModel" "length" "[I", .methodLink RX2 87 yX2_isRow, .static yX2_isRow, .initialized RX2, .code yX2_isRow cX2_isRow 1 (some .boolean), .methodLink RX2 42 yX2_in, .static yX2_in, .code yX2_in cX2_in 3 (some .boolean), .methodLink RX2 61 yX2_asked_, .instanceMethod yX2_asked_, .selects RX2 yX2_asked_ yX2_asked_, .code yX2_asked_ cX2_asked_ 3 (some .boolean), .fieldLink RX2 35 "ChecksumLabModel" "thrown" "I"] ++ wsX20)
def wsX2_length : List Cond := .code yX2_length cX2_length 2 (some .int) :: ([.fieldLink RX2 32 "ChecksumLabModel" "length" "[I", .methodLink RX2 87 yX2_isRow, .static yX2_isRow, .initialized RX2, .code yX2_isRow cX2_isRow 1 (some .boolean), .methodLink RX2 42 yX2_in, .static yX2_in, .code yX2_in cX2_in 3 (some .boolean), .methodLink RX2 69 yX2_asked, .instanceMethod yX2_asked, .selects RX2 yX2_asked yX2_asked, .code yX2_asked cX2_asked 2 (some .boolean), .fieldLink RX2 35 "ChecksumLabModel" "thrown" "I"] ++ wsX20)
def wsX2_byteAt : List Cond := .code yX2_byteAt cX2_byteAt 3 (some .int) :: ([.fieldLink RX2 29 "ChecksumLabModel" "bytes" "[I", .methodLink RX2 97 yX2_isPlace, .instanceMethod yX2_isPlace, .selects RX2 yX2_isPlace yX2_isPlace, .initialized RX2, .code yX2_isPlace cX2_isPlace 3 (some .boolean), .fieldLink RX2 32 "ChecksumLabModel" "length" "[I", .methodLink RX2 87 yX2_isRow, .static yX2_isRow, .code yX2_isRow cX2_isRow 1 (some .boolean), .methodLink RX2 42 yX2_in, .static yX2_in, .code yX2_in cX2_in 3 (some .boolean), .methodLink RX2 69 yX2_asked, .instanceMethod yX2_asked, .selects RX2 yX2_asked yX2_asked, .code yX2_asked cX2_asked 2 (some .boolean), .fieldLink RX2 35 "ChecksumLabModel" "thrown" "I"] ++ wsX20)
def wsX2_part : List Cond := .code yX2_part cX2_part 7 (some .int) :: ([.fieldLink RX2 16 "ChecksumLabModel" "init" "[I", .fieldLink RX2 29 "ChecksumLabModel" "bytes" "[I", .methodLink RX2 72 yX2_takes, .instanceMethod yX2_takes, .selects RX2 yX2_takes yX2_takes, .initialized RX2, .code yX2_takes cX2_takes 7 (some .int), .fieldLink RX2 22 "ChecksumLabModel" "reflectIn" "[Z", .fieldLink RX2 7 "ChecksumLabModel" "width" "[I", .methodLink RX2 50 yX2_timesX, .instanceMethod yX2_timesX, .selects RX2 yX2_timesX yX2_timesX, .code yX2_timesX cX2_timesX 5 (some .int), .fieldLink RX2 13 "ChecksumLabModel" "poly" "[I", .methodLink RX2 76 yX2_sumOf, .instanceMethod yX2_sumOf, .selects RX2 yX2_sumOf yX2_sumOf, .code yX2_sumOf cX2_sumOf 4 (some .int), .fieldLink RX2 26 "ChecksumLabModel" "reflectOut" "[Z", .fieldLink RX2 19 "ChecksumLabModel" "xorOut" "[I", .methodLink RX2 58 yX2_reversed, .static yX2_reversed, .code yX2_reversed cX2_reversed 4 (some .int)] ++ wsX20)
def wsX2_sum_r1 : List Cond := [Cond.fieldLink RX2 32 "ChecksumLabModel" "length" "[I", Cond.methodLink RX2 65 yX2_isModel, Cond.instanceMethod yX2_isModel, Cond.selects RX2 yX2_isModel yX2_isModel, Cond.initialized RX2, Cond.code yX2_isModel cX2_isModel 2 (some .boolean), Cond.fieldLink RX2 39 "ChecksumLabModel" "models" "I", Cond.methodLink RX2 42 yX2_in, Cond.static yX2_in, Cond.code yX2_in cX2_in 3 (some .boolean), Cond.methodLink RX2 87 yX2_isRow, Cond.static yX2_isRow, Cond.code yX2_isRow cX2_isRow 1 (some .boolean), Cond.methodLink RX2 69 yX2_asked, Cond.instanceMethod yX2_asked, Cond.selects RX2 yX2_asked yX2_asked, Cond.code yX2_asked cX2_asked 2 (some .boolean), Cond.fieldLink RX2 35 "ChecksumLabModel" "thrown" "I", Cond.methodLink RX2 100 yX2_part, Cond.instanceMethod yX2_part, Cond.selects RX2 yX2_part yX2_part, Cond.code yX2_part cX2_part 7 (some .int), Cond.fieldLink RX2 16 "ChecksumLabModel" "init" "[I", Cond.fieldLink RX2 29 "ChecksumLabModel" "bytes" "[I"]
def wsX2_sum_r2 : List Cond := [Cond.methodLink RX2 72 yX2_takes, Cond.instanceMethod yX2_takes, Cond.selects RX2 yX2_takes yX2_takes, Cond.code yX2_takes cX2_takes 7 (some .int), Cond.fieldLink RX2 22 "ChecksumLabModel" "reflectIn" "[Z", Cond.fieldLink RX2 7 "ChecksumLabModel" "width" "[I", Cond.methodLink RX2 50 yX2_timesX, Cond.instanceMethod yX2_timesX, Cond.selects RX2 yX2_timesX yX2_timesX, Cond.code yX2_timesX cX2_timesX 5 (some .int), Cond.fieldLink RX2 13 "ChecksumLabModel" "poly" "[I", Cond.methodLink RX2 76 yX2_sumOf, Cond.instanceMethod yX2_sumOf, Cond.selects RX2 yX2_sumOf yX2_sumOf, Cond.code yX2_sumOf cX2_sumOf 4 (some .int), Cond.fieldLink RX2 26 "ChecksumLabModel" "reflectOut" "[Z", Cond.fieldLink RX2 19 "ChecksumLabModel" "xorOut" "[I", Cond.methodLink RX2 58 yX2_reversed, Cond.static yX2_reversed, Cond.code yX2_reversed cX2_reversed 4 (some .int)]
def wsX2_sum : List Cond := .code yX2_sum cX2_sum 3 (some .int) :: ((wsX2_sum_r1 ++ wsX2_sum_r2) ++ wsX20)
def wsX2_sumOfPart_r1 : List Cond := [Cond.fieldLink RX2 32 "ChecksumLabModel" "length" "[I", Cond.methodLink RX2 65 yX2_isModel, Cond.instanceMethod yX2_isModel, Cond.selects RX2 yX2_isModel yX2_isModel, Cond.initialized RX2, Cond.code yX2_isModel cX2_isModel 2 (some .boolean), Cond.fieldLink RX2 39 "ChecksumLabModel" "models" "I", Cond.methodLink RX2 42 yX2_in, Cond.static yX2_in, Cond.code yX2_in cX2_in 3 (some .boolean), Cond.methodLink RX2 87 yX2_isRow, Cond.static yX2_isRow, Cond.code yX2_isRow cX2_isRow 1 (some .boolean), Cond.methodLink RX2 69 yX2_asked, Cond.instanceMethod yX2_asked, Cond.selects RX2 yX2_asked yX2_asked, Cond.code yX2_asked cX2_asked 2 (some .boolean), Cond.fieldLink RX2 35 "ChecksumLabModel" "thrown" "I", Cond.methodLink RX2 100 yX2_part, Cond.instanceMethod yX2_part, Cond.selects RX2 yX2_part yX2_part, Cond.code yX2_part cX2_part 7 (some .int), Cond.fieldLink RX2 16 "ChecksumLabModel" "init" "[I", Cond.fieldLink RX2 29 "ChecksumLabModel" "bytes" "[I"]
def wsX2_sumOfPart_r2 : List Cond := [Cond.methodLink RX2 72 yX2_takes, Cond.instanceMethod yX2_takes, Cond.selects RX2 yX2_takes yX2_takes, Cond.code yX2_takes cX2_takes 7 (some .int), Cond.fieldLink RX2 22 "ChecksumLabModel" "reflectIn" "[Z", Cond.fieldLink RX2 7 "ChecksumLabModel" "width" "[I", Cond.methodLink RX2 50 yX2_timesX, Cond.instanceMethod yX2_timesX, Cond.selects RX2 yX2_timesX yX2_timesX, Cond.code yX2_timesX cX2_timesX 5 (some .int), Cond.fieldLink RX2 13 "ChecksumLabModel" "poly" "[I", Cond.methodLink RX2 76 yX2_sumOf, Cond.instanceMethod yX2_sumOf, Cond.selects RX2 yX2_sumOf yX2_sumOf, Cond.code yX2_sumOf cX2_sumOf 4 (some .int), Cond.fieldLink RX2 26 "ChecksumLabModel" "reflectOut" "[Z", Cond.fieldLink RX2 19 "ChecksumLabModel" "xorOut" "[I", Cond.methodLink RX2 58 yX2_reversed, Cond.static yX2_reversed, Cond.code yX2_reversed cX2_reversed 4 (some .int)]
def wsX2_sumOfPart : List Cond := .code yX2_sumOfPart cX2_sumOfPart 6 (some .int) :: ((wsX2_sumOfPart_r1 ++ wsX2_sumOfPart_r2) ++ wsX20)
def wsX2_remainder_r1 : List Cond := [Cond.fieldLink RX2 32 "ChecksumLabModel" "length" "[I", Cond.fieldLink RX2 29 "ChecksumLabModel" "bytes" "[I", Cond.methodLink RX2 65 yX2_isModel, Cond.instanceMethod yX2_isModel, Cond.selects RX2 yX2_isModel yX2_isModel, Cond.initialized RX2, Cond.code yX2_isModel cX2_isModel 2 (some .boolean), Cond.fieldLink RX2 39 "ChecksumLabModel" "models" "I", Cond.methodLink RX2 42 yX2_in, Cond.static yX2_in, Cond.code yX2_in cX2_in 3 (some .boolean), Cond.methodLink RX2 87 yX2_isRow, Cond.static yX2_isRow, Cond.code yX2_isRow cX2_isRow 1 (some .boolean), Cond.methodLink RX2 69 yX2_asked, Cond.instanceMethod yX2_asked, Cond.selects RX2 yX2_asked yX2_asked, Cond.code yX2_asked cX2_asked 2 (some .boolean), Cond.fieldLink RX2 35 "ChecksumLabModel" "thrown" "I", Cond.methodLink RX2 50 yX2_timesX, Cond.instanceMethod yX2_timesX, Cond.selects RX2 yX2_timesX yX2_timesX, Cond.code yX2_timesX cX2_timesX 5 (some .int), Cond.fieldLink RX2 7 "ChecksumLabModel" "width" "[I"]
def wsX2_remainder_r2 : List Cond := [Cond.fieldLink RX2 13 "ChecksumLabModel" "poly" "[I"]
def wsX2_remainder : List Cond := .code yX2_remainder cX2_remainder 6 (some .int) :: ((wsX2_remainder_r1 ++ wsX2_remainder_r2) ++ wsX20)
def wsX2_joined_r1 : List Cond := [Cond.fieldLink RX2 16 "ChecksumLabModel" "init" "[I", Cond.constantLong RX2 106 (8), Cond.fieldLink RX2 7 "ChecksumLabModel" "width" "[I", Cond.methodLink RX2 65 yX2_isModel, Cond.instanceMethod yX2_isModel, Cond.selects RX2 yX2_isModel yX2_isModel, Cond.initialized RX2, Cond.code yX2_isModel cX2_isModel 2 (some .boolean), Cond.fieldLink RX2 39 "ChecksumLabModel" "models" "I", Cond.methodLink RX2 42 yX2_in, Cond.static yX2_in, Cond.code yX2_in cX2_in 3 (some .boolean), Cond.methodLink RX2 79 yX2_isNumber, Cond.instanceMethod yX2_isNumber, Cond.selects RX2 yX2_isNumber yX2_isNumber, Cond.code yX2_isNumber cX2_isNumber 3 (some .boolean), Cond.methodLink RX2 46 yX2_hasBits, Cond.static yX2_hasBits, Cond.code yX2_hasBits cX2_hasBits 2 (some .boolean), Cond.methodLink RX2 61 yX2_asked_, Cond.instanceMethod yX2_asked_, Cond.selects RX2 yX2_asked_ yX2_asked_, Cond.code yX2_asked_ cX2_asked_ 3 (some .boolean), Cond.fieldLink RX2 35 "ChecksumLabModel" "thrown" "I"]
def wsX2_joined_r2 : List Cond := [Cond.methodLink RX2 103 yX2_registerOf, Cond.instanceMethod yX2_registerOf, Cond.selects RX2 yX2_registerOf yX2_registerOf, Cond.code yX2_registerOf cX2_registerOf 4 (some .int), Cond.fieldLink RX2 19 "ChecksumLabModel" "xorOut" "[I", Cond.fieldLink RX2 26 "ChecksumLabModel" "reflectOut" "[Z", Cond.methodLink RX2 58 yX2_reversed, Cond.static yX2_reversed, Cond.code yX2_reversed cX2_reversed 4 (some .int), Cond.methodLink RX2 82 yX2_powerOf, Cond.instanceMethod yX2_powerOf, Cond.selects RX2 yX2_powerOf yX2_powerOf, Cond.code yX2_powerOf cX2_powerOf 6 (some .int), Cond.methodLink RX2 54 yX2_times, Cond.instanceMethod yX2_times, Cond.selects RX2 yX2_times yX2_times, Cond.code yX2_times cX2_times 7 (some .int), Cond.methodLink RX2 50 yX2_timesX, Cond.instanceMethod yX2_timesX, Cond.selects RX2 yX2_timesX yX2_timesX, Cond.code yX2_timesX cX2_timesX 5 (some .int), Cond.fieldLink RX2 13 "ChecksumLabModel" "poly" "[I", Cond.methodLink RX2 76 yX2_sumOf, Cond.instanceMethod yX2_sumOf]
def wsX2_joined_r3 : List Cond := [Cond.selects RX2 yX2_sumOf yX2_sumOf, Cond.code yX2_sumOf cX2_sumOf 4 (some .int)]
def wsX2_joined : List Cond := .code yX2_joined cX2_joined 8 (some .int) :: ((wsX2_joined_r1 ++ (wsX2_joined_r2 ++ wsX2_joined_r3)) ++ wsX20)
def wsX2_patched_r1 : List Cond := [Cond.fieldLink RX2 22 "ChecksumLabModel" "reflectIn" "[Z", Cond.constantLong RX2 106 (8), Cond.fieldLink RX2 7 "ChecksumLabModel" "width" "[I", Cond.methodLink RX2 65 yX2_isModel, Cond.instanceMethod yX2_isModel, Cond.selects RX2 yX2_isModel yX2_isModel, Cond.initialized RX2, Cond.code yX2_isModel cX2_isModel 2 (some .boolean), Cond.fieldLink RX2 39 "ChecksumLabModel" "models" "I", Cond.methodLink RX2 42 yX2_in, Cond.static yX2_in, Cond.code yX2_in cX2_in 3 (some .boolean), Cond.methodLink RX2 79 yX2_isNumber, Cond.instanceMethod yX2_isNumber, Cond.selects RX2 yX2_isNumber yX2_isNumber, Cond.code yX2_isNumber cX2_isNumber 3 (some .boolean), Cond.methodLink RX2 46 yX2_hasBits, Cond.static yX2_hasBits, Cond.code yX2_hasBits cX2_hasBits 2 (some .boolean), Cond.methodLink RX2 90 yX2_isByte, Cond.static yX2_isByte, Cond.code yX2_isByte cX2_isByte 1 (some .boolean), Cond.methodLink RX2 61 yX2_asked_, Cond.instanceMethod yX2_asked_]
def wsX2_patched_r2 : List Cond := [Cond.selects RX2 yX2_asked_ yX2_asked_, Cond.code yX2_asked_ cX2_asked_ 3 (some .boolean), Cond.fieldLink RX2 35 "ChecksumLabModel" "thrown" "I", Cond.methodLink RX2 58 yX2_reversed, Cond.static yX2_reversed, Cond.code yX2_reversed cX2_reversed 4 (some .int), Cond.methodLink RX2 82 yX2_powerOf, Cond.instanceMethod yX2_powerOf, Cond.selects RX2 yX2_powerOf yX2_powerOf, Cond.code yX2_powerOf cX2_powerOf 6 (some .int), Cond.methodLink RX2 54 yX2_times, Cond.instanceMethod yX2_times, Cond.selects RX2 yX2_times yX2_times, Cond.code yX2_times cX2_times 7 (some .int), Cond.methodLink RX2 50 yX2_timesX, Cond.instanceMethod yX2_timesX, Cond.selects RX2 yX2_timesX yX2_timesX, Cond.code yX2_timesX cX2_timesX 5 (some .int), Cond.fieldLink RX2 13 "ChecksumLabModel" "poly" "[I", Cond.methodLink RX2 103 yX2_registerOf, Cond.instanceMethod yX2_registerOf, Cond.selects RX2 yX2_registerOf yX2_registerOf, Cond.code yX2_registerOf cX2_registerOf 4 (some .int), Cond.fieldLink RX2 19 "ChecksumLabModel" "xorOut" "[I"]
def wsX2_patched_r3 : List Cond := [Cond.fieldLink RX2 26 "ChecksumLabModel" "reflectOut" "[Z", Cond.methodLink RX2 76 yX2_sumOf, Cond.instanceMethod yX2_sumOf, Cond.selects RX2 yX2_sumOf yX2_sumOf, Cond.code yX2_sumOf cX2_sumOf 4 (some .int)]
def wsX2_patched : List Cond := .code yX2_patched cX2_patched 8 (some .int) :: ((wsX2_patched_r1 ++ (wsX2_patched_r2 ++ wsX2_patched_r3)) ++ wsX20)
def wsX2_wrongBit_r1 : List Cond := [Cond.fieldLink RX2 26 "ChecksumLabModel" "reflectOut" "[Z", Cond.fieldLink RX2 7 "ChecksumLabModel" "width" "[I", Cond.fieldLink RX2 13 "ChecksumLabModel" "poly" "[I", Cond.methodLink RX2 65 yX2_isModel, Cond.instanceMethod yX2_isModel, Cond.selects RX2 yX2_isModel yX2_isModel, Cond.initialized RX2, Cond.code yX2_isModel cX2_isModel 2 (some .boolean), Cond.fieldLink RX2 39 "ChecksumLabModel" "models" "I", Cond.methodLink RX2 42 yX2_in, Cond.static yX2_in, Cond.code yX2_in cX2_in 3 (some .boolean), Cond.methodLink RX2 79 yX2_isNumber, Cond.instanceMethod yX2_isNumber, Cond.selects RX2 yX2_isNumber yX2_isNumber, Cond.code yX2_isNumber cX2_isNumber 3 (some .boolean), Cond.methodLink RX2 46 yX2_hasBits, Cond.static yX2_hasBits, Cond.code yX2_hasBits cX2_hasBits 2 (some .boolean), Cond.methodLink RX2 61 yX2_asked_, Cond.instanceMethod yX2_asked_, Cond.selects RX2 yX2_asked_ yX2_asked_, Cond.code yX2_asked_ cX2_asked_ 3 (some .boolean), Cond.fieldLink RX2 35 "ChecksumLabModel" "thrown" "I"]
def wsX2_wrongBit_r2 : List Cond := [Cond.methodLink RX2 58 yX2_reversed, Cond.static yX2_reversed, Cond.code yX2_reversed cX2_reversed 4 (some .int), Cond.methodLink RX2 50 yX2_timesX, Cond.instanceMethod yX2_timesX, Cond.selects RX2 yX2_timesX yX2_timesX, Cond.code yX2_timesX cX2_timesX 5 (some .int)]
def wsX2_wrongBit : List Cond := .code yX2_wrongBit cX2_wrongBit 9 (some .int) :: ((wsX2_wrongBit_r1 ++ wsX2_wrongBit_r2) ++ wsX20)
def wsX2_fletcher : List Cond := .code yX2_fletcher cX2_fletcher 6 (some .int) :: ([.fieldLink RX2 32 "ChecksumLabModel" "length" "[I", .fieldLink RX2 29 "ChecksumLabModel" "bytes" "[I", .methodLink RX2 87 yX2_isRow, .static yX2_isRow, .initialized RX2, .code yX2_isRow cX2_isRow 1 (some .boolean), .methodLink RX2 42 yX2_in, .static yX2_in, .code yX2_in cX2_in 3 (some .boolean), .methodLink RX2 69 yX2_asked, .instanceMethod yX2_asked, .selects RX2 yX2_asked yX2_asked, .code yX2_asked cX2_asked 2 (some .boolean), .fieldLink RX2 35 "ChecksumLabModel" "thrown" "I"] ++ wsX20)
def wsX2_isFletcher : List Cond := .code yX2_isFletcher cX2_isFletcher 1 (some .boolean) :: ([])
def wsX2_fletcherJoined : List Cond := .code yX2_fletcherJoined cX2_fletcherJoined 7 (some .int) :: ([.constantLong RX2 111 (255), .methodLink RX2 108 yX2_isFletcher, .static yX2_isFletcher, .initialized RX2, .code yX2_isFletcher cX2_isFletcher 1 (some .boolean), .methodLink RX2 69 yX2_asked, .instanceMethod yX2_asked, .selects RX2 yX2_asked yX2_asked, .code yX2_asked cX2_asked 2 (some .boolean), .fieldLink RX2 35 "ChecksumLabModel" "thrown" "I"] ++ wsX20)
def wsX2_adler : List Cond := .code yX2_adler cX2_adler 6 (some .int) :: ([.fieldLink RX2 32 "ChecksumLabModel" "length" "[I", .fieldLink RX2 29 "ChecksumLabModel" "bytes" "[I", .constant RX2 113 (65521), .constant RX2 114 (65536), .methodLink RX2 87 yX2_isRow, .static yX2_isRow, .initialized RX2, .code yX2_isRow cX2_isRow 1 (some .boolean), .methodLink RX2 42 yX2_in, .static yX2_in, .code yX2_in cX2_in 3 (some .boolean), .methodLink RX2 69 yX2_asked, .instanceMethod yX2_asked, .selects RX2 yX2_asked yX2_asked, .code yX2_asked cX2_asked 2 (some .boolean), .fieldLink RX2 35 "ChecksumLabModel" "thrown" "I"] ++ wsX20)
def wsX2_low : List Cond := .code yX2_low cX2_low 1 (some .int) :: ([.constant RX2 115 (65535)])
def wsX2_high : List Cond := .code yX2_high cX2_high 1 (some .int) :: ([])
def wsX2_isAdler : List Cond := .code yX2_isAdler cX2_isAdler 1 (some .boolean) :: ([.constant RX2 113 (65521), .methodLink RX2 116 yX2_low, .static yX2_low, .initialized RX2, .code yX2_low cX2_low 1 (some .int), .constant RX2 115 (65535), .methodLink RX2 120 yX2_high, .static yX2_high, .code yX2_high cX2_high 1 (some .int)])
def wsX2_reduced : List Cond := .code yX2_reduced cX2_reduced 4 (some .int) :: ([.constantLong RX2 123 (65521)])
def wsX2_adlerOf : List Cond := .code yX2_adlerOf cX2_adlerOf 4 (some .int) :: ([.constant RX2 114 (65536), .methodLink RX2 125 yX2_reduced, .static yX2_reduced, .initialized RX2, .code yX2_reduced cX2_reduced 4 (some .int), .constantLong RX2 123 (65521)])
def wsX2_adlerJoined_r1 : List Cond := [Cond.methodLink RX2 129 yX2_isAdler, Cond.static yX2_isAdler, Cond.initialized RX2, Cond.code yX2_isAdler cX2_isAdler 1 (some .boolean), Cond.constant RX2 113 (65521), Cond.methodLink RX2 116 yX2_low, Cond.static yX2_low, Cond.code yX2_low cX2_low 1 (some .int), Cond.constant RX2 115 (65535), Cond.methodLink RX2 120 yX2_high, Cond.static yX2_high, Cond.code yX2_high cX2_high 1 (some .int), Cond.methodLink RX2 69 yX2_asked, Cond.instanceMethod yX2_asked, Cond.selects RX2 yX2_asked yX2_asked, Cond.code yX2_asked cX2_asked 2 (some .boolean), Cond.fieldLink RX2 35 "ChecksumLabModel" "thrown" "I", Cond.methodLink RX2 132 yX2_adlerOf, Cond.static yX2_adlerOf, Cond.code yX2_adlerOf cX2_adlerOf 4 (some .int), Cond.constant RX2 114 (65536), Cond.methodLink RX2 125 yX2_reduced, Cond.static yX2_reduced, Cond.code yX2_reduced cX2_reduced 4 (some .int)]
def wsX2_adlerJoined_r2 : List Cond := [Cond.constantLong RX2 123 (65521)]
def wsX2_adlerJoined : List Cond := .code yX2_adlerJoined cX2_adlerJoined 8 (some .int) :: ((wsX2_adlerJoined_r1 ++ wsX2_adlerJoined_r2) ++ wsX20)
def wsX2_adlerRolled_r1 : List Cond := [Cond.methodLink RX2 129 yX2_isAdler, Cond.static yX2_isAdler, Cond.initialized RX2, Cond.code yX2_isAdler cX2_isAdler 1 (some .boolean), Cond.constant RX2 113 (65521), Cond.methodLink RX2 116 yX2_low, Cond.static yX2_low, Cond.code yX2_low cX2_low 1 (some .int), Cond.constant RX2 115 (65535), Cond.methodLink RX2 120 yX2_high, Cond.static yX2_high, Cond.code yX2_high cX2_high 1 (some .int), Cond.methodLink RX2 90 yX2_isByte, Cond.static yX2_isByte, Cond.code yX2_isByte cX2_isByte 1 (some .boolean), Cond.methodLink RX2 42 yX2_in, Cond.static yX2_in, Cond.code yX2_in cX2_in 3 (some .boolean), Cond.methodLink RX2 69 yX2_asked, Cond.instanceMethod yX2_asked, Cond.selects RX2 yX2_asked yX2_asked, Cond.code yX2_asked cX2_asked 2 (some .boolean), Cond.fieldLink RX2 35 "ChecksumLabModel" "thrown" "I", Cond.methodLink RX2 132 yX2_adlerOf]
def wsX2_adlerRolled_r2 : List Cond := [Cond.static yX2_adlerOf, Cond.code yX2_adlerOf cX2_adlerOf 4 (some .int), Cond.constant RX2 114 (65536), Cond.methodLink RX2 125 yX2_reduced, Cond.static yX2_reduced, Cond.code yX2_reduced cX2_reduced 4 (some .int), Cond.constantLong RX2 123 (65521)]
def wsX2_adlerRolled : List Cond := .code yX2_adlerRolled cX2_adlerRolled 9 (some .int) :: ((wsX2_adlerRolled_r1 ++ wsX2_adlerRolled_r2) ++ wsX20)
def wsL_define_r1 : List Cond := [Cond.classLink RL 13 "java/lang/IllegalArgumentException", Cond.classLink RL 15 "java/lang/IllegalStateException", Cond.methodLink RL 7 yX1_define, Cond.instanceMethod yX1_define, Cond.selects RX1 yX1_define yX1_define, Cond.initialized RX1, Cond.code yX1_define cX1_define 8 (some .int), Cond.classLink RX1 28 "java/lang/IllegalArgumentException", Cond.initialized "java/lang/IllegalArgumentException", Cond.classLink RX1 39 "java/lang/IllegalStateException", Cond.initialized "java/lang/IllegalStateException", Cond.fieldLink RX1 15 "ChecksumLab" "definedCount" "I", Cond.fieldLink RX1 11 "ChecksumLab" "defined" "[LChecksumLab$Model;", Cond.classLink RX1 9 RX0, Cond.instantiable RX0 8, Cond.initialized RX0, Cond.methodLink RX1 35 yX1_requireNumber, Cond.static yX1_requireNumber, Cond.code yX1_requireNumber cX1_requireNumber 2 none, Cond.methodLink RX1 44 yX0_init, Cond.instanceMethod yX0_init, Cond.code yX0_init cX0_init 7 none, Cond.methodLink RX0 3 objectInit, Cond.instanceMethod objectInit]
def wsL_define_r2 : List Cond := [Cond.code objectInit ⟨#[0xb1]⟩ 1 none, Cond.fieldLink RX0 9 "ChecksumLab$Model" "width" "I", Cond.fieldLink RX0 15 "ChecksumLab$Model" "poly" "I", Cond.fieldLink RX0 18 "ChecksumLab$Model" "init" "I", Cond.fieldLink RX0 21 "ChecksumLab$Model" "reflectIn" "Z", Cond.fieldLink RX0 25 "ChecksumLab$Model" "reflectOut" "Z", Cond.fieldLink RX0 28 "ChecksumLab$Model" "xorOut" "I", Cond.fieldLink RX0 31 "ChecksumLab$Model" "mask" "I", Cond.fieldLink RX0 34 "ChecksumLab$Model" "highest" "I"]
def wsL_define : List Cond := .codeWith yL_define cL_define 9 (some .int) [(0, 18, 21, 13), (0, 18, 25, 15)] :: ((wsL_define_r1 ++ wsL_define_r2) ++ wsX10 ++ wsX00 ++ (vx_atS RX1 32 "java/lang/IllegalArgumentException" ["java/lang/RuntimeException", "java/lang/Exception"]).filter goodWord ++ (vx_atS RX1 43 "java/lang/IllegalStateException" ["java/lang/RuntimeException", "java/lang/Exception"]).filter goodWord)
def wsL_check_r1 : List Cond := [Cond.classLink RL 21 "java/lang/IndexOutOfBoundsException", Cond.methodLink RL 17 yX1_check, Cond.instanceMethod yX1_check, Cond.selects RX1 yX1_check yX1_check, Cond.initialized RX1, Cond.code yX1_check cX1_check 5 (some .int), Cond.fieldLink RX1 51 "ChecksumLab$Model" "init" "I", Cond.methodLink RX1 47 yX1_findModel, Cond.instanceMethod yX1_findModel, Cond.selects RX1 yX1_findModel yX1_findModel, Cond.code yX1_findModel cX1_findModel 2 (some (.object "ChecksumLab$Model")), Cond.classLink RX1 101 "java/lang/IndexOutOfBoundsException", Cond.initialized "java/lang/IndexOutOfBoundsException", Cond.fieldLink RX1 11 "ChecksumLab" "defined" "[LChecksumLab$Model;", Cond.methodLink RX1 54 yX0_takeByte, Cond.instanceMethod yX0_takeByte, Cond.selects RX0 yX0_takeByte yX0_takeByte, Cond.initialized RX0, Cond.code yX0_takeByte cX0_takeByte 6 (some .int), Cond.methodLink RX0 45 yX0_inTakenOrder, Cond.instanceMethod yX0_inTakenOrder, Cond.selects RX0 yX0_inTakenOrder yX0_inTakenOrder, Cond.code yX0_inTakenOrder cX0_inTakenOrder 2 (some .int), Cond.fieldLink RX0 21 "ChecksumLab$Model" "reflectIn" "Z"]
def wsL_check_r2 : List Cond := [Cond.static yX1_reversed, Cond.code yX1_reversed cX1_reversed 4 (some .int), Cond.methodLink RX0 48 yX0_takeBit, Cond.instanceMethod yX0_takeBit, Cond.selects RX0 yX0_takeBit yX0_takeBit, Cond.code yX0_takeBit cX0_takeBit 3 (some .int), Cond.fieldLink RX0 9 "ChecksumLab$Model" "width" "I", Cond.methodLink RX0 37 yX0_timesX, Cond.instanceMethod yX0_timesX, Cond.selects RX0 yX0_timesX yX0_timesX, Cond.code yX0_timesX cX0_timesX 3 (some .int), Cond.fieldLink RX0 31 "ChecksumLab$Model" "mask" "I", Cond.fieldLink RX0 34 "ChecksumLab$Model" "highest" "I", Cond.fieldLink RX0 15 "ChecksumLab$Model" "poly" "I", Cond.methodLink RX1 58 yX0_sumOfRegister, Cond.instanceMethod yX0_sumOfRegister, Cond.selects RX0 yX0_sumOfRegister yX0_sumOfRegister, Cond.code yX0_sumOfRegister cX0_sumOfRegister 2 (some .int), Cond.fieldLink RX0 28 "ChecksumLab$Model" "xorOut" "I", Cond.methodLink RX0 54 yX0_inSumOrder, Cond.instanceMethod yX0_inSumOrder, Cond.selects RX0 yX0_inSumOrder yX0_inSumOrder, Cond.code yX0_inSumOrder cX0_inSumOrder 2 (some .int), Cond.fieldLink RX0 25 "ChecksumLab$Model" "reflectOut" "Z"]
def wsL_check : List Cond := .codeWith yL_check cL_check 4 (some .int) [(0, 9, 12, 21)] :: ((wsL_check_r1 ++ wsL_check_r2) ++ wsX00 ++ wsX10 ++ (vx_atS RX1 105 "java/lang/IndexOutOfBoundsException" ["java/lang/RuntimeException", "java/lang/Exception"]).filter goodWord)
def wsL_multiply_r1 : List Cond := [Cond.classLink RL 21 "java/lang/IndexOutOfBoundsException", Cond.classLink RL 13 "java/lang/IllegalArgumentException", Cond.methodLink RL 23 yX1_multiply, Cond.instanceMethod yX1_multiply, Cond.selects RX1 yX1_multiply yX1_multiply, Cond.initialized RX1, Cond.code yX1_multiply cX1_multiply 5 (some .int), Cond.fieldLink RX1 62 "ChecksumLab$Model" "width" "I", Cond.methodLink RX1 47 yX1_findModel, Cond.instanceMethod yX1_findModel, Cond.selects RX1 yX1_findModel yX1_findModel, Cond.code yX1_findModel cX1_findModel 2 (some (.object "ChecksumLab$Model")), Cond.classLink RX1 101 "java/lang/IndexOutOfBoundsException", Cond.initialized "java/lang/IndexOutOfBoundsException", Cond.fieldLink RX1 11 "ChecksumLab" "defined" "[LChecksumLab$Model;", Cond.methodLink RX1 35 yX1_requireNumber, Cond.static yX1_requireNumber, Cond.code yX1_requireNumber cX1_requireNumber 2 none, Cond.classLink RX1 28 "java/lang/IllegalArgumentException", Cond.initialized "java/lang/IllegalArgumentException", Cond.methodLink RX1 65 yX0_product, Cond.instanceMethod yX0_product, Cond.selects RX0 yX0_product yX0_product, Cond.initialized RX0]
def wsL_multiply_r2 : List Cond := [Cond.code yX0_product cX0_product 5 (some .int), Cond.fieldLink RX0 9 "ChecksumLab$Model" "width" "I", Cond.methodLink RX0 37 yX0_timesX, Cond.instanceMethod yX0_timesX, Cond.selects RX0 yX0_timesX yX0_timesX, Cond.code yX0_timesX cX0_timesX 3 (some .int), Cond.fieldLink RX0 31 "ChecksumLab$Model" "mask" "I", Cond.fieldLink RX0 34 "ChecksumLab$Model" "highest" "I", Cond.fieldLink RX0 15 "ChecksumLab$Model" "poly" "I"]
def wsL_multiply : List Cond := .codeWith yL_multiply cL_multiply 6 (some .int) [(0, 12, 15, 21), (0, 12, 19, 13)] :: ((wsL_multiply_r1 ++ wsL_multiply_r2) ++ wsX00 ++ wsX10 ++ (vx_atS RX1 105 "java/lang/IndexOutOfBoundsException" ["java/lang/RuntimeException", "java/lang/Exception"]).filter goodWord ++ (vx_atS RX1 32 "java/lang/IllegalArgumentException" ["java/lang/RuntimeException", "java/lang/Exception"]).filter goodWord)
def wsL_power_r1 : List Cond := [Cond.classLink RL 21 "java/lang/IndexOutOfBoundsException", Cond.classLink RL 13 "java/lang/IllegalArgumentException", Cond.methodLink RL 27 yX1_power, Cond.instanceMethod yX1_power, Cond.selects RX1 yX1_power yX1_power, Cond.initialized RX1, Cond.code yX1_power cX1_power 5 (some .int), Cond.classLink RX1 28 "java/lang/IllegalArgumentException", Cond.initialized "java/lang/IllegalArgumentException", Cond.methodLink RX1 47 yX1_findModel, Cond.instanceMethod yX1_findModel, Cond.selects RX1 yX1_findModel yX1_findModel, Cond.code yX1_findModel cX1_findModel 2 (some (.object "ChecksumLab$Model")), Cond.classLink RX1 101 "java/lang/IndexOutOfBoundsException", Cond.initialized "java/lang/IndexOutOfBoundsException", Cond.fieldLink RX1 11 "ChecksumLab" "defined" "[LChecksumLab$Model;", Cond.methodLink RX1 70 yX0_powerOfX, Cond.instanceMethod yX0_powerOfX, Cond.selects RX0 yX0_powerOfX yX0_powerOfX, Cond.initialized RX0, Cond.code yX0_powerOfX cX0_powerOfX 5 (some .int), Cond.methodLink RX0 41 yX0_product, Cond.instanceMethod yX0_product, Cond.selects RX0 yX0_product yX0_product]
def wsL_power_r2 : List Cond := [Cond.code yX0_product cX0_product 5 (some .int), Cond.fieldLink RX0 9 "ChecksumLab$Model" "width" "I", Cond.methodLink RX0 37 yX0_timesX, Cond.instanceMethod yX0_timesX, Cond.selects RX0 yX0_timesX yX0_timesX, Cond.code yX0_timesX cX0_timesX 3 (some .int), Cond.fieldLink RX0 31 "ChecksumLab$Model" "mask" "I", Cond.fieldLink RX0 34 "ChecksumLab$Model" "highest" "I", Cond.fieldLink RX0 15 "ChecksumLab$Model" "poly" "I"]
def wsL_power : List Cond := .codeWith yL_power cL_power 6 (some .int) [(0, 11, 14, 21), (0, 11, 18, 13)] :: ((wsL_power_r1 ++ wsL_power_r2) ++ wsX10 ++ wsX00 ++ (vx_atS RX1 32 "java/lang/IllegalArgumentException" ["java/lang/RuntimeException", "java/lang/Exception"]).filter goodWord ++ (vx_atS RX1 105 "java/lang/IndexOutOfBoundsException" ["java/lang/RuntimeException", "java/lang/Exception"]).filter goodWord)
def wsL_period_r1 : List Cond := [Cond.classLink RL 21 "java/lang/IndexOutOfBoundsException", Cond.classLink RL 13 "java/lang/IllegalArgumentException", Cond.methodLink RL 31 yX1_period, Cond.instanceMethod yX1_period, Cond.selects RX1 yX1_period yX1_period, Cond.initialized RX1, Cond.code yX1_period cX1_period 6 (some .int), Cond.classLink RX1 28 "java/lang/IllegalArgumentException", Cond.initialized "java/lang/IllegalArgumentException", Cond.constant RX1 74 (70000), Cond.methodLink RX1 47 yX1_findModel, Cond.instanceMethod yX1_findModel, Cond.selects RX1 yX1_findModel yX1_findModel, Cond.code yX1_findModel cX1_findModel 2 (some (.object "ChecksumLab$Model")), Cond.classLink RX1 101 "java/lang/IndexOutOfBoundsException", Cond.initialized "java/lang/IndexOutOfBoundsException", Cond.fieldLink RX1 11 "ChecksumLab" "defined" "[LChecksumLab$Model;", Cond.methodLink RX1 77 yX0_timesX, Cond.instanceMethod yX0_timesX, Cond.selects RX0 yX0_timesX yX0_timesX, Cond.initialized RX0, Cond.code yX0_timesX cX0_timesX 3 (some .int), Cond.fieldLink RX0 31 "ChecksumLab$Model" "mask" "I", Cond.fieldLink RX0 34 "ChecksumLab$Model" "highest" "I"]
def wsL_period_r2 : List Cond := [Cond.fieldLink RX0 15 "ChecksumLab$Model" "poly" "I"]
def wsL_period : List Cond := .codeWith yL_period cL_period 5 (some .int) [(0, 10, 13, 21), (0, 10, 17, 13)] :: ((wsL_period_r1 ++ wsL_period_r2) ++ wsX10 ++ wsX00 ++ (vx_atS RX1 32 "java/lang/IllegalArgumentException" ["java/lang/RuntimeException", "java/lang/Exception"]).filter goodWord ++ (vx_atS RX1 105 "java/lang/IndexOutOfBoundsException" ["java/lang/RuntimeException", "java/lang/Exception"]).filter goodWord)
def wsL_append_r1 : List Cond := [Cond.classLink RL 21 "java/lang/IndexOutOfBoundsException", Cond.classLink RL 13 "java/lang/IllegalArgumentException", Cond.classLink RL 15 "java/lang/IllegalStateException", Cond.methodLink RL 35 yX1_append, Cond.instanceMethod yX1_append, Cond.selects RX1 yX1_append yX1_append, Cond.initialized RX1, Cond.code yX1_append cX1_append 3 (some .int), Cond.fieldLink RX1 21 "ChecksumLab" "rows" "[[I", Cond.fieldLink RX1 24 "ChecksumLab" "sizes" "[I", Cond.methodLink RX1 80 yX1_requireRow, Cond.static yX1_requireRow, Cond.code yX1_requireRow cX1_requireRow 1 none, Cond.classLink RX1 101 "java/lang/IndexOutOfBoundsException", Cond.initialized "java/lang/IndexOutOfBoundsException", Cond.methodLink RX1 84 yX1_requireByte, Cond.static yX1_requireByte, Cond.code yX1_requireByte cX1_requireByte 1 none, Cond.classLink RX1 28 "java/lang/IllegalArgumentException", Cond.initialized "java/lang/IllegalArgumentException", Cond.methodLink RX1 87 yX1_requireRoom, Cond.instanceMethod yX1_requireRoom, Cond.selects RX1 yX1_requireRoom yX1_requireRoom, Cond.code yX1_requireRoom cX1_requireRoom 3 none]
def wsL_append_r2 : List Cond := [Cond.classLink RX1 39 "java/lang/IllegalStateException", Cond.initialized "java/lang/IllegalStateException"]
def wsL_append : List Cond := .codeWith yL_append cL_append 5 (some .int) [(0, 10, 13, 21), (0, 10, 17, 13), (0, 10, 21, 15)] :: ((wsL_append_r1 ++ wsL_append_r2) ++ wsX10 ++ (vx_atS RX1 105 "java/lang/IndexOutOfBoundsException" ["java/lang/RuntimeException", "java/lang/Exception"]).filter goodWord ++ (vx_atS RX1 32 "java/lang/IllegalArgumentException" ["java/lang/RuntimeException", "java/lang/Exception"]).filter goodWord ++ (vx_atS RX1 43 "java/lang/IllegalStateException" ["java/lang/RuntimeException", "java/lang/Exception"]).filter goodWord)
def wsL_appendSeries_r1 : List Cond := [Cond.classLink RL 21 "java/lang/IndexOutOfBoundsException", Cond.classLink RL 13 "java/lang/IllegalArgumentException", Cond.classLink RL 15 "java/lang/IllegalStateException", Cond.methodLink RL 38 yX1_appendSeries, Cond.instanceMethod yX1_appendSeries, Cond.selects RX1 yX1_appendSeries yX1_appendSeries, Cond.initialized RX1, Cond.code yX1_appendSeries cX1_appendSeries 7 (some .int), Cond.classLink RX1 28 "java/lang/IllegalArgumentException", Cond.initialized "java/lang/IllegalArgumentException", Cond.fieldLink RX1 24 "ChecksumLab" "sizes" "[I", Cond.fieldLink RX1 21 "ChecksumLab" "rows" "[[I", Cond.methodLink RX1 80 yX1_requireRow, Cond.static yX1_requireRow, Cond.code yX1_requireRow cX1_requireRow 1 none, Cond.classLink RX1 101 "java/lang/IndexOutOfBoundsException", Cond.initialized "java/lang/IndexOutOfBoundsException", Cond.methodLink RX1 84 yX1_requireByte, Cond.static yX1_requireByte, Cond.code yX1_requireByte cX1_requireByte 1 none, Cond.methodLink RX1 87 yX1_requireRoom, Cond.instanceMethod yX1_requireRoom, Cond.selects RX1 yX1_requireRoom yX1_requireRoom, Cond.code yX1_requireRoom cX1_requireRoom 3 none]
def wsL_appendSeries_r2 : List Cond := [Cond.classLink RX1 39 "java/lang/IllegalStateException", Cond.initialized "java/lang/IllegalStateException"]
def wsL_appendSeries : List Cond := .codeWith yL_appendSeries cL_appendSeries 7 (some .int) [(0, 14, 17, 21), (0, 14, 21, 13), (0, 14, 25, 15)] :: ((wsL_appendSeries_r1 ++ wsL_appendSeries_r2) ++ wsX10 ++ (vx_atS RX1 32 "java/lang/IllegalArgumentException" ["java/lang/RuntimeException", "java/lang/Exception"]).filter goodWord ++ (vx_atS RX1 105 "java/lang/IndexOutOfBoundsException" ["java/lang/RuntimeException", "java/lang/Exception"]).filter goodWord ++ (vx_atS RX1 43 "java/lang/IllegalStateException" ["java/lang/RuntimeException", "java/lang/Exception"]).filter goodWord)
def wsL_appendRow : List Cond := .codeWith yL_appendRow cL_appendRow 5 (some .int) [(0, 10, 13, 21), (0, 10, 17, 15)] :: ([.classLink RL 21 "java/lang/IndexOutOfBoundsException", .classLink RL 15 "java/lang/IllegalStateException", .methodLink RL 42 yX1_appendRow, .instanceMethod yX1_appendRow, .selects RX1 yX1_appendRow yX1_appendRow, .initialized RX1, .code yX1_appendRow cX1_appendRow 6 (some .int), .fieldLink RX1 24 "ChecksumLab" "sizes" "[I", .fieldLink RX1 21 "ChecksumLab" "rows" "[[I", .methodLink RX1 80 yX1_requireRow, .static yX1_requireRow, .code yX1_requireRow cX1_requireRow 1 none, .classLink RX1 101 "java/lang/IndexOutOfBoundsException", .initialized "java/lang/IndexOutOfBoundsException", .methodLink RX1 87 yX1_requireRoom, .instanceMethod yX1_requireRoom, .selects RX1 yX1_requireRoom yX1_requireRoom, .code yX1_requireRoom cX1_requireRoom 3 none, .classLink RX1 39 "java/lang/IllegalStateException", .initialized "java/lang/IllegalStateException"] ++ wsX10 ++ (vx_atS RX1 105 "java/lang/IndexOutOfBoundsException" ["java/lang/RuntimeException", "java/lang/Exception"]).filter goodWord ++ (vx_atS RX1 43 "java/lang/IllegalStateException" ["java/lang/RuntimeException", "java/lang/Exception"]).filter goodWord)
def wsL_setByte : List Cond := .codeWith yL_setByte cL_setByte 6 (some .int) [(0, 12, 15, 21), (0, 12, 19, 13)] :: ([.classLink RL 21 "java/lang/IndexOutOfBoundsException", .classLink RL 13 "java/lang/IllegalArgumentException", .methodLink RL 45 yX1_setByte, .instanceMethod yX1_setByte, .selects RX1 yX1_setByte yX1_setByte, .initialized RX1, .code yX1_setByte cX1_setByte 5 (some .int), .fieldLink RX1 21 "ChecksumLab" "rows" "[[I", .methodLink RX1 80 yX1_requireRow, .static yX1_requireRow, .code yX1_requireRow cX1_requireRow 1 none, .classLink RX1 101 "java/lang/IndexOutOfBoundsException", .initialized "java/lang/IndexOutOfBoundsException", .methodLink RX1 92 yX1_requireIndex, .instanceMethod yX1_requireIndex, .selects RX1 yX1_requireIndex yX1_requireIndex, .code yX1_requireIndex cX1_requireIndex 3 none, .fieldLink RX1 24 "ChecksumLab" "sizes" "[I", .methodLink RX1 84 yX1_requireByte, .static yX1_requireByte, .code yX1_requireByte cX1_requireByte 1 none, .classLink RX1 28 "java/lang/IllegalArgumentException", .initialized "java/lang/IllegalArgumentException"] ++ wsX10 ++ (vx_atS RX1 105 "java/lang/IndexOutOfBoundsException" ["java/lang/RuntimeException", "java/lang/Exception"]).filter goodWord ++ (vx_atS RX1 32 "java/lang/IllegalArgumentException" ["java/lang/RuntimeException", "java/lang/Exception"]).filter goodWord)
def wsL_truncate : List Cond := .codeWith yL_truncate cL_truncate 5 (some .int) [(0, 10, 13, 21), (0, 10, 17, 13)] :: ([.classLink RL 21 "java/lang/IndexOutOfBoundsException", .classLink RL 13 "java/lang/IllegalArgumentException", .methodLink RL 48 yX1_truncate, .instanceMethod yX1_truncate, .selects RX1 yX1_truncate yX1_truncate, .initialized RX1, .code yX1_truncate cX1_truncate 4 (some .int), .classLink RX1 28 "java/lang/IllegalArgumentException", .initialized "java/lang/IllegalArgumentException", .fieldLink RX1 24 "ChecksumLab" "sizes" "[I", .methodLink RX1 80 yX1_requireRow, .static yX1_requireRow, .code yX1_requireRow cX1_requireRow 1 none, .classLink RX1 101 "java/lang/IndexOutOfBoundsException", .initialized "java/lang/IndexOutOfBoundsException"] ++ wsX10 ++ (vx_atS RX1 32 "java/lang/IllegalArgumentException" ["java/lang/RuntimeException", "java/lang/Exception"]).filter goodWord ++ (vx_atS RX1 105 "java/lang/IndexOutOfBoundsException" ["java/lang/RuntimeException", "java/lang/Exception"]).filter goodWord)
def wsL_length : List Cond := .codeWith yL_length cL_length 4 (some .int) [(0, 9, 12, 21)] :: ([.classLink RL 21 "java/lang/IndexOutOfBoundsException", .methodLink RL 51 yX1_length, .instanceMethod yX1_length, .selects RX1 yX1_length yX1_length, .initialized RX1, .code yX1_length cX1_length 2 (some .int), .fieldLink RX1 24 "ChecksumLab" "sizes" "[I", .methodLink RX1 80 yX1_requireRow, .static yX1_requireRow, .code yX1_requireRow cX1_requireRow 1 none, .classLink RX1 101 "java/lang/IndexOutOfBoundsException", .initialized "java/lang/IndexOutOfBoundsException"] ++ wsX10 ++ (vx_atS RX1 105 "java/lang/IndexOutOfBoundsException" ["java/lang/RuntimeException", "java/lang/Exception"]).filter goodWord)
def wsL_byteAt : List Cond := .codeWith yL_byteAt cL_byteAt 5 (some .int) [(0, 10, 13, 21)] :: ([.classLink RL 21 "java/lang/IndexOutOfBoundsException", .methodLink RL 54 yX1_byteAt, .instanceMethod yX1_byteAt, .selects RX1 yX1_byteAt yX1_byteAt, .initialized RX1, .code yX1_byteAt cX1_byteAt 3 (some .int), .fieldLink RX1 21 "ChecksumLab" "rows" "[[I", .methodLink RX1 80 yX1_requireRow, .static yX1_requireRow, .code yX1_requireRow cX1_requireRow 1 none, .classLink RX1 101 "java/lang/IndexOutOfBoundsException", .initialized "java/lang/IndexOutOfBoundsException", .methodLink RX1 92 yX1_requireIndex, .instanceMethod yX1_requireIndex, .selects RX1 yX1_requireIndex yX1_requireIndex, .code yX1_requireIndex cX1_requireIndex 3 none, .fieldLink RX1 24 "ChecksumLab" "sizes" "[I"] ++ wsX10 ++ (vx_atS RX1 105 "java/lang/IndexOutOfBoundsException" ["java/lang/RuntimeException", "java/lang/Exception"]).filter goodWord)
def wsL_sum_r1 : List Cond := [Cond.classLink RL 21 "java/lang/IndexOutOfBoundsException", Cond.methodLink RL 57 yX1_sum, Cond.instanceMethod yX1_sum, Cond.selects RX1 yX1_sum yX1_sum, Cond.initialized RX1, Cond.code yX1_sum cX1_sum 4 (some .int), Cond.fieldLink RX1 24 "ChecksumLab" "sizes" "[I", Cond.methodLink RX1 47 yX1_findModel, Cond.instanceMethod yX1_findModel, Cond.selects RX1 yX1_findModel yX1_findModel, Cond.code yX1_findModel cX1_findModel 2 (some (.object "ChecksumLab$Model")), Cond.classLink RX1 101 "java/lang/IndexOutOfBoundsException", Cond.initialized "java/lang/IndexOutOfBoundsException", Cond.fieldLink RX1 11 "ChecksumLab" "defined" "[LChecksumLab$Model;", Cond.methodLink RX1 80 yX1_requireRow, Cond.static yX1_requireRow, Cond.code yX1_requireRow cX1_requireRow 1 none, Cond.methodLink RX1 97 yX1_partSum, Cond.instanceMethod yX1_partSum, Cond.selects RX1 yX1_partSum yX1_partSum, Cond.code yX1_partSum cX1_partSum 7 (some .int), Cond.fieldLink RX1 51 "ChecksumLab$Model" "init" "I", Cond.fieldLink RX1 21 "ChecksumLab" "rows" "[[I", Cond.methodLink RX1 54 yX0_takeByte]
def wsL_sum_r2 : List Cond := [Cond.instanceMethod yX0_takeByte, Cond.selects RX0 yX0_takeByte yX0_takeByte, Cond.initialized RX0, Cond.code yX0_takeByte cX0_takeByte 6 (some .int), Cond.methodLink RX0 45 yX0_inTakenOrder, Cond.instanceMethod yX0_inTakenOrder, Cond.selects RX0 yX0_inTakenOrder yX0_inTakenOrder, Cond.code yX0_inTakenOrder cX0_inTakenOrder 2 (some .int), Cond.fieldLink RX0 21 "ChecksumLab$Model" "reflectIn" "Z", Cond.static yX1_reversed, Cond.code yX1_reversed cX1_reversed 4 (some .int), Cond.methodLink RX0 48 yX0_takeBit, Cond.instanceMethod yX0_takeBit, Cond.selects RX0 yX0_takeBit yX0_takeBit, Cond.code yX0_takeBit cX0_takeBit 3 (some .int), Cond.fieldLink RX0 9 "ChecksumLab$Model" "width" "I", Cond.methodLink RX0 37 yX0_timesX, Cond.instanceMethod yX0_timesX, Cond.selects RX0 yX0_timesX yX0_timesX, Cond.code yX0_timesX cX0_timesX 3 (some .int), Cond.fieldLink RX0 31 "ChecksumLab$Model" "mask" "I", Cond.fieldLink RX0 34 "ChecksumLab$Model" "highest" "I", Cond.fieldLink RX0 15 "ChecksumLab$Model" "poly" "I", Cond.methodLink RX1 58 yX0_sumOfRegister]
def wsL_sum_r3 : List Cond := [Cond.instanceMethod yX0_sumOfRegister, Cond.selects RX0 yX0_sumOfRegister yX0_sumOfRegister, Cond.code yX0_sumOfRegister cX0_sumOfRegister 2 (some .int), Cond.fieldLink RX0 28 "ChecksumLab$Model" "xorOut" "I", Cond.methodLink RX0 54 yX0_inSumOrder, Cond.instanceMethod yX0_inSumOrder, Cond.selects RX0 yX0_inSumOrder yX0_inSumOrder, Cond.code yX0_inSumOrder cX0_inSumOrder 2 (some .int), Cond.fieldLink RX0 25 "ChecksumLab$Model" "reflectOut" "Z"]
def wsL_sum : List Cond := .codeWith yL_sum cL_sum 5 (some .int) [(0, 10, 13, 21)] :: ((wsL_sum_r1 ++ (wsL_sum_r2 ++ wsL_sum_r3)) ++ wsX10 ++ wsX00 ++ (vx_atS RX1 105 "java/lang/IndexOutOfBoundsException" ["java/lang/RuntimeException", "java/lang/Exception"]).filter goodWord)
def wsL_sumOfPart_r1 : List Cond := [Cond.classLink RL 21 "java/lang/IndexOutOfBoundsException", Cond.methodLink RL 60 yX1_sumOfPart, Cond.instanceMethod yX1_sumOfPart, Cond.selects RX1 yX1_sumOfPart yX1_sumOfPart, Cond.initialized RX1, Cond.code yX1_sumOfPart cX1_sumOfPart 6 (some .int), Cond.classLink RX1 101 "java/lang/IndexOutOfBoundsException", Cond.initialized "java/lang/IndexOutOfBoundsException", Cond.fieldLink RX1 24 "ChecksumLab" "sizes" "[I", Cond.methodLink RX1 47 yX1_findModel, Cond.instanceMethod yX1_findModel, Cond.selects RX1 yX1_findModel yX1_findModel, Cond.code yX1_findModel cX1_findModel 2 (some (.object "ChecksumLab$Model")), Cond.fieldLink RX1 11 "ChecksumLab" "defined" "[LChecksumLab$Model;", Cond.methodLink RX1 80 yX1_requireRow, Cond.static yX1_requireRow, Cond.code yX1_requireRow cX1_requireRow 1 none, Cond.methodLink RX1 97 yX1_partSum, Cond.instanceMethod yX1_partSum, Cond.selects RX1 yX1_partSum yX1_partSum, Cond.code yX1_partSum cX1_partSum 7 (some .int), Cond.fieldLink RX1 51 "ChecksumLab$Model" "init" "I", Cond.fieldLink RX1 21 "ChecksumLab" "rows" "[[I", Cond.methodLink RX1 54 yX0_takeByte]
def wsL_sumOfPart_r2 : List Cond := [Cond.instanceMethod yX0_takeByte, Cond.selects RX0 yX0_takeByte yX0_takeByte, Cond.initialized RX0, Cond.code yX0_takeByte cX0_takeByte 6 (some .int), Cond.methodLink RX0 45 yX0_inTakenOrder, Cond.instanceMethod yX0_inTakenOrder, Cond.selects RX0 yX0_inTakenOrder yX0_inTakenOrder, Cond.code yX0_inTakenOrder cX0_inTakenOrder 2 (some .int), Cond.fieldLink RX0 21 "ChecksumLab$Model" "reflectIn" "Z", Cond.static yX1_reversed, Cond.code yX1_reversed cX1_reversed 4 (some .int), Cond.methodLink RX0 48 yX0_takeBit, Cond.instanceMethod yX0_takeBit, Cond.selects RX0 yX0_takeBit yX0_takeBit, Cond.code yX0_takeBit cX0_takeBit 3 (some .int), Cond.fieldLink RX0 9 "ChecksumLab$Model" "width" "I", Cond.methodLink RX0 37 yX0_timesX, Cond.instanceMethod yX0_timesX, Cond.selects RX0 yX0_timesX yX0_timesX, Cond.code yX0_timesX cX0_timesX 3 (some .int), Cond.fieldLink RX0 31 "ChecksumLab$Model" "mask" "I", Cond.fieldLink RX0 34 "ChecksumLab$Model" "highest" "I", Cond.fieldLink RX0 15 "ChecksumLab$Model" "poly" "I", Cond.methodLink RX1 58 yX0_sumOfRegister]
def wsL_sumOfPart_r3 : List Cond := [Cond.instanceMethod yX0_sumOfRegister, Cond.selects RX0 yX0_sumOfRegister yX0_sumOfRegister, Cond.code yX0_sumOfRegister cX0_sumOfRegister 2 (some .int), Cond.fieldLink RX0 28 "ChecksumLab$Model" "xorOut" "I", Cond.methodLink RX0 54 yX0_inSumOrder, Cond.instanceMethod yX0_inSumOrder, Cond.selects RX0 yX0_inSumOrder yX0_inSumOrder, Cond.code yX0_inSumOrder cX0_inSumOrder 2 (some .int), Cond.fieldLink RX0 25 "ChecksumLab$Model" "reflectOut" "Z"]
def wsL_sumOfPart : List Cond := .codeWith yL_sumOfPart cL_sumOfPart 7 (some .int) [(0, 14, 17, 21)] :: ((wsL_sumOfPart_r1 ++ (wsL_sumOfPart_r2 ++ wsL_sumOfPart_r3)) ++ wsX10 ++ wsX00 ++ (vx_atS RX1 105 "java/lang/IndexOutOfBoundsException" ["java/lang/RuntimeException", "java/lang/Exception"]).filter goodWord)
def wsL_remainder_r1 : List Cond := [Cond.classLink RL 21 "java/lang/IndexOutOfBoundsException", Cond.methodLink RL 63 yX1_remainder, Cond.instanceMethod yX1_remainder, Cond.selects RX1 yX1_remainder yX1_remainder, Cond.initialized RX1, Cond.code yX1_remainder cX1_remainder 7 (some .int), Cond.fieldLink RX1 24 "ChecksumLab" "sizes" "[I", Cond.fieldLink RX1 21 "ChecksumLab" "rows" "[[I", Cond.methodLink RX1 47 yX1_findModel, Cond.instanceMethod yX1_findModel, Cond.selects RX1 yX1_findModel yX1_findModel, Cond.code yX1_findModel cX1_findModel 2 (some (.object "ChecksumLab$Model")), Cond.classLink RX1 101 "java/lang/IndexOutOfBoundsException", Cond.initialized "java/lang/IndexOutOfBoundsException", Cond.fieldLink RX1 11 "ChecksumLab" "defined" "[LChecksumLab$Model;", Cond.methodLink RX1 80 yX1_requireRow, Cond.static yX1_requireRow, Cond.code yX1_requireRow cX1_requireRow 1 none, Cond.methodLink RX1 106 yX0_divideByte, Cond.instanceMethod yX0_divideByte, Cond.selects RX0 yX0_divideByte yX0_divideByte, Cond.initialized RX0, Cond.code yX0_divideByte cX0_divideByte 5 (some .int), Cond.methodLink RX0 37 yX0_timesX]
def wsL_remainder_r2 : List Cond := [Cond.instanceMethod yX0_timesX, Cond.selects RX0 yX0_timesX yX0_timesX, Cond.code yX0_timesX cX0_timesX 3 (some .int), Cond.fieldLink RX0 31 "ChecksumLab$Model" "mask" "I", Cond.fieldLink RX0 34 "ChecksumLab$Model" "highest" "I", Cond.fieldLink RX0 15 "ChecksumLab$Model" "poly" "I"]
def wsL_remainder : List Cond := .codeWith yL_remainder cL_remainder 5 (some .int) [(0, 10, 13, 21)] :: ((wsL_remainder_r1 ++ wsL_remainder_r2) ++ wsX10 ++ wsX00 ++ (vx_atS RX1 105 "java/lang/IndexOutOfBoundsException" ["java/lang/RuntimeException", "java/lang/Exception"]).filter goodWord)
def wsL_joined_r1 : List Cond := [Cond.classLink RL 21 "java/lang/IndexOutOfBoundsException", Cond.classLink RL 13 "java/lang/IllegalArgumentException", Cond.methodLink RL 66 yX1_joined, Cond.instanceMethod yX1_joined, Cond.selects RX1 yX1_joined yX1_joined, Cond.initialized RX1, Cond.code yX1_joined cX1_joined 9 (some .int), Cond.fieldLink RX1 62 "ChecksumLab$Model" "width" "I", Cond.fieldLink RX1 51 "ChecksumLab$Model" "init" "I", Cond.constantLong RX1 115 (8), Cond.methodLink RX1 47 yX1_findModel, Cond.instanceMethod yX1_findModel, Cond.selects RX1 yX1_findModel yX1_findModel, Cond.code yX1_findModel cX1_findModel 2 (some (.object "ChecksumLab$Model")), Cond.classLink RX1 101 "java/lang/IndexOutOfBoundsException", Cond.initialized "java/lang/IndexOutOfBoundsException", Cond.fieldLink RX1 11 "ChecksumLab" "defined" "[LChecksumLab$Model;", Cond.methodLink RX1 35 yX1_requireNumber, Cond.static yX1_requireNumber, Cond.code yX1_requireNumber cX1_requireNumber 2 none, Cond.classLink RX1 28 "java/lang/IllegalArgumentException", Cond.initialized "java/lang/IllegalArgumentException", Cond.methodLink RX1 109 yX1_requireLength, Cond.static yX1_requireLength]
def wsL_joined_r2 : List Cond := [Cond.code yX1_requireLength cX1_requireLength 1 none, Cond.methodLink RX1 112 yX0_registerOfSum, Cond.instanceMethod yX0_registerOfSum, Cond.selects RX0 yX0_registerOfSum yX0_registerOfSum, Cond.initialized RX0, Cond.code yX0_registerOfSum cX0_registerOfSum 2 (some .int), Cond.fieldLink RX0 28 "ChecksumLab$Model" "xorOut" "I", Cond.methodLink RX0 54 yX0_inSumOrder, Cond.instanceMethod yX0_inSumOrder, Cond.selects RX0 yX0_inSumOrder yX0_inSumOrder, Cond.code yX0_inSumOrder cX0_inSumOrder 2 (some .int), Cond.fieldLink RX0 25 "ChecksumLab$Model" "reflectOut" "Z", Cond.fieldLink RX0 9 "ChecksumLab$Model" "width" "I", Cond.static yX1_reversed, Cond.code yX1_reversed cX1_reversed 4 (some .int), Cond.methodLink RX1 70 yX0_powerOfX, Cond.instanceMethod yX0_powerOfX, Cond.selects RX0 yX0_powerOfX yX0_powerOfX, Cond.code yX0_powerOfX cX0_powerOfX 5 (some .int), Cond.methodLink RX0 41 yX0_product, Cond.instanceMethod yX0_product, Cond.selects RX0 yX0_product yX0_product, Cond.code yX0_product cX0_product 5 (some .int), Cond.methodLink RX0 37 yX0_timesX]
def wsL_joined_r3 : List Cond := [Cond.instanceMethod yX0_timesX, Cond.selects RX0 yX0_timesX yX0_timesX, Cond.code yX0_timesX cX0_timesX 3 (some .int), Cond.fieldLink RX0 31 "ChecksumLab$Model" "mask" "I", Cond.fieldLink RX0 34 "ChecksumLab$Model" "highest" "I", Cond.fieldLink RX0 15 "ChecksumLab$Model" "poly" "I", Cond.methodLink RX1 65 yX0_product, Cond.methodLink RX1 58 yX0_sumOfRegister, Cond.instanceMethod yX0_sumOfRegister, Cond.selects RX0 yX0_sumOfRegister yX0_sumOfRegister, Cond.code yX0_sumOfRegister cX0_sumOfRegister 2 (some .int)]
def wsL_joined : List Cond := .codeWith yL_joined cL_joined 7 (some .int) [(0, 14, 17, 21), (0, 14, 21, 13)] :: ((wsL_joined_r1 ++ (wsL_joined_r2 ++ wsL_joined_r3)) ++ wsX00 ++ wsX10 ++ (vx_atS RX1 105 "java/lang/IndexOutOfBoundsException" ["java/lang/RuntimeException", "java/lang/Exception"]).filter goodWord ++ (vx_atS RX1 32 "java/lang/IllegalArgumentException" ["java/lang/RuntimeException", "java/lang/Exception"]).filter goodWord)
def wsL_patched_r1 : List Cond := [Cond.classLink RL 21 "java/lang/IndexOutOfBoundsException", Cond.classLink RL 13 "java/lang/IllegalArgumentException", Cond.methodLink RL 69 yX1_patched, Cond.instanceMethod yX1_patched, Cond.selects RX1 yX1_patched yX1_patched, Cond.initialized RX1, Cond.code yX1_patched cX1_patched 9 (some .int), Cond.fieldLink RX1 62 "ChecksumLab$Model" "width" "I", Cond.constantLong RX1 115 (8), Cond.methodLink RX1 47 yX1_findModel, Cond.instanceMethod yX1_findModel, Cond.selects RX1 yX1_findModel yX1_findModel, Cond.code yX1_findModel cX1_findModel 2 (some (.object "ChecksumLab$Model")), Cond.classLink RX1 101 "java/lang/IndexOutOfBoundsException", Cond.initialized "java/lang/IndexOutOfBoundsException", Cond.fieldLink RX1 11 "ChecksumLab" "defined" "[LChecksumLab$Model;", Cond.methodLink RX1 35 yX1_requireNumber, Cond.static yX1_requireNumber, Cond.code yX1_requireNumber cX1_requireNumber 2 none, Cond.classLink RX1 28 "java/lang/IllegalArgumentException", Cond.initialized "java/lang/IllegalArgumentException", Cond.methodLink RX1 109 yX1_requireLength, Cond.static yX1_requireLength, Cond.code yX1_requireLength cX1_requireLength 1 none]
def wsL_patched_r2 : List Cond := [Cond.methodLink RX1 84 yX1_requireByte, Cond.static yX1_requireByte, Cond.code yX1_requireByte cX1_requireByte 1 none, Cond.methodLink RX1 117 yX0_inTakenOrder, Cond.instanceMethod yX0_inTakenOrder, Cond.selects RX0 yX0_inTakenOrder yX0_inTakenOrder, Cond.initialized RX0, Cond.code yX0_inTakenOrder cX0_inTakenOrder 2 (some .int), Cond.fieldLink RX0 21 "ChecksumLab$Model" "reflectIn" "Z", Cond.static yX1_reversed, Cond.code yX1_reversed cX1_reversed 4 (some .int), Cond.methodLink RX1 106 yX0_divideByte, Cond.instanceMethod yX0_divideByte, Cond.selects RX0 yX0_divideByte yX0_divideByte, Cond.code yX0_divideByte cX0_divideByte 5 (some .int), Cond.methodLink RX0 37 yX0_timesX, Cond.instanceMethod yX0_timesX, Cond.selects RX0 yX0_timesX yX0_timesX, Cond.code yX0_timesX cX0_timesX 3 (some .int), Cond.fieldLink RX0 31 "ChecksumLab$Model" "mask" "I", Cond.fieldLink RX0 34 "ChecksumLab$Model" "highest" "I", Cond.fieldLink RX0 15 "ChecksumLab$Model" "poly" "I", Cond.methodLink RX1 70 yX0_powerOfX, Cond.instanceMethod yX0_powerOfX]
def wsL_patched_r3 : List Cond := [Cond.selects RX0 yX0_powerOfX yX0_powerOfX, Cond.code yX0_powerOfX cX0_powerOfX 5 (some .int), Cond.methodLink RX0 41 yX0_product, Cond.instanceMethod yX0_product, Cond.selects RX0 yX0_product yX0_product, Cond.code yX0_product cX0_product 5 (some .int), Cond.fieldLink RX0 9 "ChecksumLab$Model" "width" "I", Cond.methodLink RX1 112 yX0_registerOfSum, Cond.instanceMethod yX0_registerOfSum, Cond.selects RX0 yX0_registerOfSum yX0_registerOfSum, Cond.code yX0_registerOfSum cX0_registerOfSum 2 (some .int), Cond.fieldLink RX0 28 "ChecksumLab$Model" "xorOut" "I", Cond.methodLink RX0 54 yX0_inSumOrder, Cond.instanceMethod yX0_inSumOrder, Cond.selects RX0 yX0_inSumOrder yX0_inSumOrder, Cond.code yX0_inSumOrder cX0_inSumOrder 2 (some .int), Cond.fieldLink RX0 25 "ChecksumLab$Model" "reflectOut" "Z", Cond.methodLink RX1 65 yX0_product, Cond.methodLink RX1 58 yX0_sumOfRegister, Cond.instanceMethod yX0_sumOfRegister, Cond.selects RX0 yX0_sumOfRegister yX0_sumOfRegister, Cond.code yX0_sumOfRegister cX0_sumOfRegister 2 (some .int)]
def wsL_patched : List Cond := .codeWith yL_patched cL_patched 7 (some .int) [(0, 14, 17, 21), (0, 14, 21, 13)] :: ((wsL_patched_r1 ++ (wsL_patched_r2 ++ wsL_patched_r3)) ++ wsX00 ++ wsX10 ++ (vx_atS RX1 105 "java/lang/IndexOutOfBoundsException" ["java/lang/RuntimeException", "java/lang/Exception"]).filter goodWord ++ (vx_atS RX1 32 "java/lang/IllegalArgumentException" ["java/lang/RuntimeException", "java/lang/Exception"]).filter goodWord)
def wsL_wrongBit_r1 : List Cond := [Cond.classLink RL 21 "java/lang/IndexOutOfBoundsException", Cond.classLink RL 13 "java/lang/IllegalArgumentException", Cond.methodLink RL 72 yX1_wrongBit, Cond.instanceMethod yX1_wrongBit, Cond.selects RX1 yX1_wrongBit yX1_wrongBit, Cond.initialized RX1, Cond.code yX1_wrongBit cX1_wrongBit 9 (some .int), Cond.classLink RX1 28 "java/lang/IllegalArgumentException", Cond.initialized "java/lang/IllegalArgumentException", Cond.fieldLink RX1 62 "ChecksumLab$Model" "width" "I", Cond.fieldLink RX1 123 "ChecksumLab$Model" "poly" "I", Cond.methodLink RX1 47 yX1_findModel, Cond.instanceMethod yX1_findModel, Cond.selects RX1 yX1_findModel yX1_findModel, Cond.code yX1_findModel cX1_findModel 2 (some (.object "ChecksumLab$Model")), Cond.classLink RX1 101 "java/lang/IndexOutOfBoundsException", Cond.initialized "java/lang/IndexOutOfBoundsException", Cond.fieldLink RX1 11 "ChecksumLab" "defined" "[LChecksumLab$Model;", Cond.methodLink RX1 35 yX1_requireNumber, Cond.static yX1_requireNumber, Cond.code yX1_requireNumber cX1_requireNumber 2 none, Cond.methodLink RX1 120 yX0_inSumOrder, Cond.instanceMethod yX0_inSumOrder, Cond.selects RX0 yX0_inSumOrder yX0_inSumOrder]
def wsL_wrongBit_r2 : List Cond := [Cond.initialized RX0, Cond.code yX0_inSumOrder cX0_inSumOrder 2 (some .int), Cond.fieldLink RX0 25 "ChecksumLab$Model" "reflectOut" "Z", Cond.fieldLink RX0 9 "ChecksumLab$Model" "width" "I", Cond.static yX1_reversed, Cond.code yX1_reversed cX1_reversed 4 (some .int), Cond.methodLink RX1 77 yX0_timesX, Cond.instanceMethod yX0_timesX, Cond.selects RX0 yX0_timesX yX0_timesX, Cond.code yX0_timesX cX0_timesX 3 (some .int), Cond.fieldLink RX0 31 "ChecksumLab$Model" "mask" "I", Cond.fieldLink RX0 34 "ChecksumLab$Model" "highest" "I", Cond.fieldLink RX0 15 "ChecksumLab$Model" "poly" "I"]
def wsL_wrongBit : List Cond := .codeWith yL_wrongBit cL_wrongBit 6 (some .int) [(0, 12, 15, 21), (0, 12, 19, 13)] :: ((wsL_wrongBit_r1 ++ wsL_wrongBit_r2) ++ wsX00 ++ wsX10 ++ (vx_atS RX1 32 "java/lang/IllegalArgumentException" ["java/lang/RuntimeException", "java/lang/Exception"]).filter goodWord ++ (vx_atS RX1 105 "java/lang/IndexOutOfBoundsException" ["java/lang/RuntimeException", "java/lang/Exception"]).filter goodWord)
def wsL_fletcher : List Cond := .codeWith yL_fletcher cL_fletcher 4 (some .int) [(0, 9, 12, 21)] :: ([.classLink RL 21 "java/lang/IndexOutOfBoundsException", .methodLink RL 75 yX1_fletcher, .instanceMethod yX1_fletcher, .selects RX1 yX1_fletcher yX1_fletcher, .initialized RX1, .code yX1_fletcher cX1_fletcher 6 (some .int), .fieldLink RX1 24 "ChecksumLab" "sizes" "[I", .fieldLink RX1 21 "ChecksumLab" "rows" "[[I", .methodLink RX1 80 yX1_requireRow, .static yX1_requireRow, .code yX1_requireRow cX1_requireRow 1 none, .classLink RX1 101 "java/lang/IndexOutOfBoundsException", .initialized "java/lang/IndexOutOfBoundsException"] ++ wsX10 ++ (vx_atS RX1 105 "java/lang/IndexOutOfBoundsException" ["java/lang/RuntimeException", "java/lang/Exception"]).filter goodWord)
def wsL_fletcherJoined : List Cond := .codeWith yL_fletcherJoined cL_fletcherJoined 6 (some .int) [(0, 12, 15, 13)] :: ([.classLink RL 13 "java/lang/IllegalArgumentException", .methodLink RL 78 yX1_fletcherJoined, .instanceMethod yX1_fletcherJoined, .selects RX1 yX1_fletcherJoined yX1_fletcherJoined, .initialized RX1, .code yX1_fletcherJoined cX1_fletcherJoined 10 (some .int), .constantLong RX1 129 (255), .methodLink RX1 126 yX1_requireFletcher, .static yX1_requireFletcher, .code yX1_requireFletcher cX1_requireFletcher 1 none, .classLink RX1 28 "java/lang/IllegalArgumentException", .initialized "java/lang/IllegalArgumentException", .methodLink RX1 109 yX1_requireLength, .static yX1_requireLength, .code yX1_requireLength cX1_requireLength 1 none] ++ (vx_atS RX1 32 "java/lang/IllegalArgumentException" ["java/lang/RuntimeException", "java/lang/Exception"]).filter goodWord)
def wsL_adler : List Cond := .codeWith yL_adler cL_adler 4 (some .int) [(0, 9, 12, 21)] :: ([.classLink RL 21 "java/lang/IndexOutOfBoundsException", .methodLink RL 81 yX1_adler, .instanceMethod yX1_adler, .selects RX1 yX1_adler yX1_adler, .initialized RX1, .code yX1_adler cX1_adler 6 (some .int), .fieldLink RX1 24 "ChecksumLab" "sizes" "[I", .fieldLink RX1 21 "ChecksumLab" "rows" "[[I", .constant RX1 131 (65521), .methodLink RX1 80 yX1_requireRow, .static yX1_requireRow, .code yX1_requireRow cX1_requireRow 1 none, .classLink RX1 101 "java/lang/IndexOutOfBoundsException", .initialized "java/lang/IndexOutOfBoundsException", .methodLink RX1 132 yX1_adlerSum, .static yX1_adlerSum, .code yX1_adlerSum cX1_adlerSum 6 (some .int), .constantLong RX1 166 (65521), .methodLink RX1 168 yJ9_floorMod_f86c9, .static yJ9_floorMod_f86c9, .initialized RJ9, .code yJ9_floorMod_f86c9 cJ9_floorMod_f86c9 6 (some .long)] ++ wsX10 ++ (vx_atS RX1 105 "java/lang/IndexOutOfBoundsException" ["java/lang/RuntimeException", "java/lang/Exception"]).filter goodWord)
def wsL_adlerJoined_r1 : List Cond := [Cond.classLink RL 13 "java/lang/IllegalArgumentException", Cond.methodLink RL 84 yX1_adlerJoined, Cond.instanceMethod yX1_adlerJoined, Cond.selects RX1 yX1_adlerJoined yX1_adlerJoined, Cond.initialized RX1, Cond.code yX1_adlerJoined cX1_adlerJoined 10 (some .int), Cond.methodLink RX1 136 yX1_requireAdler, Cond.static yX1_requireAdler, Cond.code yX1_requireAdler cX1_requireAdler 1 none, Cond.classLink RX1 28 "java/lang/IllegalArgumentException", Cond.initialized "java/lang/IllegalArgumentException", Cond.constant RX1 131 (65521), Cond.methodLink RX1 139 yX1_adlerA, Cond.static yX1_adlerA, Cond.code yX1_adlerA cX1_adlerA 1 (some .int), Cond.constant RX1 165 (65535), Cond.methodLink RX1 142 yX1_adlerB, Cond.static yX1_adlerB, Cond.code yX1_adlerB cX1_adlerB 1 (some .int), Cond.methodLink RX1 109 yX1_requireLength, Cond.static yX1_requireLength, Cond.code yX1_requireLength cX1_requireLength 1 none, Cond.methodLink RX1 132 yX1_adlerSum, Cond.static yX1_adlerSum]
def wsL_adlerJoined_r2 : List Cond := [Cond.code yX1_adlerSum cX1_adlerSum 6 (some .int), Cond.constantLong RX1 166 (65521), Cond.methodLink RX1 168 yJ9_floorMod_f86c9, Cond.static yJ9_floorMod_f86c9, Cond.initialized RJ9, Cond.code yJ9_floorMod_f86c9 cJ9_floorMod_f86c9 6 (some .long)]
def wsL_adlerJoined : List Cond := .codeWith yL_adlerJoined cL_adlerJoined 6 (some .int) [(0, 12, 15, 13)] :: ((wsL_adlerJoined_r1 ++ wsL_adlerJoined_r2) ++ (vx_atS RX1 32 "java/lang/IllegalArgumentException" ["java/lang/RuntimeException", "java/lang/Exception"]).filter goodWord)
def wsL_adlerRolled_r1 : List Cond := [Cond.classLink RL 13 "java/lang/IllegalArgumentException", Cond.methodLink RL 87 yX1_adlerRolled, Cond.instanceMethod yX1_adlerRolled, Cond.selects RX1 yX1_adlerRolled yX1_adlerRolled, Cond.initialized RX1, Cond.code yX1_adlerRolled cX1_adlerRolled 9 (some .int), Cond.classLink RX1 28 "java/lang/IllegalArgumentException", Cond.initialized "java/lang/IllegalArgumentException", Cond.methodLink RX1 136 yX1_requireAdler, Cond.static yX1_requireAdler, Cond.code yX1_requireAdler cX1_requireAdler 1 none, Cond.constant RX1 131 (65521), Cond.methodLink RX1 139 yX1_adlerA, Cond.static yX1_adlerA, Cond.code yX1_adlerA cX1_adlerA 1 (some .int), Cond.constant RX1 165 (65535), Cond.methodLink RX1 142 yX1_adlerB, Cond.static yX1_adlerB, Cond.code yX1_adlerB cX1_adlerB 1 (some .int), Cond.methodLink RX1 84 yX1_requireByte, Cond.static yX1_requireByte, Cond.code yX1_requireByte cX1_requireByte 1 none, Cond.methodLink RX1 132 yX1_adlerSum, Cond.static yX1_adlerSum]
def wsL_adlerRolled_r2 : List Cond := [Cond.code yX1_adlerSum cX1_adlerSum 6 (some .int), Cond.constantLong RX1 166 (65521), Cond.methodLink RX1 168 yJ9_floorMod_f86c9, Cond.static yJ9_floorMod_f86c9, Cond.initialized RJ9, Cond.code yJ9_floorMod_f86c9 cJ9_floorMod_f86c9 6 (some .long)]
def wsL_adlerRolled : List Cond := .codeWith yL_adlerRolled cL_adlerRolled 7 (some .int) [(0, 14, 17, 13)] :: ((wsL_adlerRolled_r1 ++ wsL_adlerRolled_r2) ++ (vx_atS RX1 32 "java/lang/IllegalArgumentException" ["java/lang/RuntimeException", "java/lang/Exception"]).filter goodWord)
def wsL_law0_r1 : List Cond := [Cond.classLink RL 8 RX1, Cond.instantiable RX1 4, Cond.initialized RX1, Cond.classLink RL 91 RX2, Cond.instantiable RX2 10, Cond.initialized RX2, Cond.arrayClass .long, Cond.constantLong RL 116 (4294967295), Cond.methodLink RL 90 yX1_init, Cond.instanceMethod yX1_init, Cond.code yX1_init cX1_init 1 none, Cond.methodLink RX1 1 objectInit, Cond.instanceMethod objectInit, Cond.code objectInit ⟨#[0xb1]⟩ 1 none, Cond.classLink RX1 9 RX0, Cond.fieldLink RX1 11 "ChecksumLab" "defined" "[LChecksumLab$Model;", Cond.fieldLink RX1 15 "ChecksumLab" "definedCount" "I", Cond.classLink RX1 19 "[[I", Cond.arrayClass .int, Cond.fieldLink RX1 21 "ChecksumLab" "rows" "[[I", Cond.fieldLink RX1 24 "ChecksumLab" "sizes" "[I", Cond.methodLink RL 93 yX2_init, Cond.instanceMethod yX2_init, Cond.code yX2_init cX2_init 1 none]
def wsL_law0_r2 : List Cond := [Cond.methodLink RX2 1 objectInit, Cond.fieldLink RX2 7 "ChecksumLabModel" "width" "[I", Cond.fieldLink RX2 13 "ChecksumLabModel" "poly" "[I", Cond.fieldLink RX2 16 "ChecksumLabModel" "init" "[I", Cond.fieldLink RX2 19 "ChecksumLabModel" "xorOut" "[I", Cond.arrayClass .boolean, Cond.fieldLink RX2 22 "ChecksumLabModel" "reflectIn" "[Z", Cond.fieldLink RX2 26 "ChecksumLabModel" "reflectOut" "[Z", Cond.fieldLink RX2 29 "ChecksumLabModel" "bytes" "[I", Cond.fieldLink RX2 32 "ChecksumLabModel" "length" "[I", Cond.methodLink RL 94 yL_define, Cond.static yL_define, Cond.initialized RL, Cond.codeWith yL_define cL_define 9 (some .int) [(0, 18, 21, 13), (0, 18, 25, 15)], Cond.classLink RL 13 "java/lang/IllegalArgumentException", Cond.classLink RL 15 "java/lang/IllegalStateException", Cond.methodLink RL 7 yX1_define, Cond.instanceMethod yX1_define, Cond.selects RX1 yX1_define yX1_define, Cond.code yX1_define cX1_define 8 (some .int), Cond.classLink RX1 28 "java/lang/IllegalArgumentException", Cond.initialized "java/lang/IllegalArgumentException", Cond.classLink RX1 39 "java/lang/IllegalStateException", Cond.initialized "java/lang/IllegalStateException"]
def wsL_law0_r3 : List Cond := [Cond.instantiable RX0 8, Cond.initialized RX0, Cond.methodLink RX1 35 yX1_requireNumber, Cond.static yX1_requireNumber, Cond.code yX1_requireNumber cX1_requireNumber 2 none, Cond.methodLink RX1 44 yX0_init, Cond.instanceMethod yX0_init, Cond.code yX0_init cX0_init 7 none, Cond.methodLink RX0 3 objectInit, Cond.fieldLink RX0 9 "ChecksumLab$Model" "width" "I", Cond.fieldLink RX0 15 "ChecksumLab$Model" "poly" "I", Cond.fieldLink RX0 18 "ChecksumLab$Model" "init" "I", Cond.fieldLink RX0 21 "ChecksumLab$Model" "reflectIn" "Z", Cond.fieldLink RX0 25 "ChecksumLab$Model" "reflectOut" "Z", Cond.fieldLink RX0 28 "ChecksumLab$Model" "xorOut" "I", Cond.fieldLink RX0 31 "ChecksumLab$Model" "mask" "I", Cond.fieldLink RX0 34 "ChecksumLab$Model" "highest" "I", Cond.methodLink RL 99 yX2_define, Cond.instanceMethod yX2_define, Cond.selects RX2 yX2_define yX2_define, Cond.code yX2_define cX2_define 8 (some .int), Cond.fieldLink RX2 39 "ChecksumLabModel" "models" "I", Cond.methodLink RX2 42 yX2_in, Cond.static yX2_in]
def wsL_law0_r4 : List Cond := [Cond.code yX2_in cX2_in 3 (some .boolean), Cond.methodLink RX2 46 yX2_hasBits, Cond.static yX2_hasBits, Cond.code yX2_hasBits cX2_hasBits 2 (some .boolean), Cond.methodLink RX2 61 yX2_asked_, Cond.instanceMethod yX2_asked_, Cond.selects RX2 yX2_asked_ yX2_asked_, Cond.code yX2_asked_ cX2_asked_ 3 (some .boolean), Cond.fieldLink RX2 35 "ChecksumLabModel" "thrown" "I", Cond.methodLink RL 100 yX2_thrown, Cond.instanceMethod yX2_thrown, Cond.selects RX2 yX2_thrown yX2_thrown, Cond.code yX2_thrown cX2_thrown 1 (some .int), Cond.methodLink RL 104 yX1_models, Cond.instanceMethod yX1_models, Cond.selects RX1 yX1_models yX1_models, Cond.code yX1_models cX1_models 1 (some .int), Cond.methodLink RL 107 yX2_models, Cond.instanceMethod yX2_models, Cond.selects RX2 yX2_models yX2_models, Cond.code yX2_models cX2_models 1 (some .int), Cond.methodLink RL 108 yL_check, Cond.static yL_check, Cond.codeWith yL_check cL_check 4 (some .int) [(0, 9, 12, 21)]]
def wsL_law0_r5 : List Cond := [Cond.classLink RL 21 "java/lang/IndexOutOfBoundsException", Cond.methodLink RL 17 yX1_check, Cond.instanceMethod yX1_check, Cond.selects RX1 yX1_check yX1_check, Cond.code yX1_check cX1_check 5 (some .int), Cond.fieldLink RX1 51 "ChecksumLab$Model" "init" "I", Cond.methodLink RX1 47 yX1_findModel, Cond.instanceMethod yX1_findModel, Cond.selects RX1 yX1_findModel yX1_findModel, Cond.code yX1_findModel cX1_findModel 2 (some (.object "ChecksumLab$Model")), Cond.classLink RX1 101 "java/lang/IndexOutOfBoundsException", Cond.initialized "java/lang/IndexOutOfBoundsException", Cond.methodLink RX1 54 yX0_takeByte, Cond.instanceMethod yX0_takeByte, Cond.selects RX0 yX0_takeByte yX0_takeByte, Cond.code yX0_takeByte cX0_takeByte 6 (some .int), Cond.methodLink RX0 45 yX0_inTakenOrder, Cond.instanceMethod yX0_inTakenOrder, Cond.selects RX0 yX0_inTakenOrder yX0_inTakenOrder, Cond.code yX0_inTakenOrder cX0_inTakenOrder 2 (some .int), Cond.static yX1_reversed, Cond.code yX1_reversed cX1_reversed 4 (some .int), Cond.methodLink RX0 48 yX0_takeBit, Cond.instanceMethod yX0_takeBit]
def wsL_law0_r6 : List Cond := [Cond.selects RX0 yX0_takeBit yX0_takeBit, Cond.code yX0_takeBit cX0_takeBit 3 (some .int), Cond.methodLink RX0 37 yX0_timesX, Cond.instanceMethod yX0_timesX, Cond.selects RX0 yX0_timesX yX0_timesX, Cond.code yX0_timesX cX0_timesX 3 (some .int), Cond.methodLink RX1 58 yX0_sumOfRegister, Cond.instanceMethod yX0_sumOfRegister, Cond.selects RX0 yX0_sumOfRegister yX0_sumOfRegister, Cond.code yX0_sumOfRegister cX0_sumOfRegister 2 (some .int), Cond.methodLink RX0 54 yX0_inSumOrder, Cond.instanceMethod yX0_inSumOrder, Cond.selects RX0 yX0_inSumOrder yX0_inSumOrder, Cond.code yX0_inSumOrder cX0_inSumOrder 2 (some .int), Cond.methodLink RL 111 yX2_check, Cond.instanceMethod yX2_check, Cond.selects RX2 yX2_check yX2_check, Cond.code yX2_check cX2_check 4 (some .int), Cond.methodLink RX2 65 yX2_isModel, Cond.instanceMethod yX2_isModel, Cond.selects RX2 yX2_isModel yX2_isModel, Cond.code yX2_isModel cX2_isModel 2 (some .boolean), Cond.methodLink RX2 69 yX2_asked, Cond.instanceMethod yX2_asked]
def wsL_law0_r7 : List Cond := [Cond.selects RX2 yX2_asked yX2_asked, Cond.code yX2_asked cX2_asked 2 (some .boolean), Cond.methodLink RX2 72 yX2_takes, Cond.instanceMethod yX2_takes, Cond.selects RX2 yX2_takes yX2_takes, Cond.code yX2_takes cX2_takes 7 (some .int), Cond.methodLink RX2 50 yX2_timesX, Cond.instanceMethod yX2_timesX, Cond.selects RX2 yX2_timesX yX2_timesX, Cond.code yX2_timesX cX2_timesX 5 (some .int), Cond.methodLink RX2 76 yX2_sumOf, Cond.instanceMethod yX2_sumOf, Cond.selects RX2 yX2_sumOf yX2_sumOf, Cond.code yX2_sumOf cX2_sumOf 4 (some .int), Cond.methodLink RX2 58 yX2_reversed, Cond.static yX2_reversed, Cond.code yX2_reversed cX2_reversed 4 (some .int), Cond.methodLink RL 112 yL_multiply, Cond.static yL_multiply, Cond.codeWith yL_multiply cL_multiply 6 (some .int) [(0, 12, 15, 21), (0, 12, 19, 13)], Cond.methodLink RL 23 yX1_multiply, Cond.instanceMethod yX1_multiply, Cond.selects RX1 yX1_multiply yX1_multiply, Cond.code yX1_multiply cX1_multiply 5 (some .int)]
def wsL_law0_r8 : List Cond := [Cond.fieldLink RX1 62 "ChecksumLab$Model" "width" "I", Cond.methodLink RX1 65 yX0_product, Cond.instanceMethod yX0_product, Cond.selects RX0 yX0_product yX0_product, Cond.code yX0_product cX0_product 5 (some .int), Cond.methodLink RL 115 yX2_multiply, Cond.instanceMethod yX2_multiply, Cond.selects RX2 yX2_multiply yX2_multiply, Cond.code yX2_multiply cX2_multiply 5 (some .int), Cond.methodLink RX2 79 yX2_isNumber, Cond.instanceMethod yX2_isNumber, Cond.selects RX2 yX2_isNumber yX2_isNumber, Cond.code yX2_isNumber cX2_isNumber 3 (some .boolean), Cond.methodLink RX2 54 yX2_times, Cond.instanceMethod yX2_times, Cond.selects RX2 yX2_times yX2_times, Cond.code yX2_times cX2_times 7 (some .int), Cond.methodLink RL 118 yL_power, Cond.static yL_power, Cond.codeWith yL_power cL_power 6 (some .int) [(0, 11, 14, 21), (0, 11, 18, 13)], Cond.methodLink RL 27 yX1_power, Cond.instanceMethod yX1_power, Cond.selects RX1 yX1_power yX1_power, Cond.code yX1_power cX1_power 5 (some .int)]
def wsL_law0_r9 : List Cond := [Cond.methodLink RX1 70 yX0_powerOfX, Cond.instanceMethod yX0_powerOfX, Cond.selects RX0 yX0_powerOfX yX0_powerOfX, Cond.code yX0_powerOfX cX0_powerOfX 5 (some .int), Cond.methodLink RX0 41 yX0_product, Cond.methodLink RL 121 yX2_power, Cond.instanceMethod yX2_power, Cond.selects RX2 yX2_power yX2_power, Cond.code yX2_power cX2_power 4 (some .int), Cond.methodLink RX2 82 yX2_powerOf, Cond.instanceMethod yX2_powerOf, Cond.selects RX2 yX2_powerOf yX2_powerOf, Cond.code yX2_powerOf cX2_powerOf 6 (some .int), Cond.methodLink RL 122 yL_period, Cond.static yL_period, Cond.codeWith yL_period cL_period 5 (some .int) [(0, 10, 13, 21), (0, 10, 17, 13)], Cond.methodLink RL 31 yX1_period, Cond.instanceMethod yX1_period, Cond.selects RX1 yX1_period yX1_period, Cond.code yX1_period cX1_period 6 (some .int), Cond.constant RX1 74 (70000), Cond.methodLink RX1 77 yX0_timesX, Cond.methodLink RL 125 yX2_period, Cond.instanceMethod yX2_period]
def wsL_law0_r10 : List Cond := [Cond.selects RX2 yX2_period yX2_period, Cond.code yX2_period cX2_period 5 (some .int), Cond.constant RX2 86 (70000), Cond.methodLink RL 126 yL_append, Cond.static yL_append, Cond.codeWith yL_append cL_append 5 (some .int) [(0, 10, 13, 21), (0, 10, 17, 13), (0, 10, 21, 15)], Cond.methodLink RL 35 yX1_append, Cond.instanceMethod yX1_append, Cond.selects RX1 yX1_append yX1_append, Cond.code yX1_append cX1_append 3 (some .int), Cond.methodLink RX1 80 yX1_requireRow, Cond.static yX1_requireRow, Cond.code yX1_requireRow cX1_requireRow 1 none, Cond.methodLink RX1 84 yX1_requireByte, Cond.static yX1_requireByte, Cond.code yX1_requireByte cX1_requireByte 1 none, Cond.methodLink RX1 87 yX1_requireRoom, Cond.instanceMethod yX1_requireRoom, Cond.selects RX1 yX1_requireRoom yX1_requireRoom, Cond.code yX1_requireRoom cX1_requireRoom 3 none, Cond.methodLink RL 128 yX2_append, Cond.instanceMethod yX2_append, Cond.selects RX2 yX2_append yX2_append, Cond.code yX2_append cX2_append 3 (some .int)]
def wsL_law0_r11 : List Cond := [Cond.methodLink RX2 87 yX2_isRow, Cond.static yX2_isRow, Cond.code yX2_isRow cX2_isRow 1 (some .boolean), Cond.methodLink RX2 90 yX2_isByte, Cond.static yX2_isByte, Cond.code yX2_isByte cX2_isByte 1 (some .boolean), Cond.methodLink RX2 93 yX2_puts, Cond.instanceMethod yX2_puts, Cond.selects RX2 yX2_puts yX2_puts, Cond.code yX2_puts cX2_puts 3 none, Cond.methodLink RL 129 yL_appendSeries, Cond.static yL_appendSeries, Cond.codeWith yL_appendSeries cL_appendSeries 7 (some .int) [(0, 14, 17, 21), (0, 14, 21, 13), (0, 14, 25, 15)], Cond.methodLink RL 38 yX1_appendSeries, Cond.instanceMethod yX1_appendSeries, Cond.selects RX1 yX1_appendSeries yX1_appendSeries, Cond.code yX1_appendSeries cX1_appendSeries 7 (some .int), Cond.methodLink RL 132 yX2_appendSeries, Cond.instanceMethod yX2_appendSeries, Cond.selects RX2 yX2_appendSeries yX2_appendSeries, Cond.code yX2_appendSeries cX2_appendSeries 7 (some .int), Cond.methodLink RL 133 yL_appendRow, Cond.static yL_appendRow, Cond.codeWith yL_appendRow cL_appendRow 5 (some .int) [(0, 10, 13, 21), (0, 10, 17, 15)]]
def wsL_law0_r12 : List Cond := [Cond.methodLink RL 42 yX1_appendRow, Cond.instanceMethod yX1_appendRow, Cond.selects RX1 yX1_appendRow yX1_appendRow, Cond.code yX1_appendRow cX1_appendRow 6 (some .int), Cond.methodLink RL 135 yX2_appendRow, Cond.instanceMethod yX2_appendRow, Cond.selects RX2 yX2_appendRow yX2_appendRow, Cond.code yX2_appendRow cX2_appendRow 6 (some .int), Cond.methodLink RL 136 yL_setByte, Cond.static yL_setByte, Cond.codeWith yL_setByte cL_setByte 6 (some .int) [(0, 12, 15, 21), (0, 12, 19, 13)], Cond.methodLink RL 45 yX1_setByte, Cond.instanceMethod yX1_setByte, Cond.selects RX1 yX1_setByte yX1_setByte, Cond.code yX1_setByte cX1_setByte 5 (some .int), Cond.methodLink RX1 92 yX1_requireIndex, Cond.instanceMethod yX1_requireIndex, Cond.selects RX1 yX1_requireIndex yX1_requireIndex, Cond.code yX1_requireIndex cX1_requireIndex 3 none, Cond.methodLink RL 138 yX2_setByte, Cond.instanceMethod yX2_setByte, Cond.selects RX2 yX2_setByte yX2_setByte, Cond.code yX2_setByte cX2_setByte 5 (some .int), Cond.methodLink RX2 97 yX2_isPlace]
def wsL_law0_r13 : List Cond := [Cond.instanceMethod yX2_isPlace, Cond.selects RX2 yX2_isPlace yX2_isPlace, Cond.code yX2_isPlace cX2_isPlace 3 (some .boolean), Cond.methodLink RL 139 yL_truncate, Cond.static yL_truncate, Cond.codeWith yL_truncate cL_truncate 5 (some .int) [(0, 10, 13, 21), (0, 10, 17, 13)], Cond.methodLink RL 48 yX1_truncate, Cond.instanceMethod yX1_truncate, Cond.selects RX1 yX1_truncate yX1_truncate, Cond.code yX1_truncate cX1_truncate 4 (some .int), Cond.methodLink RL 141 yX2_truncate, Cond.instanceMethod yX2_truncate, Cond.selects RX2 yX2_truncate yX2_truncate, Cond.code yX2_truncate cX2_truncate 5 (some .int), Cond.methodLink RL 142 yL_length, Cond.static yL_length, Cond.codeWith yL_length cL_length 4 (some .int) [(0, 9, 12, 21)], Cond.methodLink RL 51 yX1_length, Cond.instanceMethod yX1_length, Cond.selects RX1 yX1_length yX1_length, Cond.code yX1_length cX1_length 2 (some .int), Cond.methodLink RL 144 yX2_length, Cond.instanceMethod yX2_length, Cond.selects RX2 yX2_length yX2_length]
def wsL_law0_r14 : List Cond := [Cond.code yX2_length cX2_length 2 (some .int), Cond.methodLink RL 145 yL_byteAt, Cond.static yL_byteAt, Cond.codeWith yL_byteAt cL_byteAt 5 (some .int) [(0, 10, 13, 21)], Cond.methodLink RL 54 yX1_byteAt, Cond.instanceMethod yX1_byteAt, Cond.selects RX1 yX1_byteAt yX1_byteAt, Cond.code yX1_byteAt cX1_byteAt 3 (some .int), Cond.methodLink RL 147 yX2_byteAt, Cond.instanceMethod yX2_byteAt, Cond.selects RX2 yX2_byteAt yX2_byteAt, Cond.code yX2_byteAt cX2_byteAt 3 (some .int), Cond.methodLink RL 148 yL_sum, Cond.static yL_sum, Cond.codeWith yL_sum cL_sum 5 (some .int) [(0, 10, 13, 21)], Cond.methodLink RL 57 yX1_sum, Cond.instanceMethod yX1_sum, Cond.selects RX1 yX1_sum yX1_sum, Cond.code yX1_sum cX1_sum 4 (some .int), Cond.methodLink RX1 97 yX1_partSum, Cond.instanceMethod yX1_partSum, Cond.selects RX1 yX1_partSum yX1_partSum, Cond.code yX1_partSum cX1_partSum 7 (some .int), Cond.methodLink RL 150 yX2_sum]
def wsL_law0_r15 : List Cond := [Cond.instanceMethod yX2_sum, Cond.selects RX2 yX2_sum yX2_sum, Cond.code yX2_sum cX2_sum 3 (some .int), Cond.methodLink RX2 100 yX2_part, Cond.instanceMethod yX2_part, Cond.selects RX2 yX2_part yX2_part, Cond.code yX2_part cX2_part 7 (some .int), Cond.methodLink RL 151 yL_sumOfPart, Cond.static yL_sumOfPart, Cond.codeWith yL_sumOfPart cL_sumOfPart 7 (some .int) [(0, 14, 17, 21)], Cond.methodLink RL 60 yX1_sumOfPart, Cond.instanceMethod yX1_sumOfPart, Cond.selects RX1 yX1_sumOfPart yX1_sumOfPart, Cond.code yX1_sumOfPart cX1_sumOfPart 6 (some .int), Cond.methodLink RL 153 yX2_sumOfPart, Cond.instanceMethod yX2_sumOfPart, Cond.selects RX2 yX2_sumOfPart yX2_sumOfPart, Cond.code yX2_sumOfPart cX2_sumOfPart 6 (some .int), Cond.methodLink RL 154 yL_remainder, Cond.static yL_remainder, Cond.codeWith yL_remainder cL_remainder 5 (some .int) [(0, 10, 13, 21)], Cond.methodLink RL 63 yX1_remainder, Cond.instanceMethod yX1_remainder, Cond.selects RX1 yX1_remainder yX1_remainder]
def wsL_law0_r16 : List Cond := [Cond.code yX1_remainder cX1_remainder 7 (some .int), Cond.methodLink RX1 106 yX0_divideByte, Cond.instanceMethod yX0_divideByte, Cond.selects RX0 yX0_divideByte yX0_divideByte, Cond.code yX0_divideByte cX0_divideByte 5 (some .int), Cond.methodLink RL 156 yX2_remainder, Cond.instanceMethod yX2_remainder, Cond.selects RX2 yX2_remainder yX2_remainder, Cond.code yX2_remainder cX2_remainder 6 (some .int), Cond.methodLink RL 157 yL_joined, Cond.static yL_joined, Cond.codeWith yL_joined cL_joined 7 (some .int) [(0, 14, 17, 21), (0, 14, 21, 13)], Cond.methodLink RL 66 yX1_joined, Cond.instanceMethod yX1_joined, Cond.selects RX1 yX1_joined yX1_joined, Cond.code yX1_joined cX1_joined 9 (some .int), Cond.constantLong RX1 115 (8), Cond.methodLink RX1 109 yX1_requireLength, Cond.static yX1_requireLength, Cond.code yX1_requireLength cX1_requireLength 1 none, Cond.methodLink RX1 112 yX0_registerOfSum, Cond.instanceMethod yX0_registerOfSum, Cond.selects RX0 yX0_registerOfSum yX0_registerOfSum, Cond.code yX0_registerOfSum cX0_registerOfSum 2 (some .int)]
def wsL_law0_r17 : List Cond := [Cond.methodLink RL 159 yX2_joined, Cond.instanceMethod yX2_joined, Cond.selects RX2 yX2_joined yX2_joined, Cond.code yX2_joined cX2_joined 8 (some .int), Cond.constantLong RX2 106 (8), Cond.methodLink RX2 103 yX2_registerOf, Cond.instanceMethod yX2_registerOf, Cond.selects RX2 yX2_registerOf yX2_registerOf, Cond.code yX2_registerOf cX2_registerOf 4 (some .int), Cond.methodLink RL 160 yL_patched, Cond.static yL_patched, Cond.codeWith yL_patched cL_patched 7 (some .int) [(0, 14, 17, 21), (0, 14, 21, 13)], Cond.methodLink RL 69 yX1_patched, Cond.instanceMethod yX1_patched, Cond.selects RX1 yX1_patched yX1_patched, Cond.code yX1_patched cX1_patched 9 (some .int), Cond.methodLink RX1 117 yX0_inTakenOrder, Cond.methodLink RL 162 yX2_patched, Cond.instanceMethod yX2_patched, Cond.selects RX2 yX2_patched yX2_patched, Cond.code yX2_patched cX2_patched 8 (some .int), Cond.methodLink RL 163 yL_wrongBit, Cond.static yL_wrongBit, Cond.codeWith yL_wrongBit cL_wrongBit 6 (some .int) [(0, 12, 15, 21), (0, 12, 19, 13)]]
def wsL_law0_r18 : List Cond := [Cond.methodLink RL 72 yX1_wrongBit, Cond.instanceMethod yX1_wrongBit, Cond.selects RX1 yX1_wrongBit yX1_wrongBit, Cond.code yX1_wrongBit cX1_wrongBit 9 (some .int), Cond.fieldLink RX1 123 "ChecksumLab$Model" "poly" "I", Cond.methodLink RX1 120 yX0_inSumOrder, Cond.methodLink RL 165 yX2_wrongBit, Cond.instanceMethod yX2_wrongBit, Cond.selects RX2 yX2_wrongBit yX2_wrongBit, Cond.code yX2_wrongBit cX2_wrongBit 9 (some .int), Cond.methodLink RL 166 yL_fletcher, Cond.static yL_fletcher, Cond.codeWith yL_fletcher cL_fletcher 4 (some .int) [(0, 9, 12, 21)], Cond.methodLink RL 75 yX1_fletcher, Cond.instanceMethod yX1_fletcher, Cond.selects RX1 yX1_fletcher yX1_fletcher, Cond.code yX1_fletcher cX1_fletcher 6 (some .int), Cond.methodLink RL 168 yX2_fletcher, Cond.instanceMethod yX2_fletcher, Cond.selects RX2 yX2_fletcher yX2_fletcher, Cond.code yX2_fletcher cX2_fletcher 6 (some .int), Cond.methodLink RL 169 yL_fletcherJoined, Cond.static yL_fletcherJoined, Cond.codeWith yL_fletcherJoined cL_fletcherJoined 6 (some .int) [(0, 12, 15, 13)]]
def wsL_law0_r19 : List Cond := [Cond.methodLink RL 78 yX1_fletcherJoined, Cond.instanceMethod yX1_fletcherJoined, Cond.selects RX1 yX1_fletcherJoined yX1_fletcherJoined, Cond.code yX1_fletcherJoined cX1_fletcherJoined 10 (some .int), Cond.constantLong RX1 129 (255), Cond.methodLink RX1 126 yX1_requireFletcher, Cond.static yX1_requireFletcher, Cond.code yX1_requireFletcher cX1_requireFletcher 1 none, Cond.methodLink RL 171 yX2_fletcherJoined, Cond.instanceMethod yX2_fletcherJoined, Cond.selects RX2 yX2_fletcherJoined yX2_fletcherJoined, Cond.code yX2_fletcherJoined cX2_fletcherJoined 7 (some .int), Cond.constantLong RX2 111 (255), Cond.methodLink RX2 108 yX2_isFletcher, Cond.static yX2_isFletcher, Cond.code yX2_isFletcher cX2_isFletcher 1 (some .boolean), Cond.methodLink RL 172 yL_adler, Cond.static yL_adler, Cond.codeWith yL_adler cL_adler 4 (some .int) [(0, 9, 12, 21)], Cond.methodLink RL 81 yX1_adler, Cond.instanceMethod yX1_adler, Cond.selects RX1 yX1_adler yX1_adler, Cond.code yX1_adler cX1_adler 6 (some .int), Cond.constant RX1 131 (65521)]
def wsL_law0_r20 : List Cond := [Cond.methodLink RX1 132 yX1_adlerSum, Cond.static yX1_adlerSum, Cond.code yX1_adlerSum cX1_adlerSum 6 (some .int), Cond.constantLong RX1 166 (65521), Cond.methodLink RX1 168 yJ9_floorMod_f86c9, Cond.static yJ9_floorMod_f86c9, Cond.initialized RJ9, Cond.code yJ9_floorMod_f86c9 cJ9_floorMod_f86c9 6 (some .long), Cond.methodLink RL 174 yX2_adler, Cond.instanceMethod yX2_adler, Cond.selects RX2 yX2_adler yX2_adler, Cond.code yX2_adler cX2_adler 6 (some .int), Cond.constant RX2 113 (65521), Cond.constant RX2 114 (65536), Cond.methodLink RL 175 yL_adlerJoined, Cond.static yL_adlerJoined, Cond.codeWith yL_adlerJoined cL_adlerJoined 6 (some .int) [(0, 12, 15, 13)], Cond.methodLink RL 84 yX1_adlerJoined, Cond.instanceMethod yX1_adlerJoined, Cond.selects RX1 yX1_adlerJoined yX1_adlerJoined, Cond.code yX1_adlerJoined cX1_adlerJoined 10 (some .int), Cond.methodLink RX1 136 yX1_requireAdler, Cond.static yX1_requireAdler, Cond.code yX1_requireAdler cX1_requireAdler 1 none]
def wsL_law0_r21 : List Cond := [Cond.methodLink RX1 139 yX1_adlerA, Cond.static yX1_adlerA, Cond.code yX1_adlerA cX1_adlerA 1 (some .int), Cond.constant RX1 165 (65535), Cond.methodLink RX1 142 yX1_adlerB, Cond.static yX1_adlerB, Cond.code yX1_adlerB cX1_adlerB 1 (some .int), Cond.methodLink RL 177 yX2_adlerJoined, Cond.instanceMethod yX2_adlerJoined, Cond.selects RX2 yX2_adlerJoined yX2_adlerJoined, Cond.code yX2_adlerJoined cX2_adlerJoined 8 (some .int), Cond.methodLink RX2 129 yX2_isAdler, Cond.static yX2_isAdler, Cond.code yX2_isAdler cX2_isAdler 1 (some .boolean), Cond.methodLink RX2 116 yX2_low, Cond.static yX2_low, Cond.code yX2_low cX2_low 1 (some .int), Cond.constant RX2 115 (65535), Cond.methodLink RX2 120 yX2_high, Cond.static yX2_high, Cond.code yX2_high cX2_high 1 (some .int), Cond.methodLink RX2 132 yX2_adlerOf, Cond.static yX2_adlerOf, Cond.code yX2_adlerOf cX2_adlerOf 4 (some .int)]
def wsL_law0_r22 : List Cond := [Cond.methodLink RX2 125 yX2_reduced, Cond.static yX2_reduced, Cond.code yX2_reduced cX2_reduced 4 (some .int), Cond.constantLong RX2 123 (65521), Cond.methodLink RL 178 yL_adlerRolled, Cond.static yL_adlerRolled, Cond.codeWith yL_adlerRolled cL_adlerRolled 7 (some .int) [(0, 14, 17, 13)], Cond.methodLink RL 87 yX1_adlerRolled, Cond.instanceMethod yX1_adlerRolled, Cond.selects RX1 yX1_adlerRolled yX1_adlerRolled, Cond.code yX1_adlerRolled cX1_adlerRolled 9 (some .int), Cond.methodLink RL 180 yX2_adlerRolled, Cond.instanceMethod yX2_adlerRolled, Cond.selects RX2 yX2_adlerRolled yX2_adlerRolled, Cond.code yX2_adlerRolled cX2_adlerRolled 9 (some .int)]
def wsL_law0 : List Cond := (wsL_law0_r1 ++ (wsL_law0_r2 ++ (wsL_law0_r3 ++ (wsL_law0_r4 ++ (wsL_law0_r5 ++ (wsL_law0_r6 ++ (wsL_law0_r7 ++ (wsL_law0_r8 ++ (wsL_law0_r9 ++ (wsL_law0_r10 ++ (wsL_law0_r11 ++ (wsL_law0_r12 ++ (wsL_law0_r13 ++ (wsL_law0_r14 ++ (wsL_law0_r15 ++ (wsL_law0_r16 ++ (wsL_law0_r17 ++ (wsL_law0_r18 ++ (wsL_law0_r19 ++ (wsL_law0_r20 ++ (wsL_law0_r21 ++ wsL_law0_r22))))))))))))))))))))) ++ wsX10 ++ wsX20 ++ wsX00 ++ ([] : List Cond)
def wsL_law : List Cond := wsL_law0 ++ (vx_atS RX1 32 "java/lang/IllegalArgumentException" ["java/lang/RuntimeException", "java/lang/Exception"]).filter goodWord ++ (vx_atS RX1 43 "java/lang/IllegalStateException" ["java/lang/RuntimeException", "java/lang/Exception"]).filter goodWord ++ (vx_atS RX1 105 "java/lang/IndexOutOfBoundsException" ["java/lang/RuntimeException", "java/lang/Exception"]).filter goodWord
abbrev vwCl : List vw_C := [(RX0, TX0, 8), (RX1, TX1, 4), (RX2, TX2, 10)]
end
section
set_option maxRecDepth 20000 in
theorem wsL_law0_r1_in : GoodIn lw_tbl wsL_law0_r1 := goodIn_r _ [29, 30, 19, 469, 470, 20, 700, 699, 31, 32, 33, 34, 35, 36, 37, 41, 42, 39, 54, 43, 44, 471, 472, 473] (by decide +kernel) (by decide +kernel)
set_option maxRecDepth 20000 in
theorem wsL_law0_r2_in : GoodIn lw_tbl wsL_law0_r2 := goodIn_r _ [474, 475, 476, 477, 478, 506, 479, 480, 482, 483, 59, 60, 18, 61, 62, 63, 64, 65, 66, 67, 68, 24, 140, 25] (by decide +kernel) (by decide +kernel)
set_option maxRecDepth 20000 in
theorem wsL_law0_r3_in : GoodIn lw_tbl wsL_law0_r3 := goodIn_r _ [156, 26, 136, 137, 138, 157, 158, 159, 160, 161, 163, 165, 167, 168, 169, 170, 171, 511, 512, 513, 514, 481, 515, 516] (by decide +kernel) (by decide +kernel)
set_option maxRecDepth 20000 in
theorem wsL_law0_r4_in : GoodIn lw_tbl wsL_law0_r4 := goodIn_r _ [517, 518, 519, 520, 521, 523, 5, 524, 484, 507, 508, 509, 510, 55, 56, 57, 58, 525, 526, 527, 528, 189, 190, 191] (by decide +kernel) (by decide +kernel)
set_option maxRecDepth 20000 in
theorem wsL_law0_r5_in : GoodIn lw_tbl wsL_law0_r5 := goodIn_r _ [192, 193, 194, 195, 196, 166, 197, 199, 1, 200, 201, 27, 217, 218, 219, 220, 221, 222, 223, 224, 226, 227, 228, 229] (by decide +kernel) (by decide +kernel)
set_option maxRecDepth 20000 in
theorem wsL_law0_r6_in : GoodIn lw_tbl wsL_law0_r6 := goodIn_r _ [230, 231, 232, 233, 234, 235, 236, 237, 238, 239, 240, 241, 242, 243, 529, 530, 531, 532, 533, 535, 6, 536, 537, 539] (by decide +kernel) (by decide +kernel)
set_option maxRecDepth 20000 in
theorem wsL_law0_r7_in : GoodIn lw_tbl wsL_law0_r7 := goodIn_r _ [7, 540, 541, 543, 8, 544, 545, 547, 9, 548, 549, 551, 10, 552, 553, 554, 555, 244, 245, 246, 247, 248, 249, 250] (by decide +kernel) (by decide +kernel)
set_option maxRecDepth 20000 in
theorem wsL_law0_r8_in : GoodIn lw_tbl wsL_law0_r8 := goodIn_r _ [162, 251, 252, 253, 254, 556, 557, 558, 559, 560, 562, 11, 563, 564, 566, 12, 567, 255, 256, 257, 258, 259, 260, 261] (by decide +kernel) (by decide +kernel)
set_option maxRecDepth 20000 in
theorem wsL_law0_r9_in : GoodIn lw_tbl wsL_law0_r9 := goodIn_r _ [263, 264, 265, 266, 267, 568, 569, 570, 571, 572, 574, 13, 575, 268, 269, 270, 271, 272, 273, 274, 275, 277, 576, 577] (by decide +kernel) (by decide +kernel)
set_option maxRecDepth 20000 in
theorem wsL_law0_r10_in : GoodIn lw_tbl wsL_law0_r10 := goodIn_r _ [578, 579, 580, 278, 279, 280, 281, 282, 283, 284, 285, 286, 287, 289, 290, 291, 293, 295, 2, 296, 581, 582, 583, 584] (by decide +kernel) (by decide +kernel)
set_option maxRecDepth 20000 in
theorem wsL_law0_r11_in : GoodIn lw_tbl wsL_law0_r11 := goodIn_r _ [585, 586, 587, 588, 589, 590, 591, 593, 14, 594, 298, 299, 300, 301, 302, 303, 304, 595, 596, 597, 598, 306, 307, 308] (by decide +kernel) (by decide +kernel)
set_option maxRecDepth 20000 in
theorem wsL_law0_r12_in : GoodIn lw_tbl wsL_law0_r12 := goodIn_r _ [309, 310, 311, 312, 599, 600, 601, 602, 313, 314, 315, 316, 317, 318, 319, 320, 322, 3, 323, 603, 604, 605, 606, 607] (by decide +kernel) (by decide +kernel)
set_option maxRecDepth 20000 in
theorem wsL_law0_r13_in : GoodIn lw_tbl wsL_law0_r13 := goodIn_r _ [609, 15, 610, 325, 326, 327, 328, 329, 330, 331, 611, 612, 613, 614, 333, 334, 335, 336, 337, 338, 339, 615, 616, 617] (by decide +kernel) (by decide +kernel)
set_option maxRecDepth 20000 in
theorem wsL_law0_r14_in : GoodIn lw_tbl wsL_law0_r14 := goodIn_r _ [618, 340, 341, 342, 343, 344, 345, 346, 619, 620, 621, 622, 347, 348, 349, 350, 351, 352, 353, 354, 356, 4, 357, 623] (by decide +kernel) (by decide +kernel)
set_option maxRecDepth 20000 in
theorem wsL_law0_r15_in : GoodIn lw_tbl wsL_law0_r15 := goodIn_r _ [624, 625, 626, 627, 629, 16, 630, 358, 359, 360, 361, 362, 363, 364, 631, 632, 633, 634, 366, 367, 368, 369, 370, 371] (by decide +kernel) (by decide +kernel)
set_option maxRecDepth 20000 in
theorem wsL_law0_r16_in : GoodIn lw_tbl wsL_law0_r16 := goodIn_r _ [372, 373, 374, 375, 376, 635, 636, 637, 638, 377, 378, 379, 380, 381, 382, 383, 392, 384, 385, 386, 388, 389, 390, 391] (by decide +kernel) (by decide +kernel)
set_option maxRecDepth 20000 in
theorem wsL_law0_r17_in : GoodIn lw_tbl wsL_law0_r17 := goodIn_r _ [639, 640, 641, 642, 647, 643, 645, 17, 646, 393, 394, 395, 396, 397, 398, 399, 400, 648, 649, 650, 651, 401, 402, 403] (by decide +kernel) (by decide +kernel)
set_option maxRecDepth 20000 in
theorem wsL_law0_r18_in : GoodIn lw_tbl wsL_law0_r18 := goodIn_r _ [404, 405, 406, 407, 164, 408, 652, 653, 654, 655, 409, 410, 411, 412, 413, 414, 415, 656, 657, 658, 659, 416, 417, 418] (by decide +kernel) (by decide +kernel)
set_option maxRecDepth 20000 in
theorem wsL_law0_r19_in : GoodIn lw_tbl wsL_law0_r19 := goodIn_r _ [419, 420, 421, 422, 427, 423, 424, 425, 660, 661, 662, 663, 667, 664, 665, 666, 428, 429, 430, 431, 432, 433, 434, 435] (by decide +kernel) (by decide +kernel)
set_option maxRecDepth 20000 in
theorem wsL_law0_r20_in : GoodIn lw_tbl wsL_law0_r20 := goodIn_r _ [436, 437, 438, 439, 440, 441, 28, 442, 668, 669, 670, 671, 672, 673, 443, 444, 445, 446, 447, 448, 449, 450, 451, 452] (by decide +kernel) (by decide +kernel)
set_option maxRecDepth 20000 in
theorem wsL_law0_r21_in : GoodIn lw_tbl wsL_law0_r21 := goodIn_r _ [453, 454, 455, 456, 457, 458, 459, 674, 675, 676, 677, 678, 679, 680, 681, 682, 683, 684, 685, 686, 687, 688, 689, 690] (by decide +kernel) (by decide +kernel)
set_option maxRecDepth 20000 in
theorem wsL_law0_r22_in : GoodIn lw_tbl wsL_law0_r22 := goodIn_r _ [691, 692, 693, 694, 461, 462, 463, 464, 465, 466, 467, 695, 696, 697, 698] (by decide +kernel) (by decide +kernel)
set_option maxRecDepth 20000 in
theorem wsL_law0_X10_in : GoodIn lw_tbl wsX10 := goodIn_of _ (by decide +kernel)
set_option maxRecDepth 20000 in
theorem wsL_law0_X20_in : GoodIn lw_tbl wsX20 := goodIn_of _ (by decide +kernel)
set_option maxRecDepth 20000 in
theorem wsL_law0_X00_in : GoodIn lw_tbl wsX00 := goodIn_of _ (by decide +kernel)
end
section
theorem wsL_law_in0 : ∀ w ∈ wsL_law0, w ∈ lw_tbl := fun w h => ((goodIn_app ((goodIn_app (goodIn_app (goodIn_app (goodIn_app wsL_law0_r1_in (goodIn_app wsL_law0_r2_in (goodIn_app wsL_law0_r3_in (goodIn_app wsL_law0_r4_in (goodIn_app wsL_law0_r5_in (goodIn_app wsL_law0_r6_in (goodIn_app wsL_law0_r7_in (goodIn_app wsL_law0_r8_in (goodIn_app wsL_law0_r9_in (goodIn_app wsL_law0_r10_in (goodIn_app wsL_law0_r11_in (goodIn_app wsL_law0_r12_in (goodIn_app wsL_law0_r13_in (goodIn_app wsL_law0_r14_in (goodIn_app wsL_law0_r15_in (goodIn_app wsL_law0_r16_in (goodIn_app wsL_law0_r17_in (goodIn_app wsL_law0_r18_in (goodIn_app wsL_law0_r19_in (goodIn_app wsL_law0_r20_in (goodIn_app wsL_law0_r21_in (wsL_law0_r22_in)))))))))))))))))))))) wsL_law0_X10_in) wsL_law0_X20_in) wsL_law0_X00_in)) (fun w h => absurd h List.not_mem_nil) : GoodIn lw_tbl wsL_law0) w h).1
theorem wsL_law_x0 : ∀ w ∈ (vx_atS RX1 32 "java/lang/IllegalArgumentException" ["java/lang/RuntimeException", "java/lang/Exception"]).filter goodWord, w ∈ lw_tbl := by decide +kernel
theorem wsL_law_x1 : ∀ w ∈ (vx_atS RX1 43 "java/lang/IllegalStateException" ["java/lang/RuntimeException", "java/lang/Exception"]).filter goodWord, w ∈ lw_tbl := by decide +kernel
theorem wsL_law_x2 : ∀ w ∈ (vx_atS RX1 105 "java/lang/IndexOutOfBoundsException" ["java/lang/RuntimeException", "java/lang/Exception"]).filter goodWord, w ∈ lw_tbl := by decide +kernel
theorem wsL_law_in : ∀ w ∈ wsL_law, w ∈ lw_tbl := fun w h => (List.mem_append.mp h).elim (fun h => (List.mem_append.mp h).elim (fun h => (List.mem_append.mp h).elim (fun h => wsL_law_in0 w h) (fun h => wsL_law_x0 w h)) (fun h => wsL_law_x1 w h)) (fun h => wsL_law_x2 w h)
theorem inlX0 : ∀ w ∈ wsX00, w ∈ wsL_law := fun _ h => List.mem_append_left _ (List.mem_append_left _ (List.mem_append_left _ (List.mem_append_left _ (List.mem_append_right _ h))))
theorem inX0 : ∀ w ∈ wsX00, w ∈ lw_tbl := fun w h => wsL_law_in w (inlX0 w h)
theorem inlX1 : ∀ w ∈ wsX10, w ∈ wsL_law := fun _ h => List.mem_append_left _ (List.mem_append_left _ (List.mem_append_left _ (List.mem_append_left _ (List.mem_append_left _ (List.mem_append_left _ (List.mem_append_right _ h))))))
theorem inX1 : ∀ w ∈ wsX10, w ∈ lw_tbl := fun w h => wsL_law_in w (inlX1 w h)
theorem inlX2 : ∀ w ∈ wsX20, w ∈ wsL_law := fun _ h => List.mem_append_left _ (List.mem_append_left _ (List.mem_append_left _ (List.mem_append_left _ (List.mem_append_left _ (List.mem_append_right _ h)))))
theorem inX2 : ∀ w ∈ wsX20, w ∈ lw_tbl := fun w h => wsL_law_in w (inlX2 w h)
theorem inJ9 : ∀ w ∈ wsJ90, w ∈ lw_tbl := by decide +kernel
theorem inJ0 : ∀ w ∈ wsJ00, w ∈ lw_tbl := by decide +kernel
end
section
/-! the base layer: booleans, the launch's facts that are no table words, short forms of contracts and calls -/
/-- a boolean as the machine holds it -/
def cs_z (b : Bool) : Int32 := if b then 1 else 0
theorem cs_z_t : cs_z true = 1 := rfl
theorem cs_z_f : cs_z false = 0 := rfl
theorem cs_z_0 {b : Bool} : cs_z b = 0 ↔ b = false := by cases b <;> decide
theorem cs_z_1 {b : Bool} : cs_z b = 1 ↔ b = true := by cases b <;> decide
theorem cs_z_nar (b : Bool) : narrow .boolean (.int (cs_z b)) = .int (cs_z b) := by cases b <;> rfl
theorem cs_z_fit (b : Bool) : fits .boolean (.int (cs_z b)) = true := by cases b <;> rfl
theorem cs_z_vn (b : Bool) : vp_nar .boolean (cs_z b) = cs_z b := by cases b <;> rfl
theorem cs_tt {b : Bool} (h : ¬ b = false) : b = true := by cases b; exact absurd rfl h; rfl
theorem cs_ff {b : Bool} (h : ¬ b = true) : b = false := by cases b; rfl; exact absurd rfl h
section CSR
variable {p : Program} {l : Launch} {e : Env} {R : Room} {s : State} {m : MethodId} {args : Array Value} {below : List Frame} {meth : Method} {c : Code} {H : Heap} {locs : List Loc} {cells slots : Nat} {Q : State → Prop} {cc : ByteArray} {pc : Nat} {ls : Array Slot} {rest : List Value}
theorem cs_ifeq (hexec : p.tables.exec = Jvm.exec) (hb : c.code = cc) {x : Bool} {off : Int} {tgt : Nat} (hdg : decode cc pc = .ok (.ifCond .eq off, 3)) (ht : (pc : Int) + off = (tgt : Int))
    (kt : x = false → W p l e R s m args below meth c H locs cells slots Q (F0 m tgt ls rest)) (kf : x = true → W p l e R s m args below meth c H locs cells slots Q (F0 m (pc + 3) ls rest)) : W p l e R s m args below meth c H locs cells slots Q (F0 m pc ls (.int (cs_z x) :: rest)) :=
  lv_if_eq hexec hb hdg ht (fun h => kt (cs_z_0.mp h)) (fun h => kf (cs_tt (fun q => h (cs_z_0.mpr q))))
theorem cs_ifne (hexec : p.tables.exec = Jvm.exec) (hb : c.code = cc) {x : Bool} {off : Int} {tgt : Nat} (hdg : decode cc pc = .ok (.ifCond .ne off, 3)) (ht : (pc : Int) + off = (tgt : Int))
    (kt : x = true → W p l e R s m args below meth c H locs cells slots Q (F0 m tgt ls rest)) (kf : x = false → W p l e R s m args below meth c H locs cells slots Q (F0 m (pc + 3) ls rest)) : W p l e R s m args below meth c H locs cells slots Q (F0 m pc ls (.int (cs_z x) :: rest)) :=
  lv_if_ne hexec hb hdg ht (fun h => kt (cs_tt (fun q => h (cs_z_0.mpr q)))) (fun h => kf (cs_z_0.mp h))
/-- the same value under another name -/
theorem cs_top {x y : Int32} (h : x = y) (k : W p l e R s m args below meth c H locs cells slots Q (F0 m pc ls (.int y :: rest))) : W p l e R s m args below meth c H locs cells slots Q (F0 m pc ls (.int x :: rest)) := by subst h; exact k
theorem cs_topl {x y : Int64} (h : x = y) (k : W p l e R s m args below meth c H locs cells slots Q (F0 m pc ls (.long y :: rest))) : W p l e R s m args below meth c H locs cells slots Q (F0 m pc ls (.long x :: rest)) := by subst h; exact k
end CSR
/-! the facts of a launch that calls carry on: the nest call, the texts of the exceptions, the classes that a catch asks for -/
def cs_str (k : Nat) (tx : String) (U : State) : Prop := ∃ a : Nat, vk_R RX1 k tx a U
theorem cs_str.warm {k : Nat} {tx : String} {s U : State} (hW : s.WarmedH U.vm) (h : cs_str k tx s) : cs_str k tx U := by
  obtain ⟨a, h⟩ := h
  exact ⟨a, vk_R.warm hW h⟩
def cs_IAE : String := "java/lang/IllegalArgumentException"
def cs_ISE : String := "java/lang/IllegalStateException"
def cs_IOB : String := "java/lang/IndexOutOfBoundsException"
def cs_en (U : State) : Prop :=
  va_Nw (.methodLinkNest RX0 51 yX1_reversed RX1) U ∧ (va_Nw (.castable cs_IAE cs_IAE) U ∧ va_Nw (.castable cs_ISE cs_ISE) U ∧ va_Nw (.castable cs_IOB cs_IOB) U ∧ va_Nw (.declares (Bundle.initS "java/lang/RuntimeException")) U ∧ va_Nw (.declares (Bundle.initS "java/lang/Exception")) U ∧ va_Nw (.declares (Bundle.initS Bundle.tN)) U) ∧
  (∀ q ∈ [(30, "width is out of range"), (159, "not a number with w bits"), (41, "there are 6 models already"), (147, "no such model"), (68, "exponent is negative"), (75, "limit is out of range"), (149, "no such row"), (155, "not a byte"), (153, "the row would have more than 256 bytes"), (90, "count is out of range"), (151, "no such index"), (95, "length is out of range"), (103, "from or to is out of range"), (157, "a negative number of bytes"), (161, "not a Fletcher sum"), (163, "not an Adler sum"), (145, "window is less than 1")], cs_str q.1 q.2 U)
theorem cs_en.warm {s U : State} (hW : s.WarmedH U.vm) (h : cs_en s) : cs_en U :=
  ⟨va_Nw.warmM hW h.1, ⟨va_Nw.warmC hW h.2.1.1, va_Nw.warmC hW h.2.1.2.1, va_Nw.warmC hW h.2.1.2.2.1, va_Nw.warmD hW h.2.1.2.2.2.1, va_Nw.warmD hW h.2.1.2.2.2.2.1, va_Nw.warmD hW h.2.1.2.2.2.2.2⟩, fun q hq => (h.2.2 q hq).warm hW⟩
/-- a start without writing: the world, the classes, the launch's facts -/
def cs_B (D : va_G) (tys : List (ClassId × FieldType)) (ws : va_W) (U : State) : Prop := cs_en U ∧ va_P D vwCl ws U.heap ∧ va_K D vwCl tys U
theorem cs_B.blind {D : va_G} {tys : List (ClassId × FieldType)} {ws : va_W} {av : List Value} : FrameBlind (va_Pc av (cs_B D tys ws)) := fun a U g mk q =>
  ⟨q.1, cs_en.warm (s := U) (U := U.calling g mk a) (State.WarmedH.refl U) q.2.1, q.2.2.1, va_K.moved (u := U) (U := U.calling g mk a) (Vm.Alike.refl U.vm) q.2.2.2⟩
theorem cs_B.at {D : va_G} {tys : List (ClassId × FieldType)} {ws : va_W} {av : List Value} {s : State} {H : Heap} (hE : cs_en s) (hP : va_P D vwCl ws H) (hK : va_K D vwCl tys s) : ∀ U : State, U.heap = H → s.WarmedH U.vm → va_Pc av (cs_B D tys ws) av.toArray U := fun U hU hW =>
  ⟨rfl, hE.warm hW, by rw [hU]; exact hP, va_K.moved hW.alike hK⟩
/-- an int out of a heap that stays as it is -/
abbrev cs_Mi (l : Launch) (y : MethodName) (ws : List Cond) (rm : Room) (D : va_G) (tys : List (ClassId × FieldType)) (w : va_W) (av : List Value) (v : Int32) : Prop := Met l y ws rm (va_Pc av (cs_B D tys w)) (vp_Si (fun r => r = v)) 0 0 (fun _ => False)
abbrev cs_Ml (l : Launch) (y : MethodName) (ws : List Cond) (rm : Room) (D : va_G) (tys : List (ClassId × FieldType)) (w : va_W) (av : List Value) (v : Int64) : Prop := Met l y ws rm (va_Pc av (cs_B D tys w)) (vp_Sl (fun r => r = v)) 0 0 (fun _ => False)
theorem cs_one {D : va_G} {ws : va_W} {H : Heap} (hP : va_P D vwCl ws H) {k : Nat} {q : Nat × va_E} (h : ws[k]? = some q) : va_P D vwCl [q] H := fun j x hx => by
  have h0 : j < 1 := (List.getElem?_eq_some_iff.mp hx).1
  have h1 : j = 0 := by omega
  subst h1
  cases hx
  exact hP k q h
theorem cs_none {D : va_G} {H : Heap} : va_P D vwCl [] H := fun j x hx => by simp at hx
/-- the statics of Throwable -/
def cs_zz (A : Nat → Prop) (U : State) (H : Heap) : Prop := vx_Zq Bundle.tN "UNASSIGNED_STACK" Bundle.steD A U H ∧ vx_Zq Bundle.tN "SUPPRESSED_SENTINEL" Bundle.listD A U H
theorem cs_zz.moved {A : Nat → Prop} {u U : State} {H : Heap} (hvm : u.vm.Alike U.vm) (h : cs_zz A u H) : cs_zz A U H := ⟨h.1.moved hvm, h.2.moved hvm⟩
theorem cs_zz.kept {A : Nat → Prop} {U : State} {H H1 : Heap} (h : cs_zz A U H) (hq : ∀ a : Nat, a < H.size → ¬ A a → H1[a]? = H[a]?) : cs_zz A U H1 := ⟨h.1.kept hq, h.2.kept hq⟩
theorem cs_zz.narrow {A B : Nat → Prop} {U : State} {H : Heap} (h : cs_zz A U H) (hAB : ∀ q, B q → A q) : cs_zz B U H := ⟨h.1.narrow hAB, h.2.narrow hAB⟩
theorem cs_at1 : (vx_atS RX1 32 cs_IAE ["java/lang/RuntimeException", "java/lang/Exception"]).filter (fun w => !goodWord w) = [.declares (Bundle.initS "java/lang/RuntimeException"), .declares (Bundle.initS "java/lang/Exception"), .declares (Bundle.initS Bundle.tN), .castable cs_IAE cs_IAE] := by decide +kernel
theorem cs_at2 : (vx_atS RX1 43 cs_ISE ["java/lang/RuntimeException", "java/lang/Exception"]).filter (fun w => !goodWord w) = [.declares (Bundle.initS "java/lang/RuntimeException"), .declares (Bundle.initS "java/lang/Exception"), .declares (Bundle.initS Bundle.tN), .castable cs_ISE cs_ISE] := by decide +kernel
theorem cs_at3 : (vx_atS RX1 105 cs_IOB ["java/lang/RuntimeException", "java/lang/Exception"]).filter (fun w => !goodWord w) = [.declares (Bundle.initS "java/lang/RuntimeException"), .declares (Bundle.initS "java/lang/Exception"), .declares (Bundle.initS Bundle.tN), .castable cs_IOB cs_IOB] := by decide +kernel
/-! calls: a callee that writes nothing and may throw; a callee that writes within its world -/
def cs_XC (bad : String → Prop) : String → State → State → Prop := fun E st t => bad E ∧ st.heap.size ≤ t.heap.size ∧ ∀ q : Nat, q < st.heap.size → t.heap[q]? = st.heap[q]?
def cs_Sv (ok : Prop) : Array Value → State → Outcome → State → Prop := fun _ st o t => o = .returned none ∧ ok ∧ t.heap = st.heap
def cs_Sr (r : Nat) (ok : Prop) : Array Value → State → Outcome → State → Prop := fun _ st o t => o = .returned (some (.ref r)) ∧ ok ∧ t.heap = st.heap
def cs_Wd {S : Type} (D : va_G) (w : va_W) (w' : S → va_W) (u : S) (st t : State) : Prop := va_P D vwCl (w' u) t.heap ∧ va_D (va_A w st.heap.size) (w' u) ∧ va_F (va_A w st.heap.size) st t
def cs_Qw {S : Type} (D : va_G) (w : va_W) (w' : S → va_W) (post : Int32 → S → Prop) : Array Value → State → Outcome → State → Prop := fun _ st o t => ∃ (r : Int32) (u : S), o = .returned (some (.int r)) ∧ post r u ∧ cs_Wd D w w' u st t
def cs_Qv {S : Type} (D : va_G) (w : va_W) (w' : S → va_W) (post : S → Prop) : Array Value → State → Outcome → State → Prop := fun _ st o t => ∃ u : S, o = .returned none ∧ post u ∧ cs_Wd D w w' u st t
section CSC
variable {p : Program} {l : Launch} {e : Env} {R : Room} {s : State} {m : MethodId} {args : Array Value} {below : List Frame} {meth : Method} {c : Code} {H : Heap} {locs : List Loc} {cells slots : Nat} {Q : State → Prop}
variable {pc : Nat} {ls : Array Slot} {rest st0 : List Value} {a : Array Value} {A0 : Nat → Prop} {H0 : Heap} {mc ms : Nat}
theorem cs_xcalli {post : Int32 → Prop} {bad : String → Prop} (hr : vx_Run p l e R s m args below meth c H locs cells slots mc ms (F0 m pc ls st0) rest (vp_Si post a) (cs_XC bad) (fun _ => False))
    (kx : ∀ (E : String) (ce : Cell) (q9 : Addr) (H1 : Heap), bad E → H.size ≤ H1.size → (∀ q : Nat, q < H.size → H1[q]? = H[q]?) → H1[q9]? = some ce → ce.vm = .none → s.vm.findClass E = some ce.cls → vx_W p l e R s m args below meth c H1 locs (cells + mc) (slots + ms) Q (F0 m pc ls rest) q9)
    (kk : ∀ r : Int32, post r → W p l e R s m args below meth c H locs (cells + mc) (slots + ms) Q (F0 m (pc + 3) ls (.int r :: rest))) : W p l e R s m args below meth c H locs cells slots Q (F0 m pc ls st0) := by
  intro T hT X
  rcases hr T hT X with ⟨v, st₀, t, T', L, h0, X', hL, e1, e2, ⟨r, hv, hp, hh⟩, st⟩ | ⟨q, st₀, t, T', L, E, ce, h0, X', hL, e1, e2, ⟨hbad, hz, hk⟩, hce, hcv, hcl, st⟩
  · cases hv
    have hL0 : L = [] := List.eq_nil_iff_forall_not_mem.mpr (fun q h => hL q h)
    subst hL0
    rw [List.append_nil] at X'
    obtain ⟨t2, a1, b1⟩ := kk r hp T' (by rw [e1, hh, h0]) X'
    exact ⟨t2, st t2 a1, b1⟩
  · have hL0 : L = [] := List.eq_nil_iff_forall_not_mem.mpr (fun q h => hL q h)
    subst hL0
    rw [List.append_nil] at X'
    rw [h0] at hz hk
    obtain ⟨t2, a1, b1⟩ := kx E ce q T'.heap hbad (by rw [e1]; exact hz) (fun x hx => by rw [e1]; exact hk x hx) (by rw [e1]; exact hce) hcv hcl T' rfl X'
    exact ⟨t2, st.trans a1, b1⟩
theorem cs_xcallv {ok : Prop} {bad : String → Prop} (hr : vx_Run p l e R s m args below meth c H locs cells slots mc ms (F0 m pc ls st0) rest (cs_Sv ok a) (cs_XC bad) (fun _ => False))
    (kx : ∀ (E : String) (ce : Cell) (q9 : Addr) (H1 : Heap), bad E → H.size ≤ H1.size → (∀ q : Nat, q < H.size → H1[q]? = H[q]?) → H1[q9]? = some ce → ce.vm = .none → s.vm.findClass E = some ce.cls → vx_W p l e R s m args below meth c H1 locs (cells + mc) (slots + ms) Q (F0 m pc ls rest) q9)
    (kk : ok → W p l e R s m args below meth c H locs (cells + mc) (slots + ms) Q (F0 m (pc + 3) ls rest)) : W p l e R s m args below meth c H locs cells slots Q (F0 m pc ls st0) := by
  intro T hT X
  rcases hr T hT X with ⟨v, st₀, t, T', L, h0, X', hL, e1, e2, ⟨hv, hp, hh⟩, st⟩ | ⟨q, st₀, t, T', L, E, ce, h0, X', hL, e1, e2, ⟨hbad, hz, hk⟩, hce, hcv, hcl, st⟩
  · cases hv
    have hL0 : L = [] := List.eq_nil_iff_forall_not_mem.mpr (fun q h => hL q h)
    subst hL0
    rw [List.append_nil] at X'
    obtain ⟨t2, a1, b1⟩ := kk hp T' (by rw [e1, hh, h0]) X'
    exact ⟨t2, st t2 a1, b1⟩
  · have hL0 : L = [] := List.eq_nil_iff_forall_not_mem.mpr (fun q h => hL q h)
    subst hL0
    rw [List.append_nil] at X'
    rw [h0] at hz hk
    obtain ⟨t2, a1, b1⟩ := kx E ce q T'.heap hbad (by rw [e1]; exact hz) (fun x hx => by rw [e1]; exact hk x hx) (by rw [e1]; exact hce) hcv hcl T' rfl X'
    exact ⟨t2, st.trans a1, b1⟩
theorem cs_xcallr {b : Nat} {ok : Prop} {bad : String → Prop} (hr : vx_Run p l e R s m args below meth c H locs cells slots mc ms (F0 m pc ls st0) rest (cs_Sr b ok a) (cs_XC bad) (fun _ => False))
    (kx : ∀ (E : String) (ce : Cell) (q9 : Addr) (H1 : Heap), bad E → H.size ≤ H1.size → (∀ q : Nat, q < H.size → H1[q]? = H[q]?) → H1[q9]? = some ce → ce.vm = .none → s.vm.findClass E = some ce.cls → vx_W p l e R s m args below meth c H1 locs (cells + mc) (slots + ms) Q (F0 m pc ls rest) q9)
    (kk : ok → W p l e R s m args below meth c H locs (cells + mc) (slots + ms) Q (F0 m (pc + 3) ls (.ref b :: rest))) : W p l e R s m args below meth c H locs cells slots Q (F0 m pc ls st0) := by
  intro T hT X
  rcases hr T hT X with ⟨v, st₀, t, T', L, h0, X', hL, e1, e2, ⟨hv, hp, hh⟩, st⟩ | ⟨q, st₀, t, T', L, E, ce, h0, X', hL, e1, e2, ⟨hbad, hz, hk⟩, hce, hcv, hcl, st⟩
  · cases hv
    have hL0 : L = [] := List.eq_nil_iff_forall_not_mem.mpr (fun q h => hL q h)
    subst hL0
    rw [List.append_nil] at X'
    obtain ⟨t2, a1, b1⟩ := kk hp T' (by rw [e1, hh, h0]) X'
    exact ⟨t2, st t2 a1, b1⟩
  · have hL0 : L = [] := List.eq_nil_iff_forall_not_mem.mpr (fun q h => hL q h)
    subst hL0
    rw [List.append_nil] at X'
    rw [h0] at hz hk
    obtain ⟨t2, a1, b1⟩ := kx E ce q T'.heap hbad (by rw [e1]; exact hz) (fun x hx => by rw [e1]; exact hk x hx) (by rw [e1]; exact hce) hcv hcl T' rfl X'
    exact ⟨t2, st.trans a1, b1⟩
/-- a callee that writes within its world w -/
theorem cs_wcalli {S : Type} {D : va_G} {w : va_W} {w' : S → va_W} {post : Int32 → S → Prop} (hr : va_Run p l e R s m args below meth c H locs cells slots mc ms (F0 m pc ls st0) rest (cs_Qw D w w' post a) (va_A w H.size)) (hS : va_S A0 H0 H locs) (hF : ∀ q, va_A w H.size q → A0 q)
    (kk : ∀ (r : Int32) (u : S) (H1 : Heap) (locs1 : List Loc), post r u → va_P D vwCl (w' u) H1 → va_D (va_A w H.size) (w' u) → H.size ≤ H1.size → (∀ q : Nat, q < H.size → ¬ va_A w H.size q → H1[q]? = H[q]?) → va_S A0 H0 H1 locs1 → W p l e R s m args below meth c H1 locs1 (cells + mc) (slots + ms) Q (F0 m (pc + 3) ls (.int r :: rest))) : W p l e R s m args below meth c H locs cells slots Q (F0 m pc ls st0) := by
  intro T hT X
  obtain ⟨v, st₀, t, T', L, h0, X', hL, e1, e2, ⟨r, u, hv, hp, hP, hD, hFr⟩, st⟩ := hr T hT X
  cases hv
  rw [h0] at hD hFr
  obtain ⟨k1, k2, k3⟩ := vx_keep h0 e1 hS (fun q _ h => hF q h) (fun q h => hF q h) hL hFr
  obtain ⟨t2, a1, b1⟩ := kk r u T'.heap (locs ++ L) hp (by rw [e1]; exact hP) hD k1 k2 k3 T' rfl X'
  exact ⟨t2, st t2 a1, b1⟩
theorem cs_wcallv {S : Type} {D : va_G} {w : va_W} {w' : S → va_W} {post : S → Prop} (hr : va_Run p l e R s m args below meth c H locs cells slots mc ms (F0 m pc ls st0) rest (cs_Qv D w w' post a) (va_A w H.size)) (hS : va_S A0 H0 H locs) (hF : ∀ q, va_A w H.size q → A0 q)
    (kk : ∀ (u : S) (H1 : Heap) (locs1 : List Loc), post u → va_P D vwCl (w' u) H1 → va_D (va_A w H.size) (w' u) → H.size ≤ H1.size → (∀ q : Nat, q < H.size → ¬ va_A w H.size q → H1[q]? = H[q]?) → va_S A0 H0 H1 locs1 → W p l e R s m args below meth c H1 locs1 (cells + mc) (slots + ms) Q (F0 m (pc + 3) ls rest)) : W p l e R s m args below meth c H locs cells slots Q (F0 m pc ls st0) := by
  intro T hT X
  obtain ⟨v, st₀, t, T', L, h0, X', hL, e1, e2, ⟨u, hv, hp, hP, hD, hFr⟩, st⟩ := hr T hT X
  cases hv
  rw [h0] at hD hFr
  obtain ⟨k1, k2, k3⟩ := vx_keep h0 e1 hS (fun q _ h => hF q h) (fun q h => hF q h) hL hFr
  obtain ⟨t2, a1, b1⟩ := kk u T'.heap (locs ++ L) hp (by rw [e1]; exact hP) hD k1 k2 k3 T' rfl X'
  exact ⟨t2, st t2 a1, b1⟩
/-- .. and may throw, nothing written then -/
theorem cs_wxcalli {S : Type} {D : va_G} {w : va_W} {w' : S → va_W} {post : Int32 → S → Prop} {bad : String → Prop} (hr : vx_Run p l e R s m args below meth c H locs cells slots mc ms (F0 m pc ls st0) rest (cs_Qw D w w' post a) (cs_XC bad) (va_A w H.size)) (hS : va_S A0 H0 H locs) (hF : ∀ q, va_A w H.size q → A0 q)
    (kx : ∀ (E : String) (ce : Cell) (q9 : Addr) (H1 : Heap) (locs1 : List Loc), bad E → H.size ≤ H1.size → (∀ q : Nat, q < H.size → H1[q]? = H[q]?) → va_S A0 H0 H1 locs1 → H1[q9]? = some ce → ce.vm = .none → s.vm.findClass E = some ce.cls → vx_W p l e R s m args below meth c H1 locs1 (cells + mc) (slots + ms) Q (F0 m pc ls rest) q9)
    (kk : ∀ (r : Int32) (u : S) (H1 : Heap) (locs1 : List Loc), post r u → va_P D vwCl (w' u) H1 → va_D (va_A w H.size) (w' u) → H.size ≤ H1.size → (∀ q : Nat, q < H.size → ¬ va_A w H.size q → H1[q]? = H[q]?) → va_S A0 H0 H1 locs1 → W p l e R s m args below meth c H1 locs1 (cells + mc) (slots + ms) Q (F0 m (pc + 3) ls (.int r :: rest))) : W p l e R s m args below meth c H locs cells slots Q (F0 m pc ls st0) := by
  intro T hT X
  rcases hr T hT X with ⟨v, st₀, t, T', L, h0, X', hL, e1, e2, ⟨r, u, hv, hp, hP, hD, hFr⟩, st⟩ | ⟨q, st₀, t, T', L, E, ce, h0, X', hL, e1, e2, ⟨hbad, hz, hk⟩, hce, hcv, hcl, st⟩
  · cases hv
    rw [h0] at hD hFr
    obtain ⟨k1, k2, k3⟩ := vx_keep h0 e1 hS (fun q _ h => hF q h) (fun q h => hF q h) hL hFr
    obtain ⟨t2, a1, b1⟩ := kk r u T'.heap (locs ++ L) hp (by rw [e1]; exact hP) hD k1 k2 k3 T' rfl X'
    exact ⟨t2, st t2 a1, b1⟩
  · have hFr : va_F (fun _ => False) st₀ t := ⟨hz, fun q hq _ => hk q hq⟩
    obtain ⟨k1, k2, k3⟩ := vx_keep h0 e1 hS (fun q _ h => h.elim) (fun q h => hF q h) hL hFr
    obtain ⟨t2, a1, b1⟩ := kx E ce q T'.heap (locs ++ L) hbad k1 (fun x hx => k2 x hx (fun z => z)) k3 (by rw [e1]; exact hce) hcv hcl T' rfl X'
    exact ⟨t2, st.trans a1, b1⟩
/-- a thrown exception leaves a method that has written nothing -/
theorem cs_xout {Qc : Array Value → State → Outcome → State → Prop} {bad bad' : String → Prop} {mc' ms' : Nat} {free : Addr → Prop} (hout : ∀ x ∈ c.exceptionTable.toList, False) (hlocks : meth.locks = false) (hbb : ∀ E, bad E → bad' E) (hc : cells ≤ mc') (hs : slots ≤ ms') (E : String) (ce : Cell) (q9 : Addr) (H1 : Heap) (h1 : bad E) (h2 : s.heap.size ≤ H1.size) (h3 : ∀ q : Nat, q < s.heap.size → H1[q]? = s.heap[q]?) (h4 : H1[q9]? = some ce) (h5 : ce.vm = .none) (h6 : s.vm.findClass E = some ce.cls) : vx_W p l e R s m args below meth c H1 [] cells slots (vx_MQ below Qc (cs_XC bad') args s mc' ms' free) (F0 m pc ls rest) q9 :=
  vx_out (fun x hx => (hout x hx).elim) hlocks h4 h5 h6 (fun t ht _ => ⟨hbb E h1, by rw [ht]; exact h2, fun q hq => by rw [ht]; exact h3 q hq⟩) (fun z hz => by cases hz) hc hs
end CSC
/-- the throw of an exception of the class ChecksumLab, nothing written yet -/
theorem cs_throw {p : Program} {l : Launch} {e : Env} {R : Room} {s : State} {m : MethodId} {args : Array Value} {below : List Frame} {meth : Method} {c : Code} {cells slots : Nat} {pc : Nat} {ls : Array Slot} {rest : List Value} {Qc : Array Value → State → Outcome → State → Prop} {bad : String → Prop} {mc ms : Nat} {free : Addr → Prop} {cc : ByteArray} {Ts : List Cond} {cls text : String} {ik is ic : Nat}
    (hexec : p.tables.exec = Jvm.exec) (hb : c.code = cc) (hlf : l.stackTraces = false) (hown : s.vm.findClass RX1 = some m.cls) (hts : ∀ w ∈ Ts, w.before args s = true) (hcls : Bundle.fit cls = true)
    (hng : (vx_atS RX1 ic cls ["java/lang/RuntimeException", "java/lang/Exception"]).filter (fun w => !goodWord w) = [.declares (Bundle.initS "java/lang/RuntimeException"), .declares (Bundle.initS "java/lang/Exception"), .declares (Bundle.initS Bundle.tN), .castable cls cls]) (hE : cs_en s) (hcast : va_Nw (.castable cls cls) s) (hot : (vx_atS RX1 ic cls ["java/lang/RuntimeException", "java/lang/Exception"]).all vx_ot = true)
    (hin : ∀ w ∈ (vx_atS RX1 ic cls ["java/lang/RuntimeException", "java/lang/Exception"]).filter goodWord, w ∈ Ts) (hk : Cond.classLink RX1 ik cls ∈ Ts) (hini : Cond.initialized cls ∈ Ts) (hstr : cs_str is text s) (hz : cs_zz (fun q => s.heap.size ≤ q) s s.heap) (hsize : ls.size = c.maxLocals)
    (d0 : decode cc pc = .ok (.new ik, 3)) (d3 : decode cc (pc + 3) = .ok (.dup, 1)) (d4 : decode cc (pc + 4) = .ok (.ldc is, 2)) (d6 : decode cc (pc + 6) = .ok (.invokespecial ic, 3)) (d9 : decode cc (pc + 9) = .ok (.athrow, 1))
    (hout : ∀ x ∈ c.exceptionTable.toList, False) (hRf : 5 < R.frames) (hRl : (rest.map fun v => v.category).sum + 82 ≤ R.locals) (hRc : cells + 1 ≤ R.cells) (hRs : slots + 6 ≤ R.slots) (hlocks : meth.locks = false) (hbad : bad cls) (hc : cells + 1 ≤ mc) (hs : slots + 6 ≤ ms) :
    W p l e R s m args below meth c s.heap [] cells slots (vx_MQ below Qc (cs_XC bad) args s mc ms free) (F0 m pc ls rest) := by
  obtain ⟨sa, hsa⟩ := hstr
  have hat : ∀ w ∈ vx_atS RX1 ic cls ["java/lang/RuntimeException", "java/lang/Exception"], w.before args s = true := vx_hat (B := [.declares (Bundle.initS "java/lang/RuntimeException"), .declares (Bundle.initS "java/lang/Exception"), .declares (Bundle.initS Bundle.tN), .castable cls cls]) (fun w hw => hts w (hin w hw)) (fun w hw => by rw [hng] at hw; exact hw) (vx_c (va_Nw.use rfl hE.2.1.2.2.2.1) (vx_c (va_Nw.use rfl hE.2.1.2.2.2.2.1) (vx_c (va_Nw.use rfl hE.2.1.2.2.2.2.2) (vx_c (va_Nw.use rfl hcast) vx_n))))
  refine vx_throwS (names := ["java/lang/RuntimeException", "java/lang/Exception"]) (A := fun q => s.heap.size ≤ q) hexec hb hlf hown hcls (by decide +kernel) (hts _ hk) (hts _ hini) hsa hat ?_ hz.1 hz.2 va_S.rf hsize d0 d3 d4 d6 d9 (fun x hx => (hout x hx).elim) hRf hRl hRc hRs hlocks (fun t _ h1 h2 => ⟨hbad, h1, h2⟩) (fun z hz => by cases hz) hc hs
  intro w hw
  rcases List.mem_cons.mp hw with h | h
  · rw [h]; rfl
  · rcases List.mem_cons.mp h with h | h
    · rw [h]; rfl
    · exact List.all_eq_true.mp hot w h
theorem cs_ot1 : (vx_atS RX1 32 cs_IAE ["java/lang/RuntimeException", "java/lang/Exception"]).all vx_ot = true := by decide +kernel
theorem cs_ot2 : (vx_atS RX1 43 cs_ISE ["java/lang/RuntimeException", "java/lang/Exception"]).all vx_ot = true := by decide +kernel
theorem cs_ot3 : (vx_atS RX1 105 cs_IOB ["java/lang/RuntimeException", "java/lang/Exception"]).all vx_ot = true := by decide +kernel
/-! starts and contracts of methods that write, or throw -/
def cs_Bw (D : va_G) (tys : List (ClassId × FieldType)) (ws : va_W) (sz : Nat) (U : State) : Prop := U.heap.size = sz ∧ cs_en U ∧ va_P D vwCl ws U.heap ∧ va_K D vwCl tys U ∧ va_D (fun _ => True) ws
theorem cs_Bw.blind {D : va_G} {tys : List (ClassId × FieldType)} {ws : va_W} {sz : Nat} {av : List Value} : FrameBlind (va_Pc av (cs_Bw D tys ws sz)) := fun a U g mk q =>
  ⟨q.1, q.2.1, cs_en.warm (s := U) (U := U.calling g mk a) (State.WarmedH.refl U) q.2.2.1, q.2.2.2.1, va_K.moved (u := U) (U := U.calling g mk a) (Vm.Alike.refl U.vm) q.2.2.2.2.1, q.2.2.2.2.2⟩
theorem cs_Bw.at {D : va_G} {tys : List (ClassId × FieldType)} {ws : va_W} {av : List Value} {s : State} {H : Heap} {A : Nat → Prop} (hE : cs_en s) (hP : va_P D vwCl ws H) (hK : va_K D vwCl tys s) (hD : va_D A ws) : ∀ U : State, U.heap = H → s.WarmedH U.vm → va_Pc av (cs_Bw D tys ws H.size) av.toArray U := fun U hU hW =>
  ⟨rfl, by rw [hU], hE.warm hW, by rw [hU]; exact hP, va_K.moved hW.alike hK, hD.weaken (fun _ _ _ _ => trivial)⟩
abbrev cs_Mw {S : Type} (l : Launch) (y : MethodName) (ws : List Cond) (rm : Room) (D : va_G) (tys : List (ClassId × FieldType)) (w : va_W) (sz : Nat) (av : List Value) (w' : S → va_W) (post : Int32 → S → Prop) : Prop := Met l y ws rm (va_Pc av (cs_Bw D tys w sz)) (cs_Qw D w w' post) 0 0 (va_A w sz)
abbrev cs_Mv {S : Type} (l : Launch) (y : MethodName) (ws : List Cond) (rm : Room) (D : va_G) (tys : List (ClassId × FieldType)) (w : va_W) (sz : Nat) (av : List Value) (w' : S → va_W) (post : S → Prop) : Prop := Met l y ws rm (va_Pc av (cs_Bw D tys w sz)) (cs_Qv D w w' post) 0 0 (va_A w sz)
/-- with the statics of Throwable: of a method that may throw and writes nothing -/
def cs_Bx (D : va_G) (tys : List (ClassId × FieldType)) (ws : va_W) (U : State) : Prop := cs_en U ∧ cs_zz (fun q => U.heap.size ≤ q) U U.heap ∧ va_P D vwCl ws U.heap ∧ va_K D vwCl tys U
theorem cs_Bx.blind {D : va_G} {tys : List (ClassId × FieldType)} {ws : va_W} {av : List Value} : FrameBlind (va_Pc av (cs_Bx D tys ws)) := fun a U g mk q =>
  ⟨q.1, cs_en.warm (s := U) (U := U.calling g mk a) (State.WarmedH.refl U) q.2.1, cs_zz.moved (u := U) (U := U.calling g mk a) (Vm.Alike.refl U.vm) q.2.2.1, q.2.2.2.1, va_K.moved (u := U) (U := U.calling g mk a) (Vm.Alike.refl U.vm) q.2.2.2.2⟩
theorem cs_Bx.at {D : va_G} {tys : List (ClassId × FieldType)} {ws : va_W} {av : List Value} {s : State} {H : Heap} (hE : cs_en s) (hz : cs_zz (fun q => H.size ≤ q) s H) (hP : va_P D vwCl ws H) (hK : va_K D vwCl tys s) : ∀ U : State, U.heap = H → s.WarmedH U.vm → va_Pc av (cs_Bx D tys ws) av.toArray U := fun U hU hW =>
  ⟨rfl, hE.warm hW, by rw [hU]; exact hz.moved hW.alike, by rw [hU]; exact hP, va_K.moved hW.alike hK⟩
/-- .. and of one that may throw, and writes -/
def cs_By (D : va_G) (tys : List (ClassId × FieldType)) (ws : va_W) (sz : Nat) (U : State) : Prop := U.heap.size = sz ∧ cs_en U ∧ cs_zz (va_A ws sz) U U.heap ∧ va_P D vwCl ws U.heap ∧ va_K D vwCl tys U ∧ va_D (fun _ => True) ws
theorem cs_By.blind {D : va_G} {tys : List (ClassId × FieldType)} {ws : va_W} {sz : Nat} {av : List Value} : FrameBlind (va_Pc av (cs_By D tys ws sz)) := fun a U g mk q =>
  ⟨q.1, q.2.1, cs_en.warm (s := U) (U := U.calling g mk a) (State.WarmedH.refl U) q.2.2.1, cs_zz.moved (u := U) (U := U.calling g mk a) (Vm.Alike.refl U.vm) q.2.2.2.1, q.2.2.2.2.1, va_K.moved (u := U) (U := U.calling g mk a) (Vm.Alike.refl U.vm) q.2.2.2.2.2.1, q.2.2.2.2.2.2⟩
theorem cs_By.at {D : va_G} {tys : List (ClassId × FieldType)} {ws : va_W} {av : List Value} {s : State} {H : Heap} {A : Nat → Prop} (hE : cs_en s) (hz : cs_zz (va_A ws H.size) s H) (hP : va_P D vwCl ws H) (hK : va_K D vwCl tys s) (hD : va_D A ws) : ∀ U : State, U.heap = H → s.WarmedH U.vm → va_Pc av (cs_By D tys ws H.size) av.toArray U := fun U hU hW =>
  ⟨rfl, by rw [hU], hE.warm hW, by rw [hU]; exact hz.moved hW.alike, by rw [hU]; exact hP, va_K.moved hW.alike hK, hD.weaken (fun _ _ _ _ => trivial)⟩
abbrev cs_Xi (l : Launch) (y : MethodName) (ws : List Cond) (rm : Room) (D : va_G) (tys : List (ClassId × FieldType)) (w : va_W) (av : List Value) (post : Int32 → Prop) (bad : String → Prop) (mc ms : Nat) : Prop := vx_Met l y ws rm (va_Pc av (cs_Bx D tys w)) (vp_Si post) (cs_XC bad) mc ms (fun _ => False)
abbrev cs_Xv (l : Launch) (y : MethodName) (ws : List Cond) (rm : Room) (D : va_G) (tys : List (ClassId × FieldType)) (w : va_W) (av : List Value) (ok : Prop) (bad : String → Prop) (mc ms : Nat) : Prop := vx_Met l y ws rm (va_Pc av (cs_Bx D tys w)) (cs_Sv ok) (cs_XC bad) mc ms (fun _ => False)
abbrev cs_Xr (l : Launch) (y : MethodName) (ws : List Cond) (rm : Room) (D : va_G) (tys : List (ClassId × FieldType)) (w : va_W) (av : List Value) (r : Nat) (ok : Prop) (bad : String → Prop) (mc ms : Nat) : Prop := vx_Met l y ws rm (va_Pc av (cs_Bx D tys w)) (cs_Sr r ok) (cs_XC bad) mc ms (fun _ => False)
abbrev cs_Xw {S : Type} (l : Launch) (y : MethodName) (ws : List Cond) (rm : Room) (D : va_G) (tys : List (ClassId × FieldType)) (w : va_W) (sz : Nat) (av : List Value) (w' : S → va_W) (post : Int32 → S → Prop) (bad : String → Prop) (mc ms : Nat) : Prop := vx_Met l y ws rm (va_Pc av (cs_By D tys w sz)) (cs_Qw D w w' post) (cs_XC bad) mc ms (va_A w sz)
/-! array rows at an index that is a number -/
section CSA
variable {p : Program} {l : Launch} {e : Env} {R : Room} {s : State} {m : MethodId} {args : Array Value} {below : List Frame} {meth : Method} {c : Code} {H : Heap} {locs : List Loc} {cells slots : Nat} {Q : State → Prop}
variable {cc : ByteArray} {pc : Nat} {ls : Array Slot} {rest : List Value} {D : va_G} {cl : List vw_C} {A : Nat → Prop} {a : Nat} {tys : List (ClassId × FieldType)} {ws : va_W} {H0 : Heap}
theorem cs_iald (hexec : p.tables.exec = Jvm.exec) (hb : c.code = cc) (hK : va_K D cl tys s) (hP : va_P D cl ws H) (q0 t0 : Nat) {cA : ClassId} {n k : Nat} {f : Nat → Int32} (ha : ws[q0]? = some (a, .inl (cA, n, .inl f))) (ht : tys[t0]? = some (cA, .int)) (hk : k < n) (hn : n ≤ 1024) (hdg : decode cc pc = .ok (.iaload, 1))
    (kk : W p l e R s m args below meth c H locs cells slots Q (F0 m (pc + 1) ls (.int (f k) :: rest))) : W p l e R s m args below meth c H locs cells slots Q (F0 m pc ls (.int (nI k) :: .ref a :: rest)) :=
  va_iald hexec hb hK hP q0 t0 ha ht (vp_in_nI hk (by omega)) hdg (by rw [nI_clamp (by omega)]; exact kk)
theorem cs_zald (hexec : p.tables.exec = Jvm.exec) (hb : c.code = cc) (hK : va_K D cl tys s) (hP : va_P D cl ws H) (q0 t0 : Nat) {cA : ClassId} {n k : Nat} {f : Nat → Int32} (ha : ws[q0]? = some (a, .inl (cA, n, .inl f))) (ht : tys[t0]? = some (cA, .boolean)) (hk : k < n) (hn : n ≤ 1024) (hdg : decode cc pc = .ok (.baload, 1))
    (kk : W p l e R s m args below meth c H locs cells slots Q (F0 m (pc + 1) ls (.int (f k) :: rest))) : W p l e R s m args below meth c H locs cells slots Q (F0 m pc ls (.int (nI k) :: .ref a :: rest)) :=
  va_zald hexec hb hK hP q0 t0 ha ht (vp_in_nI hk (by omega)) hdg (by rw [nI_clamp (by omega)]; exact kk)
theorem cs_lald (hexec : p.tables.exec = Jvm.exec) (hb : c.code = cc) (hK : va_K D cl tys s) (hP : va_P D cl ws H) (q0 t0 : Nat) {cA : ClassId} {n k : Nat} {f : Nat → Int64} (ha : ws[q0]? = some (a, .inl (cA, n, .inr (.inl f)))) (ht : tys[t0]? = some (cA, .long)) (hk : k < n) (hn : n ≤ 1024) (hdg : decode cc pc = .ok (.laload, 1))
    (kk : W p l e R s m args below meth c H locs cells slots Q (F0 m (pc + 1) ls (.long (f k) :: rest))) : W p l e R s m args below meth c H locs cells slots Q (F0 m pc ls (.int (nI k) :: .ref a :: rest)) :=
  va_lald hexec hb hK hP q0 t0 ha ht (vp_in_nI hk (by omega)) hdg (by rw [nI_clamp (by omega)]; exact kk)
theorem cs_aldq (hexec : p.tables.exec = Jvm.exec) (hb : c.code = cc) (hK : va_K D cl tys s) (hP : va_P D cl ws H) (q0 t0 : Nat) {cA : ClassId} {C : String} {n k : Nat} {f : Nat → Option Nat} (ha : ws[q0]? = some (a, .inl (cA, n, .inr (.inr (.inr (.inr f)))))) (ht : tys[t0]? = some (cA, .object C)) (hk : k < n) (hn : n ≤ 1024) (hdg : decode cc pc = .ok (.aaload, 1))
    (kk : W p l e R s m args below meth c H locs cells slots Q (F0 m (pc + 1) ls (va_rf (f k) :: rest))) : W p l e R s m args below meth c H locs cells slots Q (F0 m pc ls (.int (nI k) :: .ref a :: rest)) :=
  va_aldq hexec hb hK hP q0 t0 ha ht (vp_in_nI hk (by omega)) hdg (by rw [nI_clamp (by omega)]; exact kk)
theorem cs_aldA (hexec : p.tables.exec = Jvm.exec) (hb : c.code = cc) (hK : va_K D cl tys s) (hP : va_P D cl ws H) (q0 t0 : Nat) {cA : ClassId} {t : FieldType} {n k : Nat} {f : Nat → Option Nat} (ha : ws[q0]? = some (a, .inl (cA, n, .inr (.inr (.inr (.inr f)))))) (ht : tys[t0]? = some (cA, .array t)) (hk : k < n) (hn : n ≤ 1024) (hdg : decode cc pc = .ok (.aaload, 1))
    (kk : W p l e R s m args below meth c H locs cells slots Q (F0 m (pc + 1) ls (va_rf (f k) :: rest))) : W p l e R s m args below meth c H locs cells slots Q (F0 m pc ls (.int (nI k) :: .ref a :: rest)) := by
  have hc : (nI k).toNatClampNeg = k := nI_clamp (by omega)
  have hin : vp_in (nI k) n := vp_in_nI hk (by omega)
  exact W.aald (v := va_rf (f k)) (ty := .array t) hexec hb (hP q0 _ ha) ((hK.2 t0 _ ht).1 n (fun j => va_rf (f j))) rfl (fun q => by cases q) (by show ¬ (nI k < 0 ∨ (arrV _ _ _).slots.size ≤ _); rw [arrV_size]; exact hin) (by show (arrV _ _ _).slots[_]? = _; rw [hc, arrV_read _ _ hk]) rfl rfl hdg kk
theorem cs_iast (hexec : p.tables.exec = Jvm.exec) (hb : c.code = cc) (hK : va_K D cl tys s) (hP : va_P D cl ws H) (hD : va_D A ws) (hS : va_S A H0 H locs) (q0 t0 : Nat) {cA : ClassId} {n k : Nat} {f : Nat → Int32} (ha : ws[q0]? = some (a, .inl (cA, n, .inl f))) (ht : tys[t0]? = some (cA, .int)) {x : Int32} (hk : k < n) (hn : n ≤ 1024) (hdg : decode cc pc = .ok (.iastore, 1))
    (kk : ∀ (H1 : Heap) (locs1 : List Loc), va_P D cl (ws.set q0 (a, .inl (cA, n, .inl (upd f k x)))) H1 → va_D A (ws.set q0 (a, .inl (cA, n, .inl (upd f k x)))) → va_S A H0 H1 locs1 → W p l e R s m args below meth c H1 locs1 cells slots Q (F0 m (pc + 1) ls rest)) : W p l e R s m args below meth c H locs cells slots Q (F0 m pc ls (.int x :: .int (nI k) :: .ref a :: rest)) :=
  va_iast hexec hb hK hP hD hS q0 t0 ha ht (vp_in_nI hk (by omega)) hdg (by rw [nI_clamp (by omega)]; exact kk)
theorem cs_zast (hexec : p.tables.exec = Jvm.exec) (hb : c.code = cc) (hK : va_K D cl tys s) (hP : va_P D cl ws H) (hD : va_D A ws) (hS : va_S A H0 H locs) (q0 t0 : Nat) {cA : ClassId} {n k : Nat} {f : Nat → Int32} (ha : ws[q0]? = some (a, .inl (cA, n, .inl f))) (ht : tys[t0]? = some (cA, .boolean)) {x : Bool} (hk : k < n) (hn : n ≤ 1024) (hdg : decode cc pc = .ok (.bastore, 1))
    (kk : ∀ (H1 : Heap) (locs1 : List Loc), va_P D cl (ws.set q0 (a, .inl (cA, n, .inl (upd f k (cs_z x))))) H1 → va_D A (ws.set q0 (a, .inl (cA, n, .inl (upd f k (cs_z x))))) → va_S A H0 H1 locs1 → W p l e R s m args below meth c H1 locs1 cells slots Q (F0 m (pc + 1) ls rest)) : W p l e R s m args below meth c H locs cells slots Q (F0 m pc ls (.int (cs_z x) :: .int (nI k) :: .ref a :: rest)) :=
  va_zast hexec hb hK hP hD hS q0 t0 ha ht (vp_in_nI hk (by omega)) hdg (by rw [nI_clamp (by omega), cs_z_vn]; exact kk)
theorem cs_last (hexec : p.tables.exec = Jvm.exec) (hb : c.code = cc) (hK : va_K D cl tys s) (hP : va_P D cl ws H) (hD : va_D A ws) (hS : va_S A H0 H locs) (q0 t0 : Nat) {cA : ClassId} {n k : Nat} {f : Nat → Int64} (ha : ws[q0]? = some (a, .inl (cA, n, .inr (.inl f)))) (ht : tys[t0]? = some (cA, .long)) {x : Int64} (hk : k < n) (hn : n ≤ 1024) (hdg : decode cc pc = .ok (.lastore, 1))
    (kk : ∀ (H1 : Heap) (locs1 : List Loc), va_P D cl (ws.set q0 (a, .inl (cA, n, .inr (.inl (vp_updL f k x))))) H1 → va_D A (ws.set q0 (a, .inl (cA, n, .inr (.inl (vp_updL f k x))))) → va_S A H0 H1 locs1 → W p l e R s m args below meth c H1 locs1 cells slots Q (F0 m (pc + 1) ls rest)) : W p l e R s m args below meth c H locs cells slots Q (F0 m pc ls (.long x :: .int (nI k) :: .ref a :: rest)) :=
  va_last hexec hb hK hP hD hS q0 t0 ha ht (vp_in_nI hk (by omega)) hdg (by rw [nI_clamp (by omega)]; exact kk)
end CSA
/-! worlds side by side -/
theorem cs_off {A0 : Nat → Prop} {D : va_G} {w1 w2 : va_W} {H : Heap} (hP : va_P D vwCl (w1 ++ w2) H) (hD : va_D A0 (w1 ++ w2)) (k : Nat) (q : Nat × va_E) (h : w2[k]? = some q) : (w1 ++ w2)[w1.length + k]? = some q ∧ q.1 < H.size ∧ ¬ va_A w1 H.size q.1 := by
  have h2 : (w1 ++ w2)[w1.length + k]? = some q := by rw [List.getElem?_append_right (by omega), Nat.add_sub_cancel_left]; exact h
  have hl := (hP _ q h2).lt
  refine ⟨h2, hl, fun z => ?_⟩
  rcases z with ⟨i, e, z⟩ | z
  · have hi := (List.getElem?_eq_some_iff.mp z).1
    have h3 : (w1 ++ w2)[i]? = some (q.1, e) := by rw [List.getElem?_append_left hi]; exact z
    have := hD.1 _ _ q (q.1, e) h2 h3 rfl
    omega
  · omega
theorem cs_offR {A0 : Nat → Prop} {D : va_G} {w1 w2 : va_W} {H : Heap} (hP : va_P D vwCl (w1 ++ w2) H) (hD : va_D A0 (w1 ++ w2)) (k : Nat) (q : Nat × va_E) (h : w1[k]? = some q) : (w1 ++ w2)[k]? = some q ∧ q.1 < H.size ∧ ¬ va_A w2 H.size q.1 := by
  have hk := (List.getElem?_eq_some_iff.mp h).1
  have h2 : (w1 ++ w2)[k]? = some q := by rw [List.getElem?_append_left hk]; exact h
  have hl := (hP _ q h2).lt
  refine ⟨h2, hl, fun z => ?_⟩
  rcases z with ⟨i, e, z⟩ | z
  · have h3 : (w1 ++ w2)[w1.length + i]? = some (q.1, e) := by rw [List.getElem?_append_right (by omega), Nat.add_sub_cancel_left]; exact z
    have := hD.1 _ _ q (q.1, e) h2 h3 rfl
    omega
  · omega
theorem cs_PL {D : va_G} {w1 w2 : va_W} {H : Heap} (hP : va_P D vwCl (w1 ++ w2) H) : va_P D vwCl w1 H := fun k q h => hP k q (by rw [List.getElem?_append_left (List.getElem?_eq_some_iff.mp h).1]; exact h)
theorem cs_PR {D : va_G} {w1 w2 : va_W} {H : Heap} (hP : va_P D vwCl (w1 ++ w2) H) : va_P D vwCl w2 H := fun k q h => hP (w1.length + k) q (by rw [List.getElem?_append_right (by omega), Nat.add_sub_cancel_left]; exact h)
theorem cs_DL {A : Nat → Prop} {w1 w2 : va_W} (hD : va_D A (w1 ++ w2)) : va_D A w1 :=
  ⟨fun i j x y hx hy e => hD.1 i j x y (by rw [List.getElem?_append_left (List.getElem?_eq_some_iff.mp hx).1]; exact hx) (by rw [List.getElem?_append_left (List.getElem?_eq_some_iff.mp hy).1]; exact hy) e, fun k q h => hD.2 k q (by rw [List.getElem?_append_left (List.getElem?_eq_some_iff.mp h).1]; exact h)⟩
theorem cs_DR {A : Nat → Prop} {w1 w2 : va_W} (hD : va_D A (w1 ++ w2)) : va_D A w2 :=
  ⟨fun i j x y hx hy e => by
    have := hD.1 (w1.length + i) (w1.length + j) x y (by rw [List.getElem?_append_right (by omega), Nat.add_sub_cancel_left]; exact hx) (by rw [List.getElem?_append_right (by omega), Nat.add_sub_cancel_left]; exact hy) e
    omega, fun k q h => hD.2 (w1.length + k) q (by rw [List.getElem?_append_right (by omega), Nat.add_sub_cancel_left]; exact h)⟩
theorem cs_joinL {A0 : Nat → Prop} {D : va_G} {w1 w2 w1' : va_W} {H H1 : Heap} (hP : va_P D vwCl (w1 ++ w2) H) (hD : va_D A0 (w1 ++ w2)) (hk : ∀ q : Nat, q < H.size → ¬ va_A w1 H.size q → H1[q]? = H[q]?) (hF : ∀ q, va_A w1 H.size q → A0 q) (hP1 : va_P D vwCl w1' H1) (hD1 : va_D (va_A w1 H.size) w1') : va_P D vwCl (w1' ++ w2) H1 ∧ va_D A0 (w1' ++ w2) := by
  refine ⟨va_P.app hP1 (fun k q hq => ?_), va_D.app (hD1.weaken (fun k q _ h => hF q.1 h)) (cs_DR hD) (fun i j x y hx hy hxy => ?_)⟩
  · obtain ⟨h1, h2, h3⟩ := cs_off hP hD k q hq
    exact (hP _ q h1).kept (hk q.1 h2 h3)
  · obtain ⟨h1, h2, h3⟩ := cs_off hP hD j y hy
    exact h3 (by rw [← hxy]; exact hD1.2 i x hx)
theorem cs_joinR {A0 : Nat → Prop} {D : va_G} {w1 w2 w2' : va_W} {H H1 : Heap} (hP : va_P D vwCl (w1 ++ w2) H) (hD : va_D A0 (w1 ++ w2)) (hk : ∀ q : Nat, q < H.size → ¬ va_A w2 H.size q → H1[q]? = H[q]?) (hF : ∀ q, va_A w2 H.size q → A0 q) (hP1 : va_P D vwCl w2' H1) (hD1 : va_D (va_A w2 H.size) w2') : va_P D vwCl (w1 ++ w2') H1 ∧ va_D A0 (w1 ++ w2') := by
  refine ⟨va_P.app (fun k q hq => ?_) hP1, va_D.app (cs_DL hD) (hD1.weaken (fun k q _ h => hF q.1 h)) (fun i j x y hx hy hxy => ?_)⟩
  · obtain ⟨h1, h2, h3⟩ := cs_offR hP hD k q hq
    exact (hP _ q h1).kept (hk q.1 h2 h3)
  · obtain ⟨h1, h2, h3⟩ := cs_offR hP hD i x hx
    exact h3 (by rw [hxy]; exact hD1.2 j y hy)
theorem cs_keep {D : va_G} {w : va_W} {H H1 : Heap} (hP : va_P D vwCl w H) (h : ∀ q : Nat, q < H.size → H1[q]? = H[q]?) : va_P D vwCl w H1 := hP.kept (fun k q hq => h q.1 (hP k q hq).lt)
theorem cs_inL {A0 : Nat → Prop} {w1 w2 : va_W} {H0 H : Heap} {locs : List Loc} (hD : va_D A0 (w1 ++ w2)) (hS : va_S A0 H0 H locs) (hA : ∀ q, H0.size ≤ q → A0 q) : ∀ q, va_A w1 H.size q → A0 q := fun q h => by
  rcases h with ⟨k, e, h⟩ | h
  · exact (cs_DL hD).2 k (q, e) h
  · exact hA q (Nat.le_trans hS.1 h)
theorem cs_inR {A0 : Nat → Prop} {w1 w2 : va_W} {H0 H : Heap} {locs : List Loc} (hD : va_D A0 (w1 ++ w2)) (hS : va_S A0 H0 H locs) (hA : ∀ q, H0.size ≤ q → A0 q) : ∀ q, va_A w2 H.size q → A0 q := fun q h => by
  rcases h with ⟨k, e, h⟩ | h
  · exact (cs_DR hD).2 k (q, e) h
  · exact hA q (Nat.le_trans hS.1 h)
end
section
/-! ===== Int32 by its bits: bt x i ===== -/
def bt (x : Int32) (i : Nat) : Bool := x.toBitVec.getLsbD i
theorem b_ext {x y : Int32} (h : ∀ i, i < 32 → bt x i = bt y i) : x = y := Int32.toBitVec_inj.mp (BitVec.eq_of_getLsbD_eq (fun i hi => h i hi))
theorem b_or (x y : Int32) (i : Nat) : bt (x ||| y) i = (bt x i || bt y i) := by unfold bt; rw [Int32.toBitVec_or, BitVec.getLsbD_or]
theorem b_and (x y : Int32) (i : Nat) : bt (x &&& y) i = (bt x i && bt y i) := by unfold bt; rw [Int32.toBitVec_and, BitVec.getLsbD_and]
theorem b_xor (x y : Int32) (i : Nat) : bt (x ^^^ y) i = (bt x i ^^ bt y i) := by unfold bt; rw [Int32.toBitVec_xor, BitVec.getLsbD_xor]
theorem b_big {x : Int32} {i : Nat} (h : 32 ≤ i) : bt x i = false := BitVec.getLsbD_of_ge _ _ h
theorem b_255 (i : Nat) : bt 255 i = decide (i < 8) := by
  rcases Nat.lt_or_ge i 32 with h | h
  · exact (by decide +kernel : ∀ i, i < 32 → bt 255 i = decide (i < 8)) i h
  · rw [b_big h, decide_eq_false (by omega)]
theorem b_65535 (i : Nat) : bt 65535 i = decide (i < 16) := by
  rcases Nat.lt_or_ge i 32 with h | h
  · exact (by decide +kernel : ∀ i, i < 32 → bt 65535 i = decide (i < 16)) i h
  · rw [b_big h, decide_eq_false (by omega)]
theorem b_m1 : ∀ i, i < 32 → bt (-1) i = true := by decide +kernel
theorem b_0 (i : Nat) : bt 0 i = false := BitVec.getLsbD_zero
theorem s_l : ∀ n, n < 32 → ((nI n &&& 31).toBitVec.smod 32).toNat = n := by decide +kernel
theorem s_u : ∀ n, n < 32 → (((nI n).toUInt32 &&& Int32.toUInt32 31).toBitVec % 32).toNat = n := by decide +kernel
theorem b_shl (n : Nat) (hn : n < 32) (x : Int32) {i : Nat} (hi : i < 32) : bt (x <<< (nI n &&& 31)) i = (decide (n ≤ i) && bt x (i - n)) := by
  unfold bt
  rw [Int32.toBitVec_shiftLeft]
  show (x.toBitVec <<< ((nI n &&& 31).toBitVec.smod 32).toNat).getLsbD i = _
  rw [s_l n hn, BitVec.getLsbD_shiftLeft]
  rcases Nat.lt_or_ge i n with h | h
  · simp [h, Nat.not_le.mpr h]
  · simp [hi, h, Nat.not_lt.mpr h]
theorem b_ushr (n : Nat) (hn : n < 32) (x : Int32) (i : Nat) : bt ((x.toUInt32 >>> ((nI n).toUInt32 &&& Int32.toUInt32 31)).toInt32) i = bt x (n + i) := by
  show (x.toUInt32 >>> ((nI n).toUInt32 &&& Int32.toUInt32 31)).toBitVec.getLsbD i = x.toUInt32.toBitVec.getLsbD (n + i)
  rw [UInt32.toBitVec_shiftRight]
  show (x.toUInt32.toBitVec >>> (((nI n).toUInt32 &&& Int32.toUInt32 31).toBitVec % 32).toNat).getLsbD i = _
  rw [s_u n hn, BitVec.getLsbD_ushiftRight]
theorem b_sshr (n : Nat) (hn : n < 32) (x : Int32) {i : Nat} (hi : i < 32) : bt (x >>> (nI n &&& 31)) i = if n + i < 32 then bt x (n + i) else bt x 31 := by
  unfold bt
  rw [Int32.toBitVec_shiftRight]
  show (x.toBitVec.sshiftRight ((nI n &&& 31).toBitVec.smod 32).toNat).getLsbD i = _
  rw [s_l n hn, BitVec.getLsbD_sshiftRight, BitVec.msb_eq_getLsbD_last]
  simp [hi]
theorem b_shl8 (x : Int32) {i : Nat} (hi : i < 32) : bt (x <<< ((8 : Int32) &&& 31)) i = (decide (8 ≤ i) && bt x (i - 8)) := b_shl 8 (by omega) x hi
theorem b_shl16 (x : Int32) {i : Nat} (hi : i < 32) : bt (x <<< ((16 : Int32) &&& 31)) i = (decide (16 ≤ i) && bt x (i - 16)) := b_shl 16 (by omega) x hi
theorem b_shl24 (x : Int32) {i : Nat} (hi : i < 32) : bt (x <<< ((24 : Int32) &&& 31)) i = (decide (24 ≤ i) && bt x (i - 24)) := b_shl 24 (by omega) x hi
theorem b_sshr8 (x : Int32) {i : Nat} (hi : i < 32) : bt (x >>> ((8 : Int32) &&& 31)) i = if 8 + i < 32 then bt x (8 + i) else bt x 31 := b_sshr 8 (by omega) x hi
/-! ===== Int32 as a set of bits: test, set ===== -/
def nf_M (m : Int32) : Nat := 4294967296 - m.toBitVec.toNat
theorem nf_sh : ∀ l, l < 32 → ((1 : Int32) <<< (nI l &&& 31)).toBitVec = BitVec.twoPow 32 l := by decide +kernel
theorem nf_sl : ∀ l, l < 32 → (((nI l).toUInt32 &&& Int32.toUInt32 31).toBitVec % 32).toNat = l := by decide +kernel
theorem nf_tp : ∀ l, l < 32 → BitVec.twoPow 32 l ≠ 0#32 := by decide +kernel
theorem nf_bit (m : Int32) (l : Nat) (hl : l < 32) : ((m.toUInt32 >>> ((nI l).toUInt32 &&& Int32.toUInt32 31)).toInt32 &&& 1) = 0 ↔ (m &&& ((1 : Int32) <<< (nI l &&& 31))) = 0 := by
  have e : ((m.toUInt32 >>> ((nI l).toUInt32 &&& Int32.toUInt32 31)).toInt32).toBitVec = m.toBitVec >>> l := by
    show m.toBitVec >>> (((nI l).toUInt32 &&& Int32.toUInt32 31).toBitVec % 32) = m.toBitVec >>> l
    rw [BitVec.ushiftRight_eq', nf_sl l hl]
  rw [← Int32.toBitVec_inj, ← Int32.toBitVec_inj, Int32.toBitVec_and, Int32.toBitVec_and, nf_sh l hl, e, BitVec.and_twoPow]
  show (m.toBitVec >>> l &&& 1#32) = 0#32 ↔ _ = 0#32
  rw [BitVec.and_one_eq_setWidth_ofBool_getLsbD, BitVec.getLsbD_ushiftRight, Nat.add_zero]
  cases hb : m.toBitVec.getLsbD l
  · exact ⟨fun _ => by simp, fun _ => by decide⟩
  · exact ⟨fun z => absurd z (by decide), fun z => absurd ((if_pos rfl).symm.trans z) (nf_tp l hl)⟩
end
section
/-! the arithmetic of both sides, as functions of numbers -/
def cs_mk (w : Nat) : Int32 := nI (2 ^ w - 1)
def cs_hb (w : Nat) : Int32 := nI (2 ^ (w - 1))
def cs_ur (x y : Int32) : Int32 := (x.toUInt32 >>> (y.toUInt32 &&& Int32.toUInt32 31)).toInt32
def cs_bit (v n : Int32) : Int32 := cs_ur v n &&& 1
def cs_rem (x y : Int32) : Int32 := x - x / y * y
def cs_remL (x y : Int64) : Int64 := x - x / y * y
/-- a polynomial times x, modulo P -/
def cs_T (w : Nat) (p v : Int32) : Int32 := if v &&& cs_hb w = 0 then (v <<< ((1 : Int32) &&& 31)) &&& cs_mk w else ((v <<< ((1 : Int32) &&& 31)) &&& cs_mk w) ^^^ p
theorem cs_T_lo {w : Nat} {p v : Int32} (h : v &&& cs_hb w = 0) : cs_T w p v = (v <<< ((1 : Int32) &&& 31)) &&& cs_mk w := if_pos h
theorem cs_T_hi {w : Nat} {p v : Int32} (h : ¬ v &&& cs_hb w = 0) : cs_T w p v = ((v <<< ((1 : Int32) &&& 31)) &&& cs_mk w) ^^^ p := if_neg h
/-- the product, the bits of b from bit n - 1 on -/
def cs_pd (w : Nat) (p a b : Int32) : Nat → Int32 → Int32
  | 0, r => r
  | n + 1, r => cs_pd w p a b n (if cs_bit b (nI n) = 1 then cs_T w p r ^^^ a else cs_T w p r)
theorem cs_pd_1 {w : Nat} {p a b : Int32} {n : Nat} {r : Int32} (h : cs_bit b (nI n) = 1) : cs_pd w p a b (n + 1) r = cs_pd w p a b n (cs_T w p r ^^^ a) := by rw [cs_pd, if_pos h]
theorem cs_pd_0 {w : Nat} {p a b : Int32} {n : Nat} {r : Int32} (h : ¬ cs_bit b (nI n) = 1) : cs_pd w p a b (n + 1) r = cs_pd w p a b n (cs_T w p r) := by rw [cs_pd, if_neg h]
def cs_mul (w : Nat) (p a b : Int32) (n : Nat) : Int32 := cs_pd w p a b n 0
def cs_lb (x : Int64) (n : Int32) : Int64 := (x.toUInt64 >>> (n.toInt64.toUInt64 &&& Int64.toUInt64 63)).toInt64 &&& 1
/-- the power of x, the bits of the exponent from bit n - 1 on -/
def cs_pq (w : Nat) (p : Int32) (x : Int64) : Nat → Int32 → Int32
  | 0, r => r
  | n + 1, r => cs_pq w p x n (if cs_lb x (nI n) = 1 then cs_T w p (cs_mul w p r r w) else cs_mul w p r r w)
theorem cs_pq_1 {w : Nat} {p : Int32} {x : Int64} {n : Nat} {r : Int32} (h : cs_lb x (nI n) = 1) : cs_pq w p x (n + 1) r = cs_pq w p x n (cs_T w p (cs_mul w p r r w)) := by rw [cs_pq, if_pos h]
theorem cs_pq_0 {w : Nat} {p : Int32} {x : Int64} {n : Nat} {r : Int32} (h : ¬ cs_lb x (nI n) = 1) : cs_pq w p x (n + 1) r = cs_pq w p x n (cs_mul w p r r w) := by rw [cs_pq, if_neg h]
def cs_pow (w : Nat) (p : Int32) (x : Int64) : Int32 := cs_pq w p x 63 1
/-- the first n bits of v, reversed -/
def cs_rv (v : Int32) : Nat → Int32
  | 0 => 0
  | k + 1 => (cs_rv v k <<< ((1 : Int32) &&& 31)) ||| cs_bit v (nI k)
/-- the same, each bit put at its place -/
def cs_rw (v b : Int32) : Nat → Int32
  | 0 => 0
  | k + 1 => cs_rw v b k ||| (cs_bit v (nI k) <<< ((b - 1 - nI k) &&& 31))
def cs_tb (w : Nat) (p r x : Int32) : Int32 := cs_T w p (r ^^^ (x <<< ((nI w - 1) &&& 31)))
/-- the register takes the bits of o from bit n - 1 on -/
def cs_ty (w : Nat) (p o : Int32) : Nat → Int32 → Int32
  | 0, r => r
  | n + 1, r => cs_ty w p o n (cs_tb w p r (cs_bit o (nI n)))
def cs_od (ri : Bool) (v : Int32) : Int32 := if ri = true then cs_rv v 8 else v
def cs_tk (w : Nat) (p : Int32) (ri : Bool) (r v : Int32) : Int32 := cs_ty w p (cs_od ri v) 8 r
def cs_dv (w : Nat) (p v : Int32) : Nat → Int32 → Int32
  | 0, r => r
  | n + 1, r => cs_dv w p v n (cs_T w p r ^^^ cs_bit v (nI n))
def cs_so (ro : Bool) (w : Nat) (v : Int32) : Int32 := if ro = true then cs_rv v w else v
/-- the register behind k bytes of a part -/
def cs_ps (w : Nat) (p : Int32) (ri : Bool) (i : Int32) (f : Nat → Nat) (a : Nat) : Nat → Int32
  | 0 => i
  | k + 1 => cs_tk w p ri (cs_ps w p ri i f a k) (nI (f (a + k)))
/-- the remainder of n bytes -/
def cs_rs (w : Nat) (p : Int32) (f : Nat → Nat) : Nat → Int32
  | 0 => 0
  | n + 1 => cs_dv w p (nI (f n)) 8 (cs_rs w p f n)
/-- the same, of k bits -/
def cs_rm (w : Nat) (p : Int32) (f : Nat → Nat) : Nat → Int32
  | 0 => 0
  | k + 1 => cs_T w p (cs_rm w p f k) ^^^ ((nI (f (k / 8)) >>> ((7 - nI (k % 8)) &&& 31)) &&& 1)
/-- the period, from exponent k on -/
def cs_pe (w : Nat) (p : Int32) : Nat → Nat → Int32 → Int32
  | 0, _, _ => -1
  | n + 1, k, v => if cs_T w p v = 1 then nI k else cs_pe w p n (k + 1) (cs_T w p v)
/-- the wrong bit, n bits left -/
def cs_wb (w : Nat) (p d : Int32) : Nat → Int32 → Int32 → Int32
  | 0, f, _ => f
  | n + 1, f, t => cs_wb w p d n (if t = d then nI n else f) (cs_T w p t)
/-- the two numbers of a running sum over n bytes -/
def cs_ra (base a0 : Int32) (f : Nat → Nat) : Nat → Int32 × Int32
  | 0 => (a0, 0)
  | n + 1 => (cs_rem ((cs_ra base a0 f n).1 + nI (f n)) base, cs_rem ((cs_ra base a0 f n).2 + cs_rem ((cs_ra base a0 f n).1 + nI (f n)) base) base)
/-- a long modulo m, from 0 on -/
def cs_fm (x m : Int64) : Int64 := if cs_remL x m < 0 then cs_remL x m + m else cs_remL x m
def cs_ad (a b : Int64) : Int32 := 65536 * (cs_fm b 65521).toInt32 + (cs_fm a 65521).toInt32
def cs_in (v lo hi : Int32) : Bool := decide (lo ≤ v) && decide (v ≤ hi)
def cs_nb (v w : Int32) : Bool := decide (w = 32) || decide (cs_ur v w = 0)
theorem cs_dec (x : Int32) : x + Int32.ofInt (-1) = x - 1 := by rw [Int32.sub_eq_add_neg]; rfl
theorem cs_inc1 (i : Nat) : nI i + Int32.ofInt 1 = nI (i + 1) := nI_1 i
theorem cs_inc7 (i : Nat) : nI i + Int32.ofInt 7 = nI (i + 7) := nI_add i 7
theorem cs_m1 : nI 0 - 1 < 0 := by decide
theorem cs_mkI : ∀ w, w ≤ 32 → 1 ≤ w → cs_ur (-1) (32 - nI w) = cs_mk w := by decide +kernel
theorem cs_hbI : ∀ w, w ≤ 32 → 1 ≤ w → (1 : Int32) <<< ((nI w - 1) &&& 31) = cs_hb w := by decide +kernel
/-- the fields of a model object -/
abbrev cs_F (wd : Nat) (po ini : Int32) (ri ro : Bool) (xo : Int32) : List Value := [.int (nI wd), .int po, .int ini, .int (cs_z ri), .int (cs_z ro), .int xo, .int (cs_mk wd), .int (cs_hb wd)]
end
section
/-! the state of a laboratory: number of models, width, polynomial, first register, last, reflections; lengths of the rows, their bytes -/
abbrev cs_St : Type := Nat × (Nat → Nat) × (Nat → Int32) × (Nat → Int32) × (Nat → Int32) × (Nat → Bool) × (Nat → Bool) × (Nat → Nat) × (Nat → Nat → Nat)
def cs_n (S : cs_St) : Nat := S.1
def cs_w (S : cs_St) : Nat → Nat := S.2.1
def cs_p (S : cs_St) : Nat → Int32 := S.2.2.1
def cs_i (S : cs_St) : Nat → Int32 := S.2.2.2.1
def cs_x (S : cs_St) : Nat → Int32 := S.2.2.2.2.1
def cs_ri (S : cs_St) : Nat → Bool := S.2.2.2.2.2.1
def cs_ro (S : cs_St) : Nat → Bool := S.2.2.2.2.2.2.1
def cs_ln (S : cs_St) : Nat → Nat := S.2.2.2.2.2.2.2.1
def cs_by (S : cs_St) : Nat → Nat → Nat := S.2.2.2.2.2.2.2.2
def cs_ok (S : cs_St) : Prop := cs_n S ≤ 6 ∧ (∀ k, k < cs_n S → 1 ≤ cs_w S k ∧ cs_w S k ≤ 32) ∧ (∀ r, cs_ln S r ≤ 256) ∧ (∀ r j, cs_by S r j < 256)
/-- row r has l bytes, f its bytes -/
def cs_put (S : cs_St) (r l : Nat) (f : Nat → Nat) : cs_St := (S.1, S.2.1, S.2.2.1, S.2.2.2.1, S.2.2.2.2.1, S.2.2.2.2.2.1, S.2.2.2.2.2.2.1, va_up S.2.2.2.2.2.2.2.1 r l, va_up S.2.2.2.2.2.2.2.2 r f)
/-- one model more -/
def cs_def (S : cs_St) (wd : Nat) (po ini : Int32) (ri ro : Bool) (xo : Int32) : cs_St := (S.1 + 1, va_up S.2.1 S.1 wd, va_up S.2.2.1 S.1 po, va_up S.2.2.2.1 S.1 ini, va_up S.2.2.2.2.1 S.1 xo, va_up S.2.2.2.2.2.1 S.1 ri, va_up S.2.2.2.2.2.2.1 S.1 ro, S.2.2.2.2.2.2.2.1, S.2.2.2.2.2.2.2.2)
def cs_0 : cs_St := (0, fun _ => 0, fun _ => 0, fun _ => 0, fun _ => 0, fun _ => false, fun _ => false, fun _ => 0, fun _ _ => 0)
abbrev cs_tys (cy : Nat → ClassId) : List (ClassId × FieldType) := [(cy 0, .int), (cy 1, .boolean), (cy 2, .long), (cy 3, .object "ChecksumLab$Model"), (cy 4, .array .int)]
/-! the reference's world -/
def cs_R (S : cs_St) (th : Int32) (bd : Nat → Nat) (cy : Nat → ClassId) : va_W := [
  (bd 0, .inr (2, [.ref (bd 1), .ref (bd 2), .ref (bd 3), .ref (bd 4), .ref (bd 5), .ref (bd 6), .int (nI (cs_n S)), .ref (bd 7), .ref (bd 8), .int th])),
  (bd 1, .inl (cy 0, 6, .inl (fun j => nI (cs_w S j)))),
  (bd 2, .inl (cy 0, 6, .inl (fun j => cs_p S j))),
  (bd 3, .inl (cy 0, 6, .inl (fun j => cs_i S j))),
  (bd 4, .inl (cy 0, 6, .inl (fun j => cs_x S j))),
  (bd 5, .inl (cy 1, 6, .inl (fun j => cs_z (cs_ri S j)))),
  (bd 6, .inl (cy 1, 6, .inl (fun j => cs_z (cs_ro S j)))),
  (bd 7, .inl (cy 0, 1024, .inl (fun j => nI (cs_by S (j / 256) (j % 256))))),
  (bd 8, .inl (cy 0, 4, .inl (fun j => nI (cs_ln S j))))]
section CSW
variable {S : cs_St} {th : Int32} {bd : Nat → Nat} {cy : Nat → ClassId}
theorem cs_R0 : (cs_R S th bd cy)[0]? = some (bd 0, .inr (2, [.ref (bd 1), .ref (bd 2), .ref (bd 3), .ref (bd 4), .ref (bd 5), .ref (bd 6), .int (nI (cs_n S)), .ref (bd 7), .ref (bd 8), .int th])) := rfl
theorem cs_R1 : (cs_R S th bd cy)[1]? = some (bd 1, .inl (cy 0, 6, .inl (fun j => nI (cs_w S j)))) := rfl
theorem cs_R2 : (cs_R S th bd cy)[2]? = some (bd 2, .inl (cy 0, 6, .inl (fun j => cs_p S j))) := rfl
theorem cs_R3 : (cs_R S th bd cy)[3]? = some (bd 3, .inl (cy 0, 6, .inl (fun j => cs_i S j))) := rfl
theorem cs_R4 : (cs_R S th bd cy)[4]? = some (bd 4, .inl (cy 0, 6, .inl (fun j => cs_x S j))) := rfl
theorem cs_R5 : (cs_R S th bd cy)[5]? = some (bd 5, .inl (cy 1, 6, .inl (fun j => cs_z (cs_ri S j)))) := rfl
theorem cs_R6 : (cs_R S th bd cy)[6]? = some (bd 6, .inl (cy 1, 6, .inl (fun j => cs_z (cs_ro S j)))) := rfl
theorem cs_R7 : (cs_R S th bd cy)[7]? = some (bd 7, .inl (cy 0, 1024, .inl (fun j => nI (cs_by S (j / 256) (j % 256))))) := rfl
theorem cs_R8 : (cs_R S th bd cy)[8]? = some (bd 8, .inl (cy 0, 4, .inl (fun j => nI (cs_ln S j)))) := rfl
end CSW
theorem cs_256 (r j : Nat) : (256 : Int32) * nI r + nI j = nI (256 * r + j) := by
  show nI 256 * nI r + nI j = _
  rw [pk_mul, nI_add]
theorem cs_byE {S : cs_St} {r j : Nat} (hj : j < 256) : cs_by S ((256 * r + j) / 256) ((256 * r + j) % 256) = cs_by S r j := by
  rw [show (256 * r + j) / 256 = r by omega, show (256 * r + j) % 256 = j by omega]
/-! what is asked of arguments -/
theorem cs_inT {v lo hi : Int32} (h1 : lo ≤ v) (h2 : v ≤ hi) : cs_in v lo hi = true := by unfold cs_in; rw [decide_eq_true h1, decide_eq_true h2]; rfl
theorem cs_inF1 {v lo hi : Int32} (h1 : ¬ lo ≤ v) : cs_in v lo hi = false := by unfold cs_in; rw [decide_eq_false h1]; rfl
theorem cs_inF2 {v lo hi : Int32} (h2 : ¬ v ≤ hi) : cs_in v lo hi = false := by unfold cs_in; rw [decide_eq_false h2, Bool.and_false]
theorem cs_in_of {v : Int32} {n : Nat} (hn : n < 2 ^ 31) (h : cs_in v 0 (nI n) = true) : ∃ k, k ≤ n ∧ v = nI k := by
  unfold cs_in at h
  rw [Bool.and_eq_true, decide_eq_true_eq, decide_eq_true_eq] at h
  exact nI_of2 (nI_toInt hn) (fun z => by rw [Int32.lt_iff_toInt_lt] at z; have h1 := h.1; rw [Int32.le_iff_toInt_le] at h1; omega) h.2
theorem cs_row_of {v : Int32} (h : cs_in v 0 3 = true) : ∃ r, r < 4 ∧ v = nI r := by
  obtain ⟨k, h1, h2⟩ := cs_in_of (n := 3) (by omega) h
  exact ⟨k, by omega, h2⟩
theorem cs_byte_of {v : Int32} (h : cs_in v 0 255 = true) : ∃ b, b < 256 ∧ v = nI b := by
  obtain ⟨k, h1, h2⟩ := cs_in_of (n := 255) (by omega) h
  exact ⟨k, by omega, h2⟩
theorem cs_mod_of {S : cs_St} (hS : cs_ok S) {v : Int32} (h : cs_in v 0 (nI (cs_n S) - 1) = true) : ∃ k, k < cs_n S ∧ v = nI k := by
  have h6 := hS.1
  rcases Nat.eq_zero_or_pos (cs_n S) with h0 | h0
  · rw [h0] at h
    unfold cs_in at h
    rw [Bool.and_eq_true, decide_eq_true_eq, decide_eq_true_eq, Int32.le_iff_toInt_le, Int32.le_iff_toInt_le] at h
    have h2 : (nI 0 - 1).toInt = -1 := by decide
    have h3 : (0 : Int32).toInt = 0 := by decide
    omega
  · obtain ⟨n, hn⟩ : ∃ n, cs_n S = n + 1 := ⟨cs_n S - 1, by omega⟩
    rw [hn, nI_pred] at h
    obtain ⟨k, h1, h2⟩ := cs_in_of (by omega) h
    exact ⟨k, by omega, h2⟩
theorem cs_in_nI {k n : Nat} (h : k ≤ n) (hn : n < 2 ^ 31) : cs_in (nI k) 0 (nI n) = true := cs_inT (nI_pos' (by omega)) (nI_le h hn)
theorem cs_in_mod {k n : Nat} (h : k < n) (hn : n ≤ 6) : cs_in (nI k) 0 (nI n - 1) = true := by
  obtain ⟨m, rfl⟩ : ∃ m, n = m + 1 := ⟨n - 1, by omega⟩
  rw [nI_pred]
  exact cs_in_nI (by omega) (by omega)
def cs_k1 (b : Bool) : Int32 := if b = true then 0 else 1
def cs_k2 (b c : Bool) : Int32 := if b = true then (if c = true then 0 else 2) else 1
/-! the reference's own arithmetic -/
theorem cs_b1 (x : Int32) : x &&& 1 = 0 ∨ x &&& 1 = 1 := by
  have h : ∀ i, i < 32 → bt (x &&& 1) i = (decide (i = 0) && bt x 0) := fun i hi => by
    rw [b_and, (by decide +kernel : ∀ i, i < 32 → bt 1 i = decide (i = 0)) i hi]
    by_cases h0 : i = 0
    · subst h0; simp
    · simp [h0]
  cases hb : bt x 0
  · exact Or.inl (b_ext (fun i hi => by rw [h i hi, hb, b_0, Bool.and_false]))
  · exact Or.inr (b_ext (fun i hi => by rw [h i hi, hb, Bool.and_true, (by decide +kernel : ∀ i, i < 32 → bt 1 i = decide (i = 0)) i hi]))
theorem cs_hi {w : Nat} {v : Int32} (h1 : 1 ≤ w) (h2 : w ≤ 32) : cs_ur v (nI w - 1) &&& 1 = 1 ↔ ¬ v &&& cs_hb w = 0 := by
  obtain ⟨l, rfl⟩ : ∃ l, w = l + 1 := ⟨w - 1, by omega⟩
  rw [nI_pred]
  have h := nf_bit v l (by omega)
  have e : (1 : Int32) <<< (nI l &&& 31) = cs_hb (l + 1) := (by decide +kernel : ∀ l, l < 32 → (1 : Int32) <<< (nI l &&& 31) = cs_hb (l + 1)) l (by omega)
  rw [e] at h
  constructor
  · intro q z
    have := h.mpr z
    unfold cs_ur at q
    rw [q] at this
    exact absurd this (by decide)
  · intro q
    rcases cs_b1 (cs_ur v (nI l)) with z | z
    · exact absurd (h.mp z) q
    · exact z
theorem cs_mkR : ∀ w, w < 32 → 1 ≤ w → ((1 : Int32) <<< (nI w &&& 31)) - 1 = cs_mk w := by decide +kernel
theorem cs_mk32 (x : Int32) : x &&& cs_mk 32 = x := b_ext (fun i hi => by rw [b_and, show cs_mk 32 = -1 from by decide, b_m1 i hi, Bool.and_true])
theorem cs_T_r {w : Nat} {p v : Int32} (h1 : 1 ≤ w) (h2 : w ≤ 32) {t : Int32} (ht : t = (v <<< ((1 : Int32) &&& 31)) &&& cs_mk w) (b : Bool) (hb : b = true ↔ cs_ur v (nI w - 1) &&& 1 = 1) : (if b = true then t ^^^ p else t) = cs_T w p v := by
  subst ht
  by_cases h : cs_ur v (nI w - 1) &&& 1 = 1
  · rw [if_pos (hb.mpr h), cs_T_hi ((cs_hi h1 h2).mp h)]
  · rw [if_neg (fun z => h (hb.mp z)), cs_T_lo (Classical.byContradiction (fun z => h ((cs_hi h1 h2).mpr z)))]
/-! the reference's loops and questions -/
theorem cs_lb64 : ∀ n, n < 63 → (((nI n).toInt64 &&& 63).toBitVec.smod 64).toNat = n := by decide +kernel
theorem cs_ub64 : ∀ n, n < 63 → (((nI n).toInt64.toUInt64 &&& Int64.toUInt64 63).toBitVec % 64).toNat = n := by decide +kernel
theorem cs_lbR (x : Int64) (n : Nat) (hn : n < 63) : (x >>> ((nI n).toInt64 &&& 63)) &&& 1 = cs_lb x (nI n) := by
  unfold cs_lb
  apply Int64.toBitVec_inj.mp
  rw [Int64.toBitVec_and, Int64.toBitVec_and]
  apply BitVec.eq_of_getLsbD_eq
  intro i hi
  rw [BitVec.getLsbD_and, BitVec.getLsbD_and]
  by_cases h0 : i = 0
  · subst h0
    congr 1
    have e1 : (x >>> ((nI n).toInt64 &&& 63)).toBitVec.getLsbD 0 = x.toBitVec.getLsbD n := by
      rw [Int64.toBitVec_shiftRight]
      show (x.toBitVec.sshiftRight (((nI n).toInt64 &&& 63).toBitVec.smod 64).toNat).getLsbD 0 = _
      rw [cs_lb64 n hn, BitVec.getLsbD_sshiftRight]
      simp [show n < 64 by omega]
    have e2 : ((x.toUInt64 >>> ((nI n).toInt64.toUInt64 &&& Int64.toUInt64 63)).toInt64).toBitVec.getLsbD 0 = x.toBitVec.getLsbD n := by
      show (x.toUInt64 >>> ((nI n).toInt64.toUInt64 &&& Int64.toUInt64 63)).toBitVec.getLsbD 0 = x.toUInt64.toBitVec.getLsbD n
      rw [UInt64.toBitVec_shiftRight]
      show (x.toUInt64.toBitVec >>> (((nI n).toInt64.toUInt64 &&& Int64.toUInt64 63).toBitVec % 64).toNat).getLsbD 0 = _
      rw [cs_ub64 n hn, BitVec.getLsbD_ushiftRight, Nat.add_zero]
    rw [e1, e2]
  · have h1 : (1 : Int64).toBitVec.getLsbD i = false := (by decide +kernel : ∀ i, i < 64 → i ≠ 0 → (1 : Int64).toBitVec.getLsbD i = false) i hi h0
    rw [h1, Bool.and_false, Bool.and_false]
theorem cs_bt1 (v : Int32) (k : Nat) (hk : k < 32) (i : Nat) (hi : i < 32) : bt (cs_bit v (nI k)) i = (decide (i = 0) && bt v k) := by
  unfold cs_bit cs_ur
  rw [b_and, b_ushr k hk, (by decide +kernel : ∀ i, i < 32 → bt 1 i = decide (i = 0)) i hi]
  by_cases h0 : i = 0
  · subst h0; simp
  · simp [h0]
theorem cs_rv_b (v : Int32) : ∀ (k : Nat), k ≤ 32 → ∀ i, i < 32 → bt (cs_rv v k) i = (decide (i < k) && bt v (k - 1 - i))
  | 0, _, i, hi => by rw [cs_rv, b_0]; simp
  | k + 1, hk, i, hi => by
    rw [cs_rv, b_or, cs_bt1 v k (by omega) i hi]
    have e : bt (cs_rv v k <<< ((1 : Int32) &&& 31)) i = (decide (1 ≤ i) && bt (cs_rv v k) (i - 1)) := b_shl 1 (by omega) _ hi
    rw [e]
    rcases Nat.eq_zero_or_pos i with h0 | h0
    · subst h0; simp
    · rw [cs_rv_b v k (by omega) (i - 1) (by omega)]
      have h1 : ¬ i = 0 := by omega
      by_cases h2 : i < k + 1
      · simp [h1, h2, show 1 ≤ i by omega, show i - 1 < k by omega, show k - 1 - (i - 1) = k - i by omega]
      · simp [h1, h2, show ¬ i - 1 < k by omega]
theorem cs_sb : ∀ b, b ≤ 32 → ∀ k, k < b → nI b - 1 - nI k = nI (b - 1 - k) := by decide +kernel
theorem cs_rw_b (v : Int32) (b : Nat) (hb : b ≤ 32) : ∀ (k : Nat), k ≤ b → ∀ i, i < 32 → bt (cs_rw v (nI b) k) i = (decide (i < b) && decide (b - 1 - i < k) && bt v (b - 1 - i))
  | 0, _, i, hi => by rw [cs_rw, b_0]; simp
  | k + 1, hk, i, hi => by
    rw [cs_rw, b_or, cs_sb b hb k (by omega), cs_rw_b v b hb k (by omega) i hi, b_shl (b - 1 - k) (by omega) _ hi]
    by_cases h1 : b - 1 - k ≤ i
    · rw [cs_bt1 v k (by omega) _ (by omega)]
      by_cases h2 : i = b - 1 - k
      · simp [h2, show b - 1 - (b - 1 - k) = k by omega, show b - 1 - k < b by omega]
      · simp [h1, show ¬ i - (b - 1 - k) = 0 by omega]
        by_cases h3 : i < b
        · simp [h3, show b - 1 - i < k by omega, show b - 1 - i < k + 1 by omega]
        · simp [h3]
    · simp [h1, show ¬ b - 1 - i < k by omega, show ¬ b - 1 - i < k + 1 by omega]
theorem cs_rw_rv (v : Int32) (b : Nat) (hb : b ≤ 32) : cs_rw v (nI b) b = cs_rv v b := b_ext (fun i hi => by
  rw [cs_rw_b v b hb b (Nat.le_refl _) i hi, cs_rv_b v b hb i hi]
  by_cases h : i < b
  · simp [h, show b - 1 - i < b by omega]
  · simp [h])
def cs_tq (ri : Bool) (i : Nat) : Int32 := if ri = true then nI i else 7 - nI i
def cs_tz (w : Nat) (p : Int32) (ri : Bool) (v r : Int32) : Nat → Int32
  | 0 => r
  | i + 1 => cs_tb w p (cs_tz w p ri v r i) ((v >>> (cs_tq ri i &&& 31)) &&& 1)
theorem cs_tqT : ∀ b, b < 256 → ∀ i, i < 8 → (nI b >>> (nI i &&& 31)) &&& 1 = cs_bit (cs_rv (nI b) 8) (nI (7 - i)) := by decide +kernel
theorem cs_tqF : ∀ b, b < 256 → ∀ i, i < 8 → (nI b >>> ((7 - nI i) &&& 31)) &&& 1 = cs_bit (nI b) (nI (7 - i)) := by decide +kernel
theorem cs_tqE {ri : Bool} {b i : Nat} (hb : b < 256) (hi : i < 8) : (nI b >>> (cs_tq ri i &&& 31)) &&& 1 = cs_bit (cs_od ri (nI b)) (nI (7 - i)) := by
  cases ri
  · exact cs_tqF b hb i hi
  · exact cs_tqT b hb i hi
theorem cs_tz8 {w : Nat} {p : Int32} {ri : Bool} {b : Nat} {r : Int32} (hb : b < 256) : cs_tz w p ri (nI b) r 8 = cs_tk w p ri r (nI b) := by
  unfold cs_tk
  simp only [cs_tz, cs_ty, cs_tqE hb (show 0 < 8 by decide), cs_tqE hb (show 1 < 8 by decide), cs_tqE hb (show 2 < 8 by decide), cs_tqE hb (show 3 < 8 by decide), cs_tqE hb (show 4 < 8 by decide), cs_tqE hb (show 5 < 8 by decide), cs_tqE hb (show 6 < 8 by decide), cs_tqE hb (show 7 < 8 by decide)]
def cs_pl (S : cs_St) (v u : Int32) : Bool := cs_in v 0 3 && cs_in u 0 (nI (cs_ln S v.toNatClampNeg) - 1)
theorem cs_pl_r {S : cs_St} {r : Nat} {u : Int32} (hr : r < 4) : cs_pl S (nI r) u = cs_in u 0 (nI (cs_ln S r) - 1) := by
  unfold cs_pl
  rw [nI_clamp (by omega), show (3 : Int32) = nI 3 from rfl, cs_in_nI (by omega) (by omega), Bool.true_and]
def cs_fk (v : Int32) : Bool := decide (0 ≤ v) && decide (v / 256 < 255) && decide (cs_rem v 256 < 255)
def cs_ak (v : Int32) : Bool := decide (v &&& 65535 < 65521) && decide (cs_ur v 16 < 65521)
end
section
/-! what each call answers: k its exception's number, v its answer, s the state behind it -/
theorem cs_inW {A0 : Nat → Prop} {w : va_W} {H0 H : Heap} {locs : List Loc} (hD : va_D A0 w) (hS : va_S A0 H0 H locs) (hA : ∀ q, H0.size ≤ q → A0 q) : ∀ q, va_A w H.size q → A0 q := fun q h => by
  rcases h with ⟨k, e, h⟩ | h
  · exact hD.2 k (q, e) h
  · exact hA q (Nat.le_trans hS.1 h)
section CSP
variable {S : cs_St} {th : Int32} {bd : Nat → Nat} {cy : Nat → ClassId} {r l l' : Nat} {f : Nat → Nat}
theorem cs_put_ln : cs_ln (cs_put S r l f) r = l := va_up_self _ _ _
theorem cs_put_by : cs_by (cs_put S r l f) r = f := va_up_self _ _ _
theorem cs_put_lnN {k : Nat} (h : k ≠ r) : cs_ln (cs_put S r l f) k = cs_ln S k := va_up_ne _ _ h
theorem cs_put_byN {k : Nat} (h : k ≠ r) : cs_by (cs_put S r l f) k = cs_by S k := va_up_ne _ _ h
theorem cs_upup {α : Type} (g : Nat → α) (k : Nat) (x y : α) : va_up (va_up g k x) k y = va_up g k y := bx_uu g k x y
theorem cs_upid {α : Type} (g : Nat → α) (k : Nat) : va_up g k (g k) = g := funext fun j => by
  by_cases h : j = k
  · subst h; rw [va_up_self]
  · rw [va_up_ne _ _ h]
theorem cs_put_put {f' : Nat → Nat} : cs_put (cs_put S r l f) r l' f' = cs_put S r l' f' := by
  unfold cs_put
  rw [cs_upup, cs_upup]
theorem cs_put_id : cs_put S r (cs_ln S r) (cs_by S r) = S := by
  unfold cs_put cs_ln cs_by
  rw [cs_upid, cs_upid]
theorem cs_setB {j0 b : Nat} (hj : j0 < 256) : (cs_R S th bd cy).set 7 (bd 7, .inl (cy 0, 1024, .inl (upd (fun j => nI (cs_by S (j / 256) (j % 256))) (256 * r + j0) (nI b)))) = cs_R (cs_put S r (cs_ln S r) (va_up (cs_by S r) j0 b)) th bd cy := by
  have e1 : upd (fun j => nI (cs_by S (j / 256) (j % 256))) (256 * r + j0) (nI b) = fun j => nI (cs_by (cs_put S r (cs_ln S r) (va_up (cs_by S r) j0 b)) (j / 256) (j % 256)) := funext fun j => by
    by_cases h : j = 256 * r + j0
    · subst h
      rw [pk_us, show (256 * r + j0) / 256 = r by omega, show (256 * r + j0) % 256 = j0 by omega, cs_put_by, va_up_self]
    · rw [pk_un h]
      by_cases h2 : j / 256 = r
      · rw [h2, cs_put_by, va_up_ne _ _ (by omega)]
      · rw [cs_put_byN h2]
  have e2 : cs_ln (cs_put S r (cs_ln S r) (va_up (cs_by S r) j0 b)) = cs_ln S := cs_upid _ _
  rw [e1]
  unfold cs_R
  rw [e2]
  rfl
theorem cs_setL : (cs_R S th bd cy).set 8 (bd 8, .inl (cy 0, 4, .inl (upd (fun j => nI (cs_ln S j)) r (nI l)))) = cs_R (cs_put S r l (cs_by S r)) th bd cy := by
  have e1 : upd (fun j => nI (cs_ln S j)) r (nI l) = fun j => nI (cs_ln (cs_put S r l (cs_by S r)) j) := funext fun j => by
    by_cases h : j = r
    · subst h; rw [pk_us, cs_put_ln]
    · rw [pk_un h, cs_put_lnN h]
  have e2 : cs_by (cs_put S r l (cs_by S r)) = cs_by S := cs_upid _ _
  rw [e1]
  unfold cs_R
  rw [e2]
  rfl
end CSP
theorem cs_ok_put {S : cs_St} (hS : cs_ok S) {r l : Nat} {f : Nat → Nat} (hl : l ≤ 256) (hf : ∀ j, f j < 256) : cs_ok (cs_put S r l f) := by
  refine ⟨hS.1, hS.2.1, fun k => ?_, fun k j => ?_⟩
  · by_cases h : k = r
    · subst h; rw [cs_put_ln]; exact hl
    · rw [cs_put_lnN h]; exact hS.2.2.1 k
  · by_cases h : k = r
    · subst h; rw [cs_put_by]; exact hf j
    · rw [cs_put_byN h]; exact hS.2.2.2 k j
theorem cs_up_lt {f : Nat → Nat} (hf : ∀ j, f j < 256) {k b : Nat} (hb : b < 256) : ∀ j, va_up f k b j < 256 := fun j => by
  by_cases h : j = k
  · subst h; rw [va_up_self]; exact hb
  · rw [va_up_ne _ _ h]; exact hf j
def cs_c (v : Int32) : Nat := v.toNatClampNeg
theorem cs_cI {k : Nat} (h : k < 2 ^ 31) : cs_c (nI k) = k := nI_clamp h
def cs_M (S : cs_St) (m : Int32) : Bool := cs_in m 0 (nI (cs_n S) - 1)
def cs_nS (S : cs_St) (m v : Int32) : Bool := cs_nb v (nI (cs_w S (cs_c m)))
/-- define -/
def cs_bDef (a0 a1 a2 a5 : Int32) : Bool := cs_in a0 1 32 && cs_nb a1 a0 && cs_nb a2 a0 && cs_nb a5 a0
def cs_kDef (S : cs_St) (a0 a1 a2 a5 : Int32) : Int32 := cs_k2 (cs_bDef a0 a1 a2 a5) (decide (cs_n S < 6))
def cs_sDef (S : cs_St) (a0 a1 a2 : Int32) (a3 a4 : Bool) (a5 : Int32) : cs_St := if cs_kDef S a0 a1 a2 a5 = 0 then cs_def S (cs_c a0) a1 a2 a3 a4 a5 else S
/-- check -/
def cs_psS (S : cs_St) (m : Int32) (f : Nat → Nat) (a n : Nat) : Int32 := cs_so (cs_ro S (cs_c m)) (cs_w S (cs_c m)) (cs_ps (cs_w S (cs_c m)) (cs_p S (cs_c m)) (cs_ri S (cs_c m)) (cs_i S (cs_c m)) f a n) ^^^ cs_x S (cs_c m)
def cs_vChk (S : cs_St) (m : Int32) : Int32 := cs_psS S m (fun j => j) 49 9
/-- multiply -/
def cs_kMul (S : cs_St) (m a b : Int32) : Int32 := cs_k2 (cs_M S m) (cs_M S m && cs_nS S m a && cs_nS S m b)
def cs_vMul (S : cs_St) (m a b : Int32) : Int32 := cs_mul (cs_w S (cs_c m)) (cs_p S (cs_c m)) a b (cs_w S (cs_c m))
/-- power -/
def cs_kPow (S : cs_St) (m : Int32) (x : Int64) : Int32 := cs_k2 (cs_M S m) (decide (0 ≤ x))
def cs_vPow (S : cs_St) (m : Int32) (x : Int64) : Int32 := cs_pow (cs_w S (cs_c m)) (cs_p S (cs_c m)) x
/-- period -/
def cs_kPer (S : cs_St) (m a : Int32) : Int32 := cs_k2 (cs_M S m) (cs_in a 1 70000)
def cs_vPer (S : cs_St) (m a : Int32) : Int32 := cs_pe (cs_w S (cs_c m)) (cs_p S (cs_c m)) (cs_c a) 1 1
/-- append -/
def cs_kApp (S : cs_St) (r a : Int32) : Int32 := if cs_in r 0 3 = true then (if cs_in a 0 255 = true then (if cs_ln S (cs_c r) = 256 then 3 else 0) else 2) else 1
def cs_sApp (S : cs_St) (r a : Int32) : cs_St := if cs_kApp S r a = 0 then cs_put S (cs_c r) (cs_ln S (cs_c r) + 1) (va_up (cs_by S (cs_c r)) (cs_ln S (cs_c r)) (cs_c a)) else S
def cs_vApp (S : cs_St) (r : Int32) : Int32 := nI (cs_ln S (cs_c r) + 1)
/-- appendSeries -/
def cs_bSer (a b n : Int32) : Bool := cs_in a 0 255 && cs_in b 0 255 && cs_in n 1 256
def cs_kSer (S : cs_St) (r a b n : Int32) : Int32 := if cs_in r 0 3 = true then (if cs_bSer a b n = true then (if 256 < cs_ln S (cs_c r) + cs_c n then 3 else 0) else 2) else 1
/-- g put behind the first l of f, m of them -/
def cs_fil (f g : Nat → Nat) (l : Nat) : Nat → Nat → Nat
  | 0 => f
  | m + 1 => va_up (cs_fil f g l m) (l + m) (g m)
def cs_gSer (a b : Int32) (j : Nat) : Nat := (cs_c a + cs_c b * j) % 256
def cs_sSer (S : cs_St) (r a b n : Int32) : cs_St := if cs_kSer S r a b n = 0 then cs_put S (cs_c r) (cs_ln S (cs_c r) + cs_c n) (cs_fil (cs_by S (cs_c r)) (cs_gSer a b) (cs_ln S (cs_c r)) (cs_c n)) else S
def cs_vSer (S : cs_St) (r n : Int32) : Int32 := nI (cs_ln S (cs_c r) + cs_c n)
/-- appendRow -/
def cs_bRow (r q : Int32) : Bool := cs_in r 0 3 && cs_in q 0 3
def cs_kRow (S : cs_St) (r q : Int32) : Int32 := cs_k2 (cs_bRow r q) (cs_bRow r q && decide (cs_ln S (cs_c r) + cs_ln S (cs_c q) ≤ 256))
def cs_sRow (S : cs_St) (r q : Int32) : cs_St := if cs_kRow S r q = 0 then cs_put S (cs_c r) (cs_ln S (cs_c r) + cs_ln S (cs_c q)) (cs_fil (cs_by S (cs_c r)) (cs_by S (cs_c q)) (cs_ln S (cs_c r)) (cs_ln S (cs_c q))) else S
def cs_vRow (S : cs_St) (r q : Int32) : Int32 := nI (cs_ln S (cs_c r) + cs_ln S (cs_c q))
/-- setByte -/
def cs_kSet (S : cs_St) (r j a : Int32) : Int32 := cs_k2 (cs_pl S r j) (cs_in a 0 255)
def cs_sSet (S : cs_St) (r j a : Int32) : cs_St := if cs_kSet S r j a = 0 then cs_put S (cs_c r) (cs_ln S (cs_c r)) (va_up (cs_by S (cs_c r)) (cs_c j) (cs_c a)) else S
def cs_vByt (S : cs_St) (r j : Int32) : Int32 := nI (cs_by S (cs_c r) (cs_c j))
/-- truncate -/
def cs_kTru (S : cs_St) (r n : Int32) : Int32 := cs_k2 (cs_in r 0 3) (cs_in r 0 3 && cs_in n 0 (nI (cs_ln S (cs_c r))))
def cs_sTru (S : cs_St) (r n : Int32) : cs_St := if cs_kTru S r n = 0 then cs_put S (cs_c r) (cs_c n) (cs_by S (cs_c r)) else S
def cs_vTru (S : cs_St) (r n : Int32) : Int32 := nI (cs_ln S (cs_c r)) - n
/-- sum, sumOfPart, remainder -/
def cs_vSum (S : cs_St) (m r : Int32) : Int32 := cs_psS S m (cs_by S (cs_c r)) 0 (cs_ln S (cs_c r))
def cs_kPar (S : cs_St) (m r a b : Int32) : Int32 := cs_k1 (cs_M S m && cs_in r 0 3 && cs_in a 0 (nI (cs_ln S (cs_c r))) && cs_in b a (nI (cs_ln S (cs_c r))))
def cs_vPar (S : cs_St) (m r a b : Int32) : Int32 := cs_psS S m (cs_by S (cs_c r)) (cs_c a) (cs_c b - cs_c a)
def cs_vRem (S : cs_St) (m r : Int32) : Int32 := cs_rs (cs_w S (cs_c m)) (cs_p S (cs_c m)) (cs_by S (cs_c r)) (cs_ln S (cs_c r))
/-- joined, patched, wrongBit -/
def cs_kJoi (S : cs_St) (m a b n : Int32) : Int32 := cs_k2 (cs_M S m) (cs_M S m && cs_nS S m a && cs_nS S m b && decide (0 ≤ n))
def cs_reg (S : cs_St) (m a : Int32) : Int32 := cs_so (cs_ro S (cs_c m)) (cs_w S (cs_c m)) (a ^^^ cs_x S (cs_c m))
def cs_sum (S : cs_St) (m a : Int32) : Int32 := cs_so (cs_ro S (cs_c m)) (cs_w S (cs_c m)) a ^^^ cs_x S (cs_c m)
def cs_vJoi (S : cs_St) (m a b n : Int32) : Int32 := cs_sum S m (cs_reg S m b ^^^ cs_mul (cs_w S (cs_c m)) (cs_p S (cs_c m)) (cs_reg S m a ^^^ cs_i S (cs_c m)) (cs_pow (cs_w S (cs_c m)) (cs_p S (cs_c m)) (8 * n.toInt64)) (cs_w S (cs_c m)))
def cs_kPat (S : cs_St) (m a n d : Int32) : Int32 := cs_k2 (cs_M S m) (cs_M S m && cs_nS S m a && decide (0 ≤ n) && cs_in d 0 255)
def cs_vPat (S : cs_St) (m a n d : Int32) : Int32 := cs_sum S m (cs_reg S m a ^^^ cs_mul (cs_w S (cs_c m)) (cs_p S (cs_c m)) (cs_pow (cs_w S (cs_c m)) (cs_p S (cs_c m)) (8 * n.toInt64 + (nI (cs_w S (cs_c m))).toInt64)) (cs_od (cs_ri S (cs_c m)) d) 8)
def cs_kWro (S : cs_St) (m d n : Int32) : Int32 := cs_k2 (cs_M S m) (cs_M S m && cs_nS S m d && cs_in n 0 4000)
def cs_vWro (S : cs_St) (m d n : Int32) : Int32 := cs_wb (cs_w S (cs_c m)) (cs_p S (cs_c m)) (cs_so (cs_ro S (cs_c m)) (cs_w S (cs_c m)) d) (8 * cs_c n) (-1) (cs_p S (cs_c m))
/-- fletcher, adler -/
def cs_vFle (S : cs_St) (r : Int32) : Int32 := 256 * (cs_ra 255 0 (cs_by S (cs_c r)) (cs_ln S (cs_c r))).2 + (cs_ra 255 0 (cs_by S (cs_c r)) (cs_ln S (cs_c r))).1
def cs_kFlj (a b n : Int32) : Int32 := cs_k1 (cs_fk a && cs_fk b && decide (0 ≤ n))
def cs_vFlj (a b n : Int32) : Int32 := 256 * (cs_remL ((a / 256 + b / 256).toInt64 + n.toInt64 * (cs_rem a 256).toInt64) 255).toInt32 + cs_rem (cs_rem a 256 + cs_rem b 256) 255
def cs_vAdl (S : cs_St) (r : Int32) : Int32 := 65536 * (cs_ra 65521 1 (cs_by S (cs_c r)) (cs_ln S (cs_c r))).2 + (cs_ra 65521 1 (cs_by S (cs_c r)) (cs_ln S (cs_c r))).1
def cs_kAdj (a b n : Int32) : Int32 := cs_k1 (cs_ak a && cs_ak b && decide (0 ≤ n))
def cs_vAdj (a b n : Int32) : Int32 := cs_ad (((a &&& 65535) + (b &&& 65535)) - 1).toInt64 ((cs_ur a 16 + cs_ur b 16).toInt64 + n.toInt64 * ((a &&& 65535) - 1).toInt64)
def cs_kAdr (a n o i : Int32) : Int32 := cs_k1 (cs_ak a && decide (1 ≤ n) && cs_in o 0 255 && cs_in i 0 255)
def cs_vAdr (a n o i : Int32) : Int32 := cs_ad (((a &&& 65535) + i) - o).toInt64 ((((cs_ur a 16).toInt64 - n.toInt64 * o.toInt64) + (((a &&& 65535) + i) - o).toInt64) - 1)
theorem cs_k1_0 {b : Bool} : cs_k1 b = 0 ↔ b = true := by cases b <;> decide
theorem cs_k2_0 {b c : Bool} : cs_k2 b c = 0 ↔ (b && c) = true := by cases b <;> cases c <;> decide
theorem cs_and {b c : Bool} (h : (b && c) = true) : b = true ∧ c = true := by cases b <;> cases c <;> first | exact ⟨rfl, rfl⟩ | (exact absurd h (by decide))
theorem cs_in1_of {v : Int32} {n : Nat} (hn : n < 2 ^ 31) (h : cs_in v 1 (nI n) = true) : ∃ k, 1 ≤ k ∧ k ≤ n ∧ v = nI k := by
  have h1 := (cs_and h).1
  have h2 := (cs_and h).2
  rw [decide_eq_true_eq, Int32.le_iff_toInt_le] at h1
  have e1 : (1 : Int32).toInt = 1 := by decide
  have e0 : (0 : Int32).toInt = 0 := by decide
  have h4 : (0 : Int32) ≤ v := Int32.le_iff_toInt_le.mpr (by omega)
  obtain ⟨k, h3, rfl⟩ := cs_in_of (v := v) hn (by unfold cs_in; rw [h2, Bool.and_true]; exact decide_eq_true h4)
  rw [nI_toInt (by omega)] at h1
  exact ⟨k, by omega, h3, rfl⟩
theorem cs_serR {a b i : Nat} (ha : a < 256) (hb : b < 256) (hi : i < 256) : cs_rem (nI a + nI b * nI i) 256 = nI ((a + b * i) % 256) := by
  have h : b * i ≤ 255 * 255 := Nat.mul_le_mul (by omega) (by omega)
  rw [pk_mul, nI_add]
  exact pk_rem (by omega) (by decide) (by decide)
theorem cs_fil_lt {f g : Nat → Nat} (hf : ∀ j, f j < 256) (hg : ∀ j, g j < 256) (l : Nat) : ∀ m j, cs_fil f g l m j < 256
  | 0, j => hf j
  | m + 1, j => cs_up_lt (cs_fil_lt hf hg l m) (hg m) j
theorem cs_gSer_lt (a b : Int32) (j : Nat) : cs_gSer a b j < 256 := Nat.mod_lt _ (by decide)
theorem cs_pl_of {S : cs_St} (hS : cs_ok S) {v u : Int32} (h : cs_pl S v u = true) : ∃ r j, r < 4 ∧ j < cs_ln S r ∧ v = nI r ∧ u = nI j := by
  obtain ⟨h1, h2⟩ := cs_and h
  obtain ⟨r, hr, rfl⟩ := cs_row_of h1
  rw [nI_clamp (by omega)] at h2
  have hl := hS.2.2.1 r
  rcases Nat.eq_zero_or_pos (cs_ln S r) with h0 | h0
  · rw [h0] at h2
    obtain ⟨h3, h4⟩ := cs_and h2
    rw [decide_eq_true_eq, Int32.le_iff_toInt_le] at h3 h4
    have e2 : (nI 0 - 1).toInt = -1 := by decide
    have e3 : (0 : Int32).toInt = 0 := by decide
    omega
  · obtain ⟨n, hn⟩ : ∃ n, cs_ln S r = n + 1 := ⟨cs_ln S r - 1, by omega⟩
    rw [hn, nI_pred] at h2
    obtain ⟨j, h5, rfl⟩ := cs_in_of (by omega) h2
    exact ⟨r, j, hr, by omega, rfl, rfl⟩
theorem cs_in2_of {v : Int32} {a n : Nat} (ha : a < 2 ^ 31) (hn : n < 2 ^ 31) (h : cs_in v (nI a) (nI n) = true) : ∃ k, a ≤ k ∧ k ≤ n ∧ v = nI k := by
  have h1 := (cs_and h).1
  have h2 := (cs_and h).2
  rw [decide_eq_true_eq, Int32.le_iff_toInt_le, nI_toInt ha] at h1
  have e0 : (0 : Int32).toInt = 0 := by decide
  have h4 : (0 : Int32) ≤ v := Int32.le_iff_toInt_le.mpr (by omega)
  obtain ⟨k, h3, rfl⟩ := cs_in_of (v := v) hn (by unfold cs_in; rw [h2, Bool.and_true]; exact decide_eq_true h4)
  rw [nI_toInt (by omega)] at h1
  exact ⟨k, by omega, h3, rfl⟩
theorem cs_rmB : ∀ b, b < 256 → ∀ i, i < 8 → (nI b >>> ((7 - nI i) &&& 31)) &&& 1 = cs_bit (nI b) (nI (7 - i)) := cs_tqF
theorem cs_rm_rs {w : Nat} {p : Int32} {f : Nat → Nat} (hf : ∀ j, f j < 256) : ∀ n, cs_rm w p f (8 * n) = cs_rs w p f n
  | 0 => rfl
  | n + 1 => by
    have h : ∀ i, i < 8 → ((nI (f ((8 * n + i) / 8)) >>> ((7 - nI ((8 * n + i) % 8)) &&& 31)) &&& 1) = cs_bit (nI (f n)) (nI (7 - i)) := fun i hi => by
      rw [show (8 * n + i) / 8 = n by omega, show (8 * n + i) % 8 = i by omega]
      exact cs_rmB _ (hf n) i hi
    have h0 := h 0 (by decide)
    have h1 := h 1 (by decide)
    have h2 := h 2 (by decide)
    have h3 := h 3 (by decide)
    have h4 := h 4 (by decide)
    have h5 := h 5 (by decide)
    have h6 := h 6 (by decide)
    have h7 := h 7 (by decide)
    rw [Nat.add_zero] at h0
    rw [cs_rs, ← cs_rm_rs hf n, show 8 * (n + 1) = 8 * n + 7 + 1 from rfl]
    simp only [cs_rm, cs_dv, h0, h1, h2, h3, h4, h5, h6, h7]
end
section
theorem dX0_init_0 : decode cX0_init 0 = .ok (.aload_n 0, 1) := by decide +kernel
theorem dX0_init_1 : decode cX0_init 1 = .ok (.invokespecial 3, 3) := by decide +kernel
theorem dX0_init_4 : decode cX0_init 4 = .ok (.aload_n 0, 1) := by decide +kernel
theorem dX0_init_5 : decode cX0_init 5 = .ok (.iload_n 1, 1) := by decide +kernel
theorem dX0_init_6 : decode cX0_init 6 = .ok (.putfield 9, 3) := by decide +kernel
theorem dX0_init_9 : decode cX0_init 9 = .ok (.aload_n 0, 1) := by decide +kernel
theorem dX0_init_10 : decode cX0_init 10 = .ok (.iload_n 2, 1) := by decide +kernel
theorem dX0_init_11 : decode cX0_init 11 = .ok (.putfield 15, 3) := by decide +kernel
theorem dX0_init_14 : decode cX0_init 14 = .ok (.aload_n 0, 1) := by decide +kernel
theorem dX0_init_15 : decode cX0_init 15 = .ok (.iload_n 3, 1) := by decide +kernel
theorem dX0_init_16 : decode cX0_init 16 = .ok (.putfield 18, 3) := by decide +kernel
theorem dX0_init_19 : decode cX0_init 19 = .ok (.aload_n 0, 1) := by decide +kernel
theorem dX0_init_20 : decode cX0_init 20 = .ok (.iload 4, 2) := by decide +kernel
theorem dX0_init_22 : decode cX0_init 22 = .ok (.putfield 21, 3) := by decide +kernel
theorem dX0_init_25 : decode cX0_init 25 = .ok (.aload_n 0, 1) := by decide +kernel
theorem dX0_init_26 : decode cX0_init 26 = .ok (.iload 5, 2) := by decide +kernel
theorem dX0_init_28 : decode cX0_init 28 = .ok (.putfield 25, 3) := by decide +kernel
theorem dX0_init_31 : decode cX0_init 31 = .ok (.aload_n 0, 1) := by decide +kernel
theorem dX0_init_32 : decode cX0_init 32 = .ok (.iload 6, 2) := by decide +kernel
theorem dX0_init_34 : decode cX0_init 34 = .ok (.putfield 28, 3) := by decide +kernel
theorem dX0_init_37 : decode cX0_init 37 = .ok (.aload_n 0, 1) := by decide +kernel
theorem dX0_init_38 : decode cX0_init 38 = .ok (.iconst (-1), 1) := by decide +kernel
theorem dX0_init_39 : decode cX0_init 39 = .ok (.bipush 32, 2) := by decide +kernel
theorem dX0_init_41 : decode cX0_init 41 = .ok (.iload_n 1, 1) := by decide +kernel
theorem dX0_init_42 : decode cX0_init 42 = .ok (.isub, 1) := by decide +kernel
theorem dX0_init_43 : decode cX0_init 43 = .ok (.iushr, 1) := by decide +kernel
theorem dX0_init_44 : decode cX0_init 44 = .ok (.putfield 31, 3) := by decide +kernel
theorem dX0_init_47 : decode cX0_init 47 = .ok (.aload_n 0, 1) := by decide +kernel
theorem dX0_init_48 : decode cX0_init 48 = .ok (.iconst 1, 1) := by decide +kernel
theorem dX0_init_49 : decode cX0_init 49 = .ok (.iload_n 1, 1) := by decide +kernel
theorem dX0_init_50 : decode cX0_init 50 = .ok (.iconst 1, 1) := by decide +kernel
theorem dX0_init_51 : decode cX0_init 51 = .ok (.isub, 1) := by decide +kernel
theorem dX0_init_52 : decode cX0_init 52 = .ok (.ishl, 1) := by decide +kernel
theorem dX0_init_53 : decode cX0_init 53 = .ok (.putfield 34, 3) := by decide +kernel
theorem dX0_init_56 : decode cX0_init 56 = .ok (.return_, 1) := by decide +kernel
theorem dX0_timesX_0 : decode cX0_timesX 0 = .ok (.iload_n 1, 1) := by decide +kernel
theorem dX0_timesX_1 : decode cX0_timesX 1 = .ok (.iconst 1, 1) := by decide +kernel
theorem dX0_timesX_2 : decode cX0_timesX 2 = .ok (.ishl, 1) := by decide +kernel
theorem dX0_timesX_3 : decode cX0_timesX 3 = .ok (.aload_n 0, 1) := by decide +kernel
theorem dX0_timesX_4 : decode cX0_timesX 4 = .ok (.getfield 31, 3) := by decide +kernel
theorem dX0_timesX_7 : decode cX0_timesX 7 = .ok (.iand, 1) := by decide +kernel
theorem dX0_timesX_8 : decode cX0_timesX 8 = .ok (.istore_n 2, 1) := by decide +kernel
theorem dX0_timesX_9 : decode cX0_timesX 9 = .ok (.iload_n 1, 1) := by decide +kernel
theorem dX0_timesX_10 : decode cX0_timesX 10 = .ok (.aload_n 0, 1) := by decide +kernel
theorem dX0_timesX_11 : decode cX0_timesX 11 = .ok (.getfield 34, 3) := by decide +kernel
theorem dX0_timesX_14 : decode cX0_timesX 14 = .ok (.iand, 1) := by decide +kernel
theorem dX0_timesX_15 : decode cX0_timesX 15 = .ok (.ifCond .eq 12, 3) := by decide +kernel
theorem dX0_timesX_18 : decode cX0_timesX 18 = .ok (.iload_n 2, 1) := by decide +kernel
theorem dX0_timesX_19 : decode cX0_timesX 19 = .ok (.aload_n 0, 1) := by decide +kernel
theorem dX0_timesX_20 : decode cX0_timesX 20 = .ok (.getfield 15, 3) := by decide +kernel
theorem dX0_timesX_23 : decode cX0_timesX 23 = .ok (.ixor, 1) := by decide +kernel
theorem dX0_timesX_24 : decode cX0_timesX 24 = .ok (.goto 4, 3) := by decide +kernel
theorem dX0_timesX_27 : decode cX0_timesX 27 = .ok (.iload_n 2, 1) := by decide +kernel
theorem dX0_timesX_28 : decode cX0_timesX 28 = .ok (.ireturn, 1) := by decide +kernel
set_option maxRecDepth 20000 in
theorem ggX0_product_X0_timesX : GoodIn wsX0_product wsX0_timesX := goodIn_r _ [6, 7, 8, 9, 10, 11, 12, 13, 14, 15, 16, 17] (by decide +kernel) (by decide +kernel)
set_option maxRecDepth 20000 in
theorem gX0_product_X0_timesX : GoodIn wsX0_product (wsV RX0 37 RX0 yX0_timesX wsX0_timesX) := goodIn_app (goodIn_of _ (by decide +kernel)) ggX0_product_X0_timesX
theorem dX0_product_0 : decode cX0_product 0 = .ok (.iconst 0, 1) := by decide +kernel
theorem dX0_product_1 : decode cX0_product 1 = .ok (.istore_n 3, 1) := by decide +kernel
theorem dX0_product_2 : decode cX0_product 2 = .ok (.aload_n 0, 1) := by decide +kernel
theorem dX0_product_3 : decode cX0_product 3 = .ok (.getfield 9, 3) := by decide +kernel
theorem dX0_product_6 : decode cX0_product 6 = .ok (.iconst 1, 1) := by decide +kernel
theorem dX0_product_7 : decode cX0_product 7 = .ok (.isub, 1) := by decide +kernel
theorem dX0_product_8 : decode cX0_product 8 = .ok (.istore 4, 2) := by decide +kernel
theorem dX0_product_10 : decode cX0_product 10 = .ok (.iload 4, 2) := by decide +kernel
theorem dX0_product_12 : decode cX0_product 12 = .ok (.ifCond .lt 29, 3) := by decide +kernel
theorem dX0_product_15 : decode cX0_product 15 = .ok (.aload_n 0, 1) := by decide +kernel
theorem dX0_product_16 : decode cX0_product 16 = .ok (.iload_n 3, 1) := by decide +kernel
theorem dX0_product_17 : decode cX0_product 17 = .ok (.invokevirtual 37, 3) := by decide +kernel
theorem dX0_product_20 : decode cX0_product 20 = .ok (.istore_n 3, 1) := by decide +kernel
theorem dX0_product_21 : decode cX0_product 21 = .ok (.iload_n 2, 1) := by decide +kernel
theorem dX0_product_22 : decode cX0_product 22 = .ok (.iload 4, 2) := by decide +kernel
theorem dX0_product_24 : decode cX0_product 24 = .ok (.iushr, 1) := by decide +kernel
theorem dX0_product_25 : decode cX0_product 25 = .ok (.iconst 1, 1) := by decide +kernel
theorem dX0_product_26 : decode cX0_product 26 = .ok (.iand, 1) := by decide +kernel
theorem dX0_product_27 : decode cX0_product 27 = .ok (.iconst 1, 1) := by decide +kernel
theorem dX0_product_28 : decode cX0_product 28 = .ok (.if_icmp .ne 7, 3) := by decide +kernel
theorem dX0_product_31 : decode cX0_product 31 = .ok (.iload_n 3, 1) := by decide +kernel
theorem dX0_product_32 : decode cX0_product 32 = .ok (.iload_n 1, 1) := by decide +kernel
theorem dX0_product_33 : decode cX0_product 33 = .ok (.ixor, 1) := by decide +kernel
theorem dX0_product_34 : decode cX0_product 34 = .ok (.istore_n 3, 1) := by decide +kernel
theorem dX0_product_35 : decode cX0_product 35 = .ok (.iinc 4 (-1), 3) := by decide +kernel
theorem dX0_product_38 : decode cX0_product 38 = .ok (.goto (-28), 3) := by decide +kernel
theorem dX0_product_41 : decode cX0_product 41 = .ok (.iload_n 3, 1) := by decide +kernel
theorem dX0_product_42 : decode cX0_product 42 = .ok (.ireturn, 1) := by decide +kernel
set_option maxRecDepth 20000 in
theorem ggX0_powerOfX_X0_product : GoodIn wsX0_powerOfX wsX0_product := goodIn_r _ [5, 6, 7, 8, 9, 4, 10, 11, 12, 13, 14, 15, 16, 17, 18, 19, 20, 21] (by decide +kernel) (by decide +kernel)
set_option maxRecDepth 20000 in
theorem gX0_powerOfX_X0_product : GoodIn wsX0_powerOfX (wsV RX0 41 RX0 yX0_product wsX0_product) := goodIn_app (goodIn_of _ (by decide +kernel)) ggX0_powerOfX_X0_product
set_option maxRecDepth 20000 in
theorem ggX0_powerOfX_X0_timesX : GoodIn wsX0_powerOfX wsX0_timesX := goodIn_r _ [10, 11, 12, 13, 14, 15, 16, 17, 18, 19, 20, 21] (by decide +kernel) (by decide +kernel)
set_option maxRecDepth 20000 in
theorem gX0_powerOfX_X0_timesX : GoodIn wsX0_powerOfX (wsV RX0 37 RX0 yX0_timesX wsX0_timesX) := goodIn_app (goodIn_of _ (by decide +kernel)) ggX0_powerOfX_X0_timesX
theorem dX0_powerOfX_0 : decode cX0_powerOfX 0 = .ok (.iconst 1, 1) := by decide +kernel
theorem dX0_powerOfX_1 : decode cX0_powerOfX 1 = .ok (.istore_n 3, 1) := by decide +kernel
theorem dX0_powerOfX_2 : decode cX0_powerOfX 2 = .ok (.bipush 62, 2) := by decide +kernel
theorem dX0_powerOfX_4 : decode cX0_powerOfX 4 = .ok (.istore 4, 2) := by decide +kernel
theorem dX0_powerOfX_6 : decode cX0_powerOfX 6 = .ok (.iload 4, 2) := by decide +kernel
theorem dX0_powerOfX_8 : decode cX0_powerOfX 8 = .ok (.ifCond .lt 33, 3) := by decide +kernel
theorem dX0_powerOfX_11 : decode cX0_powerOfX 11 = .ok (.aload_n 0, 1) := by decide +kernel
theorem dX0_powerOfX_12 : decode cX0_powerOfX 12 = .ok (.iload_n 3, 1) := by decide +kernel
theorem dX0_powerOfX_13 : decode cX0_powerOfX 13 = .ok (.iload_n 3, 1) := by decide +kernel
theorem dX0_powerOfX_14 : decode cX0_powerOfX 14 = .ok (.invokevirtual 41, 3) := by decide +kernel
theorem dX0_powerOfX_17 : decode cX0_powerOfX 17 = .ok (.istore_n 3, 1) := by decide +kernel
theorem dX0_powerOfX_18 : decode cX0_powerOfX 18 = .ok (.lload_n 1, 1) := by decide +kernel
theorem dX0_powerOfX_19 : decode cX0_powerOfX 19 = .ok (.iload 4, 2) := by decide +kernel
theorem dX0_powerOfX_21 : decode cX0_powerOfX 21 = .ok (.lushr, 1) := by decide +kernel
theorem dX0_powerOfX_22 : decode cX0_powerOfX 22 = .ok (.lconst 1, 1) := by decide +kernel
theorem dX0_powerOfX_23 : decode cX0_powerOfX 23 = .ok (.land, 1) := by decide +kernel
theorem dX0_powerOfX_24 : decode cX0_powerOfX 24 = .ok (.lconst 1, 1) := by decide +kernel
theorem dX0_powerOfX_25 : decode cX0_powerOfX 25 = .ok (.lcmp, 1) := by decide +kernel
theorem dX0_powerOfX_26 : decode cX0_powerOfX 26 = .ok (.ifCond .ne 9, 3) := by decide +kernel
theorem dX0_powerOfX_29 : decode cX0_powerOfX 29 = .ok (.aload_n 0, 1) := by decide +kernel
theorem dX0_powerOfX_30 : decode cX0_powerOfX 30 = .ok (.iload_n 3, 1) := by decide +kernel
theorem dX0_powerOfX_31 : decode cX0_powerOfX 31 = .ok (.invokevirtual 37, 3) := by decide +kernel
theorem dX0_powerOfX_34 : decode cX0_powerOfX 34 = .ok (.istore_n 3, 1) := by decide +kernel
theorem dX0_powerOfX_35 : decode cX0_powerOfX 35 = .ok (.iinc 4 (-1), 3) := by decide +kernel
theorem dX0_powerOfX_38 : decode cX0_powerOfX 38 = .ok (.goto (-32), 3) := by decide +kernel
theorem dX0_powerOfX_41 : decode cX0_powerOfX 41 = .ok (.iload_n 3, 1) := by decide +kernel
theorem dX0_powerOfX_42 : decode cX0_powerOfX 42 = .ok (.ireturn, 1) := by decide +kernel
set_option maxRecDepth 20000 in
theorem ggX0_takeBit_X0_timesX : GoodIn wsX0_takeBit wsX0_timesX := goodIn_r _ [6, 7, 8, 9, 10, 11, 12, 13, 14, 15, 16, 17] (by decide +kernel) (by decide +kernel)
set_option maxRecDepth 20000 in
theorem gX0_takeBit_X0_timesX : GoodIn wsX0_takeBit (wsV RX0 37 RX0 yX0_timesX wsX0_timesX) := goodIn_app (goodIn_of _ (by decide +kernel)) ggX0_takeBit_X0_timesX
theorem dX0_takeBit_0 : decode cX0_takeBit 0 = .ok (.aload_n 0, 1) := by decide +kernel
theorem dX0_takeBit_1 : decode cX0_takeBit 1 = .ok (.iload_n 1, 1) := by decide +kernel
theorem dX0_takeBit_2 : decode cX0_takeBit 2 = .ok (.iload_n 2, 1) := by decide +kernel
theorem dX0_takeBit_3 : decode cX0_takeBit 3 = .ok (.aload_n 0, 1) := by decide +kernel
theorem dX0_takeBit_4 : decode cX0_takeBit 4 = .ok (.getfield 9, 3) := by decide +kernel
theorem dX0_takeBit_7 : decode cX0_takeBit 7 = .ok (.iconst 1, 1) := by decide +kernel
theorem dX0_takeBit_8 : decode cX0_takeBit 8 = .ok (.isub, 1) := by decide +kernel
theorem dX0_takeBit_9 : decode cX0_takeBit 9 = .ok (.ishl, 1) := by decide +kernel
theorem dX0_takeBit_10 : decode cX0_takeBit 10 = .ok (.ixor, 1) := by decide +kernel
theorem dX0_takeBit_11 : decode cX0_takeBit 11 = .ok (.invokevirtual 37, 3) := by decide +kernel
theorem dX0_takeBit_14 : decode cX0_takeBit 14 = .ok (.ireturn, 1) := by decide +kernel
set_option maxRecDepth 20000 in
theorem ggX0_takeByte_X0_inTakenOrder : GoodIn wsX0_takeByte wsX0_inTakenOrder := goodIn_r _ [5, 6, 7, 8, 9, 22, 23, 24, 25, 26, 27, 28, 29] (by decide +kernel) (by decide +kernel)
set_option maxRecDepth 20000 in
theorem gX0_takeByte_X0_inTakenOrder : GoodIn wsX0_takeByte (wsV RX0 45 RX0 yX0_inTakenOrder wsX0_inTakenOrder) := goodIn_app (goodIn_of _ (by decide +kernel)) ggX0_takeByte_X0_inTakenOrder
set_option maxRecDepth 20000 in
theorem ggX0_takeByte_X0_takeBit : GoodIn wsX0_takeByte wsX0_takeBit := goodIn_r _ [13, 14, 15, 16, 17, 4, 18, 19, 20, 21, 22, 23, 24, 25, 26, 27, 28, 29] (by decide +kernel) (by decide +kernel)
set_option maxRecDepth 20000 in
theorem gX0_takeByte_X0_takeBit : GoodIn wsX0_takeByte (wsV RX0 48 RX0 yX0_takeBit wsX0_takeBit) := goodIn_app (goodIn_of _ (by decide +kernel)) ggX0_takeByte_X0_takeBit
theorem dX0_takeByte_0 : decode cX0_takeByte 0 = .ok (.aload_n 0, 1) := by decide +kernel
theorem dX0_takeByte_1 : decode cX0_takeByte 1 = .ok (.iload_n 2, 1) := by decide +kernel
theorem dX0_takeByte_2 : decode cX0_takeByte 2 = .ok (.invokevirtual 45, 3) := by decide +kernel
theorem dX0_takeByte_5 : decode cX0_takeByte 5 = .ok (.istore_n 3, 1) := by decide +kernel
theorem dX0_takeByte_6 : decode cX0_takeByte 6 = .ok (.iload_n 1, 1) := by decide +kernel
theorem dX0_takeByte_7 : decode cX0_takeByte 7 = .ok (.istore 4, 2) := by decide +kernel
theorem dX0_takeByte_9 : decode cX0_takeByte 9 = .ok (.bipush 7, 2) := by decide +kernel
theorem dX0_takeByte_11 : decode cX0_takeByte 11 = .ok (.istore 5, 2) := by decide +kernel
theorem dX0_takeByte_13 : decode cX0_takeByte 13 = .ok (.iload 5, 2) := by decide +kernel
theorem dX0_takeByte_15 : decode cX0_takeByte 15 = .ok (.ifCond .lt 23, 3) := by decide +kernel
theorem dX0_takeByte_18 : decode cX0_takeByte 18 = .ok (.aload_n 0, 1) := by decide +kernel
theorem dX0_takeByte_19 : decode cX0_takeByte 19 = .ok (.iload 4, 2) := by decide +kernel
theorem dX0_takeByte_21 : decode cX0_takeByte 21 = .ok (.iload_n 3, 1) := by decide +kernel
theorem dX0_takeByte_22 : decode cX0_takeByte 22 = .ok (.iload 5, 2) := by decide +kernel
theorem dX0_takeByte_24 : decode cX0_takeByte 24 = .ok (.iushr, 1) := by decide +kernel
theorem dX0_takeByte_25 : decode cX0_takeByte 25 = .ok (.iconst 1, 1) := by decide +kernel
theorem dX0_takeByte_26 : decode cX0_takeByte 26 = .ok (.iand, 1) := by decide +kernel
theorem dX0_takeByte_27 : decode cX0_takeByte 27 = .ok (.invokevirtual 48, 3) := by decide +kernel
theorem dX0_takeByte_30 : decode cX0_takeByte 30 = .ok (.istore 4, 2) := by decide +kernel
theorem dX0_takeByte_32 : decode cX0_takeByte 32 = .ok (.iinc 5 (-1), 3) := by decide +kernel
theorem dX0_takeByte_35 : decode cX0_takeByte 35 = .ok (.goto (-22), 3) := by decide +kernel
theorem dX0_takeByte_38 : decode cX0_takeByte 38 = .ok (.iload 4, 2) := by decide +kernel
theorem dX0_takeByte_40 : decode cX0_takeByte 40 = .ok (.ireturn, 1) := by decide +kernel
set_option maxRecDepth 20000 in
theorem ggX0_divideByte_X0_timesX : GoodIn wsX0_divideByte wsX0_timesX := goodIn_r _ [5, 6, 7, 8, 9, 10, 11, 12, 13, 14, 15, 16] (by decide +kernel) (by decide +kernel)
set_option maxRecDepth 20000 in
theorem gX0_divideByte_X0_timesX : GoodIn wsX0_divideByte (wsV RX0 37 RX0 yX0_timesX wsX0_timesX) := goodIn_app (goodIn_of _ (by decide +kernel)) ggX0_divideByte_X0_timesX
theorem dX0_divideByte_0 : decode cX0_divideByte 0 = .ok (.iload_n 1, 1) := by decide +kernel
theorem dX0_divideByte_1 : decode cX0_divideByte 1 = .ok (.istore_n 3, 1) := by decide +kernel
theorem dX0_divideByte_2 : decode cX0_divideByte 2 = .ok (.bipush 7, 2) := by decide +kernel
theorem dX0_divideByte_4 : decode cX0_divideByte 4 = .ok (.istore 4, 2) := by decide +kernel
theorem dX0_divideByte_6 : decode cX0_divideByte 6 = .ok (.iload 4, 2) := by decide +kernel
theorem dX0_divideByte_8 : decode cX0_divideByte 8 = .ok (.ifCond .lt 22, 3) := by decide +kernel
theorem dX0_divideByte_11 : decode cX0_divideByte 11 = .ok (.aload_n 0, 1) := by decide +kernel
theorem dX0_divideByte_12 : decode cX0_divideByte 12 = .ok (.iload_n 3, 1) := by decide +kernel
theorem dX0_divideByte_13 : decode cX0_divideByte 13 = .ok (.invokevirtual 37, 3) := by decide +kernel
theorem dX0_divideByte_16 : decode cX0_divideByte 16 = .ok (.iload_n 2, 1) := by decide +kernel
theorem dX0_divideByte_17 : decode cX0_divideByte 17 = .ok (.iload 4, 2) := by decide +kernel
theorem dX0_divideByte_19 : decode cX0_divideByte 19 = .ok (.iushr, 1) := by decide +kernel
theorem dX0_divideByte_20 : decode cX0_divideByte 20 = .ok (.iconst 1, 1) := by decide +kernel
theorem dX0_divideByte_21 : decode cX0_divideByte 21 = .ok (.iand, 1) := by decide +kernel
theorem dX0_divideByte_22 : decode cX0_divideByte 22 = .ok (.ixor, 1) := by decide +kernel
theorem dX0_divideByte_23 : decode cX0_divideByte 23 = .ok (.istore_n 3, 1) := by decide +kernel
theorem dX0_divideByte_24 : decode cX0_divideByte 24 = .ok (.iinc 4 (-1), 3) := by decide +kernel
theorem dX0_divideByte_27 : decode cX0_divideByte 27 = .ok (.goto (-21), 3) := by decide +kernel
theorem dX0_divideByte_30 : decode cX0_divideByte 30 = .ok (.iload_n 3, 1) := by decide +kernel
theorem dX0_divideByte_31 : decode cX0_divideByte 31 = .ok (.ireturn, 1) := by decide +kernel
set_option maxRecDepth 20000 in
theorem ggX0_inTakenOrder_X1_reversed : GoodIn wsX0_inTakenOrder wsX1_reversed := goodIn_r _ [4] (by decide +kernel) (by decide +kernel)
set_option maxRecDepth 20000 in
theorem gX0_inTakenOrder_X1_reversed_n51 : GoodIn wsX0_inTakenOrder (wsX1_reversed) := ggX0_inTakenOrder_X1_reversed
theorem dX0_inTakenOrder_0 : decode cX0_inTakenOrder 0 = .ok (.aload_n 0, 1) := by decide +kernel
theorem dX0_inTakenOrder_1 : decode cX0_inTakenOrder 1 = .ok (.getfield 21, 3) := by decide +kernel
theorem dX0_inTakenOrder_4 : decode cX0_inTakenOrder 4 = .ok (.ifCond .eq 12, 3) := by decide +kernel
theorem dX0_inTakenOrder_7 : decode cX0_inTakenOrder 7 = .ok (.iload_n 1, 1) := by decide +kernel
theorem dX0_inTakenOrder_8 : decode cX0_inTakenOrder 8 = .ok (.bipush 8, 2) := by decide +kernel
theorem dX0_inTakenOrder_10 : decode cX0_inTakenOrder 10 = .ok (.invokestatic 51, 3) := by decide +kernel
theorem dX0_inTakenOrder_13 : decode cX0_inTakenOrder 13 = .ok (.goto 4, 3) := by decide +kernel
theorem dX0_inTakenOrder_16 : decode cX0_inTakenOrder 16 = .ok (.iload_n 1, 1) := by decide +kernel
theorem dX0_inTakenOrder_17 : decode cX0_inTakenOrder 17 = .ok (.ireturn, 1) := by decide +kernel
set_option maxRecDepth 20000 in
theorem ggX0_inSumOrder_X1_reversed : GoodIn wsX0_inSumOrder wsX1_reversed := goodIn_r _ [5] (by decide +kernel) (by decide +kernel)
set_option maxRecDepth 20000 in
theorem gX0_inSumOrder_X1_reversed_n51 : GoodIn wsX0_inSumOrder (wsX1_reversed) := ggX0_inSumOrder_X1_reversed
theorem dX0_inSumOrder_0 : decode cX0_inSumOrder 0 = .ok (.aload_n 0, 1) := by decide +kernel
theorem dX0_inSumOrder_1 : decode cX0_inSumOrder 1 = .ok (.getfield 25, 3) := by decide +kernel
theorem dX0_inSumOrder_4 : decode cX0_inSumOrder 4 = .ok (.ifCond .eq 14, 3) := by decide +kernel
theorem dX0_inSumOrder_7 : decode cX0_inSumOrder 7 = .ok (.iload_n 1, 1) := by decide +kernel
theorem dX0_inSumOrder_8 : decode cX0_inSumOrder 8 = .ok (.aload_n 0, 1) := by decide +kernel
theorem dX0_inSumOrder_9 : decode cX0_inSumOrder 9 = .ok (.getfield 9, 3) := by decide +kernel
theorem dX0_inSumOrder_12 : decode cX0_inSumOrder 12 = .ok (.invokestatic 51, 3) := by decide +kernel
theorem dX0_inSumOrder_15 : decode cX0_inSumOrder 15 = .ok (.goto 4, 3) := by decide +kernel
theorem dX0_inSumOrder_18 : decode cX0_inSumOrder 18 = .ok (.iload_n 1, 1) := by decide +kernel
theorem dX0_inSumOrder_19 : decode cX0_inSumOrder 19 = .ok (.ireturn, 1) := by decide +kernel
set_option maxRecDepth 20000 in
theorem ggX0_sumOfRegister_X0_inSumOrder : GoodIn wsX0_sumOfRegister wsX0_inSumOrder := goodIn_r _ [6, 7, 8, 9, 10, 11, 12, 13, 14, 15, 16, 17, 18, 19] (by decide +kernel) (by decide +kernel)
set_option maxRecDepth 20000 in
theorem gX0_sumOfRegister_X0_inSumOrder : GoodIn wsX0_sumOfRegister (wsV RX0 54 RX0 yX0_inSumOrder wsX0_inSumOrder) := goodIn_app (goodIn_of _ (by decide +kernel)) ggX0_sumOfRegister_X0_inSumOrder
theorem dX0_sumOfRegister_0 : decode cX0_sumOfRegister 0 = .ok (.aload_n 0, 1) := by decide +kernel
theorem dX0_sumOfRegister_1 : decode cX0_sumOfRegister 1 = .ok (.iload_n 1, 1) := by decide +kernel
theorem dX0_sumOfRegister_2 : decode cX0_sumOfRegister 2 = .ok (.invokevirtual 54, 3) := by decide +kernel
theorem dX0_sumOfRegister_5 : decode cX0_sumOfRegister 5 = .ok (.aload_n 0, 1) := by decide +kernel
theorem dX0_sumOfRegister_6 : decode cX0_sumOfRegister 6 = .ok (.getfield 28, 3) := by decide +kernel
theorem dX0_sumOfRegister_9 : decode cX0_sumOfRegister 9 = .ok (.ixor, 1) := by decide +kernel
theorem dX0_sumOfRegister_10 : decode cX0_sumOfRegister 10 = .ok (.ireturn, 1) := by decide +kernel
set_option maxRecDepth 20000 in
theorem ggX0_registerOfSum_X0_inSumOrder : GoodIn wsX0_registerOfSum wsX0_inSumOrder := goodIn_r _ [6, 7, 8, 9, 10, 11, 12, 13, 14, 15, 16, 17, 18, 19] (by decide +kernel) (by decide +kernel)
set_option maxRecDepth 20000 in
theorem gX0_registerOfSum_X0_inSumOrder : GoodIn wsX0_registerOfSum (wsV RX0 54 RX0 yX0_inSumOrder wsX0_inSumOrder) := goodIn_app (goodIn_of _ (by decide +kernel)) ggX0_registerOfSum_X0_inSumOrder
theorem dX0_registerOfSum_0 : decode cX0_registerOfSum 0 = .ok (.aload_n 0, 1) := by decide +kernel
theorem dX0_registerOfSum_1 : decode cX0_registerOfSum 1 = .ok (.iload_n 1, 1) := by decide +kernel
theorem dX0_registerOfSum_2 : decode cX0_registerOfSum 2 = .ok (.aload_n 0, 1) := by decide +kernel
theorem dX0_registerOfSum_3 : decode cX0_registerOfSum 3 = .ok (.getfield 28, 3) := by decide +kernel
theorem dX0_registerOfSum_6 : decode cX0_registerOfSum 6 = .ok (.ixor, 1) := by decide +kernel
theorem dX0_registerOfSum_7 : decode cX0_registerOfSum 7 = .ok (.invokevirtual 54, 3) := by decide +kernel
theorem dX0_registerOfSum_10 : decode cX0_registerOfSum 10 = .ok (.ireturn, 1) := by decide +kernel
end
section
theorem dX1_reversed_0 : decode cX1_reversed 0 = .ok (.iconst 0, 1) := by decide +kernel
theorem dX1_reversed_1 : decode cX1_reversed 1 = .ok (.istore_n 2, 1) := by decide +kernel
theorem dX1_reversed_2 : decode cX1_reversed 2 = .ok (.iconst 0, 1) := by decide +kernel
theorem dX1_reversed_3 : decode cX1_reversed 3 = .ok (.istore_n 3, 1) := by decide +kernel
theorem dX1_reversed_4 : decode cX1_reversed 4 = .ok (.iload_n 3, 1) := by decide +kernel
theorem dX1_reversed_5 : decode cX1_reversed 5 = .ok (.iload_n 1, 1) := by decide +kernel
theorem dX1_reversed_6 : decode cX1_reversed 6 = .ok (.if_icmp .ge 19, 3) := by decide +kernel
theorem dX1_reversed_9 : decode cX1_reversed 9 = .ok (.iload_n 2, 1) := by decide +kernel
theorem dX1_reversed_10 : decode cX1_reversed 10 = .ok (.iconst 1, 1) := by decide +kernel
theorem dX1_reversed_11 : decode cX1_reversed 11 = .ok (.ishl, 1) := by decide +kernel
theorem dX1_reversed_12 : decode cX1_reversed 12 = .ok (.iload_n 0, 1) := by decide +kernel
theorem dX1_reversed_13 : decode cX1_reversed 13 = .ok (.iload_n 3, 1) := by decide +kernel
theorem dX1_reversed_14 : decode cX1_reversed 14 = .ok (.iushr, 1) := by decide +kernel
theorem dX1_reversed_15 : decode cX1_reversed 15 = .ok (.iconst 1, 1) := by decide +kernel
theorem dX1_reversed_16 : decode cX1_reversed 16 = .ok (.iand, 1) := by decide +kernel
theorem dX1_reversed_17 : decode cX1_reversed 17 = .ok (.ior, 1) := by decide +kernel
theorem dX1_reversed_18 : decode cX1_reversed 18 = .ok (.istore_n 2, 1) := by decide +kernel
theorem dX1_reversed_19 : decode cX1_reversed 19 = .ok (.iinc 3 1, 3) := by decide +kernel
theorem dX1_reversed_22 : decode cX1_reversed 22 = .ok (.goto (-18), 3) := by decide +kernel
theorem dX1_reversed_25 : decode cX1_reversed 25 = .ok (.iload_n 2, 1) := by decide +kernel
theorem dX1_reversed_26 : decode cX1_reversed 26 = .ok (.ireturn, 1) := by decide +kernel
end
section
set_option maxHeartbeats 4000000 in
set_option maxRecDepth 100000 in
theorem k_X0_timesX (l : Launch) (D : va_G) (tys : List (ClassId × FieldType)) (a : Nat) (wd : Nat) (po ini xo : Int32) (ri ro : Bool) (v : Int32) : cs_Mi l yX0_timesX wsX0_timesX ({ frames := 0, cells := 0, slots := 0, locals := 0 }) D tys [(a, .inr (0, cs_F wd po ini ri ro xo))] [.ref a, .int v] (cs_T wd po v) := by
  refine Met.ofW (cc := cX0_timesX) (maxL := 3) (ret := (some .int)) (by decide) rfl ?_
  intro pg e s m args below meth c s₁ B hml hv
  obtain ⟨rfl, hE, hP, hK⟩ := hv
  have hx := B.exec
  have hb := B.bytes
  have hr := B.returns
  have hts := atoms_spec (ws := wsX0_timesX) B.pre
  have hown : s.vm.findClass RX0 = some m.cls := findClass_of_methodNamed B.named
  have hlocks := B.notSynchronized
  have hl := lv_entry ([.ref a, .int v]) (n := 3) (Nat.le_of_ble_eq_true rfl)
  rw [lg_entry_eq]
  generalize (lg_sl ([.ref a, .int v]) ++ List.replicate (3 - (lg_sl ([.ref a, .int v])).length) Slot.unset).toArray = ls at hl ⊢
  have hl : lv_has ls 3 [(0, .ref a), (1, .int v)] := hl
  have hinX0 : ∀ w ∈ wsX00, w ∈ wsX0_timesX := fun _ h => by unfold wsX0_timesX; exact List.mem_cons_of_mem _ (List.mem_append_right _ h)
  refine lv_iload_n hx hb dX0_timesX_0 rfl (lv_at hl 1 rfl) ?_
  refine lv_iconst (v := 1) hx hb dX0_timesX_1 (by decide) ?_
  refine lv_ishl hx hb dX0_timesX_2 ?_
  refine lv_aload_n hx hb dX0_timesX_3 rfl (lv_at hl 0 rfl) ?_
  refine va_get (D := D) (ci := 0) (v := .int (cs_mk wd)) (C := RX0) (T := TX0) (N := 8) hx hb hts hinX0 hown hK hP 0 rfl rfl 6 (by decide) (hts (.fieldLink RX0 31 "ChecksumLab$Model" "mask" "I") (by decide +kernel)) (fun _ h9 => h9) rfl dX0_timesX_4 ?_
  refine lv_iand hx hb dX0_timesX_7 ?_
  refine lv_istore_n (lv' := [(2, .int ((v <<< (1 &&& 31)) &&& (cs_mk wd))), (0, .ref a), (1, .int v)]) hx hb dX0_timesX_8 rfl hl (by decide) rfl (fun ls hl => ?_)
  refine lv_iload_n hx hb dX0_timesX_9 rfl (lv_at hl 2 rfl) ?_
  refine lv_aload_n hx hb dX0_timesX_10 rfl (lv_at hl 1 rfl) ?_
  refine va_get (D := D) (ci := 0) (v := .int (cs_hb wd)) (C := RX0) (T := TX0) (N := 8) hx hb hts hinX0 hown hK hP 0 rfl rfl 7 (by decide) (hts (.fieldLink RX0 34 "ChecksumLab$Model" "highest" "I") (by decide +kernel)) (fun _ h9 => h9) rfl dX0_timesX_11 ?_
  refine lv_iand hx hb dX0_timesX_14 ?_
  refine lv_if_eq (tgt := 27) hx hb dX0_timesX_15 (by decide) (fun c_15 => ?_) (fun c_15 => ?_)
  · refine lv_iload_n hx hb dX0_timesX_27 rfl (lv_at hl 0 rfl) ?_
    exact W.iret (v := (v <<< (1 &&& 31)) &&& (cs_mk wd)) hx hb hr (fun t ht _ => ⟨(v <<< (1 &&& 31)) &&& (cs_mk wd), rfl, (cs_T_lo c_15).symm, ht⟩) (fun q h => by cases h) dX0_timesX_28
  · refine lv_iload_n hx hb dX0_timesX_18 rfl (lv_at hl 0 rfl) ?_
    refine lv_aload_n hx hb dX0_timesX_19 rfl (lv_at hl 1 rfl) ?_
    refine va_get (D := D) (ci := 0) (v := .int po) (C := RX0) (T := TX0) (N := 8) hx hb hts hinX0 hown hK hP 0 rfl rfl 1 (by decide) (hts (.fieldLink RX0 15 "ChecksumLab$Model" "poly" "I") (by decide +kernel)) (fun _ h9 => h9) rfl dX0_timesX_20 ?_
    refine lv_ixor hx hb dX0_timesX_23 ?_
    refine lv_goto (tgt := 28) hx hb dX0_timesX_24 (by decide) ?_
    exact W.iret (v := ((v <<< (1 &&& 31)) &&& (cs_mk wd)) ^^^ po) hx hb hr (fun t ht _ => ⟨((v <<< (1 &&& 31)) &&& (cs_mk wd)) ^^^ po, rfl, (cs_T_hi c_15).symm, ht⟩) (fun q h => by cases h) dX0_timesX_28
set_option maxHeartbeats 4000000 in
set_option maxRecDepth 100000 in
theorem k_X0_product (l : Launch) (D : va_G) (tys : List (ClassId × FieldType)) (a : Nat) (wd : Nat) (po ini xo : Int32) (ri ro : Bool) (hw : wd ≤ 32) (v u : Int32) : cs_Mi l yX0_product wsX0_product ({ frames := 1, cells := 0, slots := 0, locals := 22 }) D tys [(a, .inr (0, cs_F wd po ini ri ro xo))] [.ref a, .int v, .int u] (cs_mul wd po v u wd) := by
  refine Met.ofW (cc := cX0_product) (maxL := 5) (ret := (some .int)) (by decide) rfl ?_
  intro pg e s m args below meth c s₁ B hml hv
  obtain ⟨rfl, hE, hP, hK⟩ := hv
  have hx := B.exec
  have hb := B.bytes
  have hr := B.returns
  have hts := atoms_spec (ws := wsX0_product) B.pre
  have hown : s.vm.findClass RX0 = some m.cls := findClass_of_methodNamed B.named
  have hlocks := B.notSynchronized
  have hl := lv_entry ([.ref a, .int v, .int u]) (n := 5) (Nat.le_of_ble_eq_true rfl)
  rw [lg_entry_eq]
  generalize (lg_sl ([.ref a, .int v, .int u]) ++ List.replicate (5 - (lg_sl ([.ref a, .int v, .int u])).length) Slot.unset).toArray = ls at hl ⊢
  have hl : lv_has ls 5 [(0, .ref a), (1, .int v), (2, .int u)] := hl
  have hinX0 : ∀ w ∈ wsX00, w ∈ wsX0_product := fun _ h => by unfold wsX0_product; exact List.mem_cons_of_mem _ (List.mem_append_right _ h)
  have loop : ∀ (n : Nat) (r b : Int32), b = nI n - 1 → n ≤ 32 → cs_mul wd po v u wd = cs_pd wd po v u n r → ∀ ls : Array Slot, lv_has ls 5 [(0, .ref a), (1, .int v), (2, .int u), (3, .int r), (4, .int b)] → W pg l e (headSpec wsX0_product ({ frames := 1, cells := 0, slots := 0, locals := 22 })).room s m [Value.ref a, Value.int v, Value.int u].toArray below meth c s.heap [] 0 0 (MQ below (vp_Si (fun r => r = cs_mul wd po v u wd)) [Value.ref a, Value.int v, Value.int u].toArray s 0 0 (fun _ => False)) (F0 m 10 ls []) := by
    intro n
    induction n with
    | zero =>
      intro r b eb hn hV ls hl
      subst eb
      refine lv_iload hx hb dX0_product_10 (lv_at hl 4 rfl) ?_
      refine lv_if_lt (tgt := 41) hx hb dX0_product_12 (by decide) (fun c_12 => ?_) (fun c_12 => ?_)
      · refine lv_iload_n hx hb dX0_product_41 rfl (lv_at hl 3 rfl) ?_
        exact W.iret (v := r) hx hb hr (fun t ht _ => ⟨r, rfl, hV.symm, ht⟩) (fun q h => by cases h) dX0_product_42
      · exact absurd cs_m1 c_12
    | succ n ih =>
      intro r b eb hn hV ls hl
      rw [nI_pred] at eb
      subst eb
      refine lv_iload hx hb dX0_product_10 (lv_at hl 4 rfl) ?_
      refine lv_if_lt (tgt := 41) hx hb dX0_product_12 (by decide) (fun c_12 => ?_) (fun c_12 => ?_)
      · exact absurd c_12 (nI_pos (by omega))
      · refine lv_aload_n hx hb dX0_product_15 rfl (lv_at hl 0 rfl) ?_
        refine lv_iload_n hx hb dX0_product_16 rfl (lv_at hl 3 rfl) ?_
        refine vp_callSi (W.runV (As := [.int r]) (rest := []) ⟨hx, hb, hml, hown, hts⟩ (k_X0_timesX l D tys a wd po ini xo ri ro r) (cwV 1 hts gX0_product_X0_timesX rfl rfl rfl (by decide +kernel) ⟨Nat.le_of_ble_eq_true rfl, Nat.le_of_ble_eq_true rfl⟩) ⟨cs_B.blind, va_recv hK hP (ci := 0) (q0 := 0) rfl rfl, cs_B.at hE hP hK⟩ rfl rfl hl.1 rfl (lv_room (Nat.le_of_ble_eq_true rfl)) dX0_product_17 ⟨Nat.le_of_ble_eq_true rfl, Nat.le_of_ble_eq_true rfl⟩) (fun r_17 e_17 => ?_)
        subst e_17
        refine lv_istore_n (lv' := [(3, .int (cs_T wd po r)), (0, .ref a), (1, .int v), (2, .int u), (4, .int (nI n))]) hx hb dX0_product_20 rfl hl (by decide) rfl (fun ls hl => ?_)
        refine lv_iload_n hx hb dX0_product_21 rfl (lv_at hl 3 rfl) ?_
        refine lv_iload hx hb dX0_product_22 (lv_at hl 4 rfl) ?_
        refine lv_iushr (v := cs_ur u (nI n)) hx hb dX0_product_24 rfl ?_
        refine lv_iconst (v := 1) hx hb dX0_product_25 (by decide) ?_
        refine lv_iand hx hb dX0_product_26 ?_
        refine lv_iconst (v := 1) hx hb dX0_product_27 (by decide) ?_
        refine lv_icmp_ne (tgt := 35) hx hb dX0_product_28 (by decide) (fun c_28 => ?_) (fun c_28 => ?_)
        · refine lv_iinc (v := (nI n) - 1) (lv' := [(4, .int ((nI n) - 1)), (3, .int (cs_T wd po r)), (0, .ref a), (1, .int v), (2, .int u)]) hx hb dX0_product_35 hl (k := 4) rfl (cs_dec (nI n)) (by decide) rfl (fun ls hl => ?_)
          refine lv_goto (tgt := 10) hx hb dX0_product_38 (by decide) ?_
          exact ih _ _ rfl (by omega) (hV.trans (cs_pd_0 c_28)) ls (lv_sub hl [2, 3, 4, 1, 0] rfl)
        · refine lv_iload_n hx hb dX0_product_31 rfl (lv_at hl 0 rfl) ?_
          refine lv_iload_n hx hb dX0_product_32 rfl (lv_at hl 2 rfl) ?_
          refine lv_ixor hx hb dX0_product_33 ?_
          refine lv_istore_n (lv' := [(3, .int ((cs_T wd po r) ^^^ v)), (0, .ref a), (1, .int v), (2, .int u), (4, .int (nI n))]) hx hb dX0_product_34 rfl hl (by decide) rfl (fun ls hl => ?_)
          refine lv_iinc (v := (nI n) - 1) (lv' := [(4, .int ((nI n) - 1)), (3, .int ((cs_T wd po r) ^^^ v)), (0, .ref a), (1, .int v), (2, .int u)]) hx hb dX0_product_35 hl (k := 4) rfl (cs_dec (nI n)) (by decide) rfl (fun ls hl => ?_)
          refine lv_goto (tgt := 10) hx hb dX0_product_38 (by decide) ?_
          exact ih _ _ rfl (by omega) (hV.trans (cs_pd_1 c_28)) ls (lv_sub hl [2, 3, 4, 1, 0] rfl)
  refine lv_iconst (v := 0) hx hb dX0_product_0 (by decide) ?_
  refine lv_istore_n (lv' := [(3, .int 0), (0, .ref a), (1, .int v), (2, .int u)]) hx hb dX0_product_1 rfl hl (by decide) rfl (fun ls hl => ?_)
  refine lv_aload_n hx hb dX0_product_2 rfl (lv_at hl 1 rfl) ?_
  refine va_get (D := D) (ci := 0) (v := .int (nI wd)) (C := RX0) (T := TX0) (N := 8) hx hb hts hinX0 hown hK hP 0 rfl rfl 0 (by decide) (hts (.fieldLink RX0 9 "ChecksumLab$Model" "width" "I") (by decide +kernel)) (fun _ h9 => h9) rfl dX0_product_3 ?_
  refine lv_iconst (v := 1) hx hb dX0_product_6 (by decide) ?_
  refine lv_isub hx hb dX0_product_7 ?_
  refine lv_istore (lv' := [(4, .int ((nI wd) - 1)), (3, .int 0), (0, .ref a), (1, .int v), (2, .int u)]) hx hb dX0_product_8 hl (by decide) rfl (fun ls hl => ?_)
  exact loop wd 0 _ rfl hw rfl ls (lv_sub hl [2, 3, 4, 1, 0] rfl)
set_option maxHeartbeats 4000000 in
set_option maxRecDepth 100000 in
theorem k_X0_powerOfX (l : Launch) (D : va_G) (tys : List (ClassId × FieldType)) (a : Nat) (wd : Nat) (po ini xo : Int32) (ri ro : Bool) (hw : wd ≤ 32) (v : Int64) : cs_Mi l yX0_powerOfX wsX0_powerOfX ({ frames := 2, cells := 0, slots := 0, locals := 46 }) D tys [(a, .inr (0, cs_F wd po ini ri ro xo))] [.ref a, .long v] (cs_pow wd po v) := by
  refine Met.ofW (cc := cX0_powerOfX) (maxL := 5) (ret := (some .int)) (by decide) rfl ?_
  intro pg e s m args below meth c s₁ B hml hv
  obtain ⟨rfl, hE, hP, hK⟩ := hv
  have hx := B.exec
  have hb := B.bytes
  have hr := B.returns
  have hts := atoms_spec (ws := wsX0_powerOfX) B.pre
  have hown : s.vm.findClass RX0 = some m.cls := findClass_of_methodNamed B.named
  have hlocks := B.notSynchronized
  have hl := lv_entry ([.ref a, .long v]) (n := 5) (Nat.le_of_ble_eq_true rfl)
  rw [lg_entry_eq]
  generalize (lg_sl ([.ref a, .long v]) ++ List.replicate (5 - (lg_sl ([.ref a, .long v])).length) Slot.unset).toArray = ls at hl ⊢
  have hl : lv_has ls 5 [(0, .ref a), (1, .long v)] := hl
  have hinX0 : ∀ w ∈ wsX00, w ∈ wsX0_powerOfX := fun _ h => by unfold wsX0_powerOfX; exact List.mem_cons_of_mem _ (List.mem_append_right _ h)
  have loop : ∀ (n : Nat) (r : Int32) (b : Int32), b = nI n - 1 → n ≤ 63 → cs_pow wd po v = cs_pq wd po v n r → ∀ ls : Array Slot, lv_has ls 5 [(0, .ref a), (1, .long v), (3, .int r), (4, .int b)] → W pg l e (headSpec wsX0_powerOfX ({ frames := 2, cells := 0, slots := 0, locals := 46 })).room s m [Value.ref a, Value.long v].toArray below meth c s.heap [] 0 0 (MQ below (vp_Si (fun r => r = cs_pow wd po v)) [Value.ref a, Value.long v].toArray s 0 0 (fun _ => False)) (F0 m 6 ls []) := by
    intro n
    induction n with
    | zero =>
      intro r b eb hn h0 ls hl
      subst eb
      refine lv_iload hx hb dX0_powerOfX_6 (lv_at hl 3 rfl) ?_
      refine lv_if_lt (tgt := 41) hx hb dX0_powerOfX_8 (by decide) (fun c_8 => ?_) (fun c_8 => ?_)
      · refine lv_iload_n hx hb dX0_powerOfX_41 rfl (lv_at hl 2 rfl) ?_
        exact W.iret (v := r) hx hb hr (fun t ht _ => ⟨r, rfl, h0.symm, ht⟩) (fun q h => by cases h) dX0_powerOfX_42
      · exact absurd cs_m1 c_8
    | succ n ih =>
      intro r b eb hn h0 ls hl
      rw [nI_pred] at eb
      subst eb
      refine lv_iload hx hb dX0_powerOfX_6 (lv_at hl 3 rfl) ?_
      refine lv_if_lt (tgt := 41) hx hb dX0_powerOfX_8 (by decide) (fun c_8 => ?_) (fun c_8 => ?_)
      · exact absurd c_8 (nI_pos (by omega))
      · refine lv_aload_n hx hb dX0_powerOfX_11 rfl (lv_at hl 0 rfl) ?_
        refine lv_iload_n hx hb dX0_powerOfX_12 rfl (lv_at hl 2 rfl) ?_
        refine lv_iload_n hx hb dX0_powerOfX_13 rfl (lv_at hl 2 rfl) ?_
        refine vp_callSi (W.runV (As := [.int r, .int r]) (rest := []) ⟨hx, hb, hml, hown, hts⟩ (k_X0_product l D tys a wd po ini xo ri ro hw r r) (cwV 2 hts gX0_powerOfX_X0_product rfl rfl rfl (by decide +kernel) ⟨Nat.le_of_ble_eq_true rfl, Nat.le_of_ble_eq_true rfl⟩) ⟨cs_B.blind, va_recv hK hP (ci := 0) (q0 := 0) rfl rfl, cs_B.at hE hP hK⟩ rfl rfl hl.1 rfl (lv_room (Nat.le_of_ble_eq_true rfl)) dX0_powerOfX_14 ⟨Nat.le_of_ble_eq_true rfl, Nat.le_of_ble_eq_true rfl⟩) (fun r_14 e_14 => ?_)
        subst e_14
        refine lv_istore_n (lv' := [(3, .int (cs_mul wd po r r wd)), (0, .ref a), (1, .long v), (4, .int (nI n))]) hx hb dX0_powerOfX_17 rfl hl (by decide) rfl (fun ls hl => ?_)
        refine lv_lload_n hx hb dX0_powerOfX_18 rfl (lv_at hl 2 rfl) ?_
        refine lv_iload hx hb dX0_powerOfX_19 (lv_at hl 3 rfl) ?_
        refine lv_lushr (v := ((v).toUInt64 >>> ((nI n).toInt64.toUInt64 &&& Int64.toUInt64 63)).toInt64) hx hb dX0_powerOfX_21 rfl ?_
        refine lv_lconst (v := 1) hx hb dX0_powerOfX_22 (by decide) ?_
        refine lv_land hx hb dX0_powerOfX_23 ?_
        refine lv_lconst (v := 1) hx hb dX0_powerOfX_24 (by decide) ?_
        refine W.lcmp hx hb dX0_powerOfX_25 ?_
        refine lv_if_ne (tgt := 35) hx hb dX0_powerOfX_26 (by decide) (fun c_26 => ?_) (fun c_26 => ?_)
        · refine lv_iinc (v := (nI n) - 1) (lv' := [(4, .int ((nI n) - 1)), (3, .int (cs_mul wd po r r wd)), (0, .ref a), (1, .long v)]) hx hb dX0_powerOfX_35 hl (k := 3) rfl (cs_dec (nI n)) (by decide) rfl (fun ls hl => ?_)
          refine lv_goto (tgt := 6) hx hb dX0_powerOfX_38 (by decide) ?_
          exact ih _ _ rfl (by omega) (h0.trans (cs_pq_0 (fun z => c_26 ((lg_cmp_eq _ _).mpr z)))) ls (lv_sub hl [2, 3, 1, 0] rfl)
        · refine lv_aload_n hx hb dX0_powerOfX_29 rfl (lv_at hl 1 rfl) ?_
          refine lv_iload_n hx hb dX0_powerOfX_30 rfl (lv_at hl 0 rfl) ?_
          refine vp_callSi (W.runV (As := [.int (cs_mul wd po r r wd)]) (rest := []) ⟨hx, hb, hml, hown, hts⟩ (k_X0_timesX l D tys a wd po ini xo ri ro (cs_mul wd po r r wd)) (cwV 1 hts gX0_powerOfX_X0_timesX rfl rfl rfl (by decide +kernel) ⟨Nat.le_of_ble_eq_true rfl, Nat.le_of_ble_eq_true rfl⟩) ⟨cs_B.blind, va_recv hK hP (ci := 0) (q0 := 0) rfl rfl, cs_B.at hE hP hK⟩ rfl rfl hl.1 rfl (lv_room (Nat.le_of_ble_eq_true rfl)) dX0_powerOfX_31 ⟨Nat.le_of_ble_eq_true rfl, Nat.le_of_ble_eq_true rfl⟩) (fun r_31 e_31 => ?_)
          subst e_31
          refine lv_istore_n (lv' := [(3, .int (cs_T wd po (cs_mul wd po r r wd))), (0, .ref a), (1, .long v), (4, .int (nI n))]) hx hb dX0_powerOfX_34 rfl hl (by decide) rfl (fun ls hl => ?_)
          refine lv_iinc (v := (nI n) - 1) (lv' := [(4, .int ((nI n) - 1)), (3, .int (cs_T wd po (cs_mul wd po r r wd))), (0, .ref a), (1, .long v)]) hx hb dX0_powerOfX_35 hl (k := 3) rfl (cs_dec (nI n)) (by decide) rfl (fun ls hl => ?_)
          refine lv_goto (tgt := 6) hx hb dX0_powerOfX_38 (by decide) ?_
          exact ih _ _ rfl (by omega) (h0.trans (cs_pq_1 ((lg_cmp_eq _ _).mp c_26))) ls (lv_sub hl [2, 3, 1, 0] rfl)
  refine lv_iconst (v := 1) hx hb dX0_powerOfX_0 (by decide) ?_
  refine lv_istore_n (lv' := [(3, .int 1), (0, .ref a), (1, .long v)]) hx hb dX0_powerOfX_1 rfl hl (by decide) rfl (fun ls hl => ?_)
  refine lv_bipush (v := 62) hx hb dX0_powerOfX_2 (by decide) ?_
  refine lv_istore (lv' := [(4, .int 62), (3, .int 1), (0, .ref a), (1, .long v)]) hx hb dX0_powerOfX_4 hl (by decide) rfl (fun ls hl => ?_)
  exact loop 63 1 _ (by decide) (by decide) rfl ls (lv_sub hl [2, 3, 1, 0] rfl)
set_option maxHeartbeats 4000000 in
set_option maxRecDepth 100000 in
theorem k_X0_takeBit (l : Launch) (D : va_G) (tys : List (ClassId × FieldType)) (a : Nat) (wd : Nat) (po ini xo : Int32) (ri ro : Bool) (v u : Int32) : cs_Mi l yX0_takeBit wsX0_takeBit ({ frames := 1, cells := 0, slots := 0, locals := 22 }) D tys [(a, .inr (0, cs_F wd po ini ri ro xo))] [.ref a, .int v, .int u] (cs_tb wd po v u) := by
  refine Met.ofW (cc := cX0_takeBit) (maxL := 3) (ret := (some .int)) (by decide) rfl ?_
  intro pg e s m args below meth c s₁ B hml hv
  obtain ⟨rfl, hE, hP, hK⟩ := hv
  have hx := B.exec
  have hb := B.bytes
  have hr := B.returns
  have hts := atoms_spec (ws := wsX0_takeBit) B.pre
  have hown : s.vm.findClass RX0 = some m.cls := findClass_of_methodNamed B.named
  have hlocks := B.notSynchronized
  have hl := lv_entry ([.ref a, .int v, .int u]) (n := 3) (Nat.le_of_ble_eq_true rfl)
  rw [lg_entry_eq]
  generalize (lg_sl ([.ref a, .int v, .int u]) ++ List.replicate (3 - (lg_sl ([.ref a, .int v, .int u])).length) Slot.unset).toArray = ls at hl ⊢
  have hl : lv_has ls 3 [(0, .ref a), (1, .int v), (2, .int u)] := hl
  have hinX0 : ∀ w ∈ wsX00, w ∈ wsX0_takeBit := fun _ h => by unfold wsX0_takeBit; exact List.mem_cons_of_mem _ (List.mem_append_right _ h)
  refine lv_aload_n hx hb dX0_takeBit_0 rfl (lv_at hl 0 rfl) ?_
  refine lv_iload_n hx hb dX0_takeBit_1 rfl (lv_at hl 1 rfl) ?_
  refine lv_iload_n hx hb dX0_takeBit_2 rfl (lv_at hl 2 rfl) ?_
  refine lv_aload_n hx hb dX0_takeBit_3 rfl (lv_at hl 0 rfl) ?_
  refine va_get (D := D) (ci := 0) (v := .int (nI wd)) (C := RX0) (T := TX0) (N := 8) hx hb hts hinX0 hown hK hP 0 rfl rfl 0 (by decide) (hts (.fieldLink RX0 9 "ChecksumLab$Model" "width" "I") (by decide +kernel)) (fun _ h9 => h9) rfl dX0_takeBit_4 ?_
  refine lv_iconst (v := 1) hx hb dX0_takeBit_7 (by decide) ?_
  refine lv_isub hx hb dX0_takeBit_8 ?_
  refine lv_ishl hx hb dX0_takeBit_9 ?_
  refine lv_ixor hx hb dX0_takeBit_10 ?_
  refine vp_callSi (W.runV (As := [.int (v ^^^ (u <<< (((nI wd) - 1) &&& 31)))]) (rest := []) ⟨hx, hb, hml, hown, hts⟩ (k_X0_timesX l D tys a wd po ini xo ri ro (v ^^^ (u <<< (((nI wd) - 1) &&& 31)))) (cwV 1 hts gX0_takeBit_X0_timesX rfl rfl rfl (by decide +kernel) ⟨Nat.le_of_ble_eq_true rfl, Nat.le_of_ble_eq_true rfl⟩) ⟨cs_B.blind, va_recv hK hP (ci := 0) (q0 := 0) rfl rfl, cs_B.at hE hP hK⟩ rfl rfl hl.1 rfl (lv_room (Nat.le_of_ble_eq_true rfl)) dX0_takeBit_11 ⟨Nat.le_of_ble_eq_true rfl, Nat.le_of_ble_eq_true rfl⟩) (fun r_11 e_11 => ?_)
  subst e_11
  exact W.iret (v := cs_T wd po (v ^^^ (u <<< (((nI wd) - 1) &&& 31)))) hx hb hr (fun t ht _ => ⟨cs_T wd po (v ^^^ (u <<< (((nI wd) - 1) &&& 31))), rfl, rfl, ht⟩) (fun q h => by cases h) dX0_takeBit_14
set_option maxHeartbeats 4000000 in
set_option maxRecDepth 100000 in
theorem k_X0_divideByte (l : Launch) (D : va_G) (tys : List (ClassId × FieldType)) (a : Nat) (wd : Nat) (po ini xo : Int32) (ri ro : Bool) (v u : Int32) : cs_Mi l yX0_divideByte wsX0_divideByte ({ frames := 1, cells := 0, slots := 0, locals := 22 }) D tys [(a, .inr (0, cs_F wd po ini ri ro xo))] [.ref a, .int v, .int u] (cs_dv wd po u 8 v) := by
  refine Met.ofW (cc := cX0_divideByte) (maxL := 5) (ret := (some .int)) (by decide) rfl ?_
  intro pg e s m args below meth c s₁ B hml hv
  obtain ⟨rfl, hE, hP, hK⟩ := hv
  have hx := B.exec
  have hb := B.bytes
  have hr := B.returns
  have hts := atoms_spec (ws := wsX0_divideByte) B.pre
  have hown : s.vm.findClass RX0 = some m.cls := findClass_of_methodNamed B.named
  have hlocks := B.notSynchronized
  have hl := lv_entry ([.ref a, .int v, .int u]) (n := 5) (Nat.le_of_ble_eq_true rfl)
  rw [lg_entry_eq]
  generalize (lg_sl ([.ref a, .int v, .int u]) ++ List.replicate (5 - (lg_sl ([.ref a, .int v, .int u])).length) Slot.unset).toArray = ls at hl ⊢
  have hl : lv_has ls 5 [(0, .ref a), (1, .int v), (2, .int u)] := hl
  have hinX0 : ∀ w ∈ wsX00, w ∈ wsX0_divideByte := fun _ h => by unfold wsX0_divideByte; exact List.mem_cons_of_mem _ (List.mem_append_right _ h)
  have loop : ∀ (n : Nat) (r : Int32) (b : Int32), b = nI n - 1 → n ≤ 8 → cs_dv wd po u 8 v = cs_dv wd po u n r → ∀ ls : Array Slot, lv_has ls 5 [(0, .ref a), (2, .int u), (3, .int r), (4, .int b)] → W pg l e (headSpec wsX0_divideByte ({ frames := 1, cells := 0, slots := 0, locals := 22 })).room s m [Value.ref a, Value.int v, Value.int u].toArray below meth c s.heap [] 0 0 (MQ below (vp_Si (fun r => r = cs_dv wd po u 8 v)) [Value.ref a, Value.int v, Value.int u].toArray s 0 0 (fun _ => False)) (F0 m 6 ls []) := by
    intro n
    induction n with
    | zero =>
      intro r b eb hn h0 ls hl
      subst eb
      refine lv_iload hx hb dX0_divideByte_6 (lv_at hl 3 rfl) ?_
      refine lv_if_lt (tgt := 30) hx hb dX0_divideByte_8 (by decide) (fun c_8 => ?_) (fun c_8 => ?_)
      · refine lv_iload_n hx hb dX0_divideByte_30 rfl (lv_at hl 2 rfl) ?_
        exact W.iret (v := r) hx hb hr (fun t ht _ => ⟨r, rfl, h0.symm, ht⟩) (fun q h => by cases h) dX0_divideByte_31
      · exact absurd cs_m1 c_8
    | succ n ih =>
      intro r b eb hn h0 ls hl
      rw [nI_pred] at eb
      subst eb
      refine lv_iload hx hb dX0_divideByte_6 (lv_at hl 3 rfl) ?_
      refine lv_if_lt (tgt := 30) hx hb dX0_divideByte_8 (by decide) (fun c_8 => ?_) (fun c_8 => ?_)
      · exact absurd c_8 (nI_pos (by omega))
      · refine lv_aload_n hx hb dX0_divideByte_11 rfl (lv_at hl 0 rfl) ?_
        refine lv_iload_n hx hb dX0_divideByte_12 rfl (lv_at hl 2 rfl) ?_
        refine vp_callSi (W.runV (As := [.int r]) (rest := []) ⟨hx, hb, hml, hown, hts⟩ (k_X0_timesX l D tys a wd po ini xo ri ro r) (cwV 1 hts gX0_divideByte_X0_timesX rfl rfl rfl (by decide +kernel) ⟨Nat.le_of_ble_eq_true rfl, Nat.le_of_ble_eq_true rfl⟩) ⟨cs_B.blind, va_recv hK hP (ci := 0) (q0 := 0) rfl rfl, cs_B.at hE hP hK⟩ rfl rfl hl.1 rfl (lv_room (Nat.le_of_ble_eq_true rfl)) dX0_divideByte_13 ⟨Nat.le_of_ble_eq_true rfl, Nat.le_of_ble_eq_true rfl⟩) (fun r_13 e_13 => ?_)
        subst e_13
        refine lv_iload_n hx hb dX0_divideByte_16 rfl (lv_at hl 1 rfl) ?_
        refine lv_iload hx hb dX0_divideByte_17 (lv_at hl 3 rfl) ?_
        refine lv_iushr (v := cs_ur u (nI n)) hx hb dX0_divideByte_19 rfl ?_
        refine lv_iconst (v := 1) hx hb dX0_divideByte_20 (by decide) ?_
        refine lv_iand hx hb dX0_divideByte_21 ?_
        refine lv_ixor hx hb dX0_divideByte_22 ?_
        refine lv_istore_n (lv' := [(3, .int ((cs_T wd po r) ^^^ ((cs_ur u (nI n)) &&& 1))), (0, .ref a), (2, .int u), (4, .int (nI n))]) hx hb dX0_divideByte_23 rfl hl (by decide) rfl (fun ls hl => ?_)
        refine lv_iinc (v := (nI n) - 1) (lv' := [(4, .int ((nI n) - 1)), (3, .int ((cs_T wd po r) ^^^ ((cs_ur u (nI n)) &&& 1))), (0, .ref a), (2, .int u)]) hx hb dX0_divideByte_24 hl (k := 3) rfl (cs_dec (nI n)) (by decide) rfl (fun ls hl => ?_)
        refine lv_goto (tgt := 6) hx hb dX0_divideByte_27 (by decide) ?_
        exact ih _ _ rfl (by omega) h0 ls (lv_sub hl [2, 3, 1, 0] rfl)
  refine lv_iload_n hx hb dX0_divideByte_0 rfl (lv_at hl 1 rfl) ?_
  refine lv_istore_n (lv' := [(3, .int v), (0, .ref a), (1, .int v), (2, .int u)]) hx hb dX0_divideByte_1 rfl hl (by decide) rfl (fun ls hl => ?_)
  refine lv_bipush (v := 7) hx hb dX0_divideByte_2 (by decide) ?_
  refine lv_istore (lv' := [(4, .int 7), (3, .int v), (0, .ref a), (1, .int v), (2, .int u)]) hx hb dX0_divideByte_4 hl (by decide) rfl (fun ls hl => ?_)
  exact loop 8 v _ (by decide) (by decide) rfl ls (lv_sub hl [2, 4, 1, 0] rfl)
set_option maxHeartbeats 4000000 in
set_option maxRecDepth 100000 in
theorem k_X1_reversed (l : Launch) (D : va_G) (tys : List (ClassId × FieldType)) (v : Int32) (b0 : Nat) (hb0 : b0 ≤ 32) : cs_Mi l yX1_reversed wsX1_reversed ({ frames := 0, cells := 0, slots := 0, locals := 0 }) D tys [] [.int v, .int (nI b0)] (cs_rv v b0) := by
  refine Met.ofW (cc := cX1_reversed) (maxL := 4) (ret := (some .int)) (by decide) rfl ?_
  intro pg e s m args below meth c s₁ B hml hv
  obtain ⟨rfl, hE, hP, hK⟩ := hv
  have hx := B.exec
  have hb := B.bytes
  have hr := B.returns
  have hts := atoms_spec (ws := wsX1_reversed) B.pre
  have hown : s.vm.findClass RX1 = some m.cls := findClass_of_methodNamed B.named
  have hlocks := B.notSynchronized
  have hl := lv_entry ([.int v, .int (nI b0)]) (n := 4) (Nat.le_of_ble_eq_true rfl)
  rw [lg_entry_eq]
  generalize (lg_sl ([.int v, .int (nI b0)]) ++ List.replicate (4 - (lg_sl ([.int v, .int (nI b0)])).length) Slot.unset).toArray = ls at hl ⊢
  have hl : lv_has ls 4 [(0, .int v), (1, .int (nI b0))] := hl
  have loop : ∀ (n i : Nat), i + n = b0 → ∀ ls : Array Slot, lv_has ls 4 [(0, .int v), (1, .int (nI b0)), (2, .int (cs_rv v i)), (3, .int (nI i))] → W pg l e (headSpec wsX1_reversed ({ frames := 0, cells := 0, slots := 0, locals := 0 })).room s m [Value.int v, Value.int (nI b0)].toArray below meth c s.heap [] 0 0 (MQ below (vp_Si (fun r => r = cs_rv v b0)) [Value.int v, Value.int (nI b0)].toArray s 0 0 (fun _ => False)) (F0 m 4 ls []) := by
    intro n
    induction n with
    | zero =>
      intro i hi ls hl
      rw [Nat.add_zero] at hi
      subst hi
      refine lv_iload_n hx hb dX1_reversed_4 rfl (lv_at hl 3 rfl) ?_
      refine lv_iload_n hx hb dX1_reversed_5 rfl (lv_at hl 1 rfl) ?_
      refine lv_icmp_ge (tgt := 25) hx hb dX1_reversed_6 (by decide) (fun c_6 => ?_) (fun c_6 => ?_)
      · refine lv_iload_n hx hb dX1_reversed_25 rfl (lv_at hl 2 rfl) ?_
        exact W.iret (v := cs_rv v i) hx hb hr (fun t ht _ => ⟨cs_rv v i, rfl, rfl, ht⟩) (fun q h => by cases h) dX1_reversed_26
      · exact absurd (nI_le (Nat.le_refl _) (by omega)) c_6
    | succ n ih =>
      intro i hi ls hl
      refine lv_iload_n hx hb dX1_reversed_4 rfl (lv_at hl 3 rfl) ?_
      refine lv_iload_n hx hb dX1_reversed_5 rfl (lv_at hl 1 rfl) ?_
      refine lv_icmp_ge (tgt := 25) hx hb dX1_reversed_6 (by decide) (fun c_6 => ?_) (fun c_6 => ?_)
      · exact absurd c_6 (nI_ge (by omega) (by omega))
      · refine lv_iload_n hx hb dX1_reversed_9 rfl (lv_at hl 2 rfl) ?_
        refine lv_iconst (v := 1) hx hb dX1_reversed_10 (by decide) ?_
        refine lv_ishl hx hb dX1_reversed_11 ?_
        refine lv_iload_n hx hb dX1_reversed_12 rfl (lv_at hl 0 rfl) ?_
        refine lv_iload_n hx hb dX1_reversed_13 rfl (lv_at hl 3 rfl) ?_
        refine lv_iushr (v := cs_ur v (nI i)) hx hb dX1_reversed_14 rfl ?_
        refine lv_iconst (v := 1) hx hb dX1_reversed_15 (by decide) ?_
        refine lv_iand hx hb dX1_reversed_16 ?_
        refine lv_ior hx hb dX1_reversed_17 ?_
        refine lv_istore_n (lv' := [(2, .int (((cs_rv v i) <<< (1 &&& 31)) ||| ((cs_ur v (nI i)) &&& 1))), (0, .int v), (1, .int (nI b0)), (3, .int (nI i))]) hx hb dX1_reversed_18 rfl hl (by decide) rfl (fun ls hl => ?_)
        refine lv_iinc (v := nI (i + 1)) (lv' := [(3, .int (nI (i + 1))), (2, .int (((cs_rv v i) <<< (1 &&& 31)) ||| ((cs_ur v (nI i)) &&& 1))), (0, .int v), (1, .int (nI b0))]) hx hb dX1_reversed_19 hl (k := 3) rfl (cs_inc1 i) (by decide) rfl (fun ls hl => ?_)
        refine lv_goto (tgt := 4) hx hb dX1_reversed_22 (by decide) ?_
        exact ih (i + 1) (by omega) ls (lv_sub hl [2, 3, 1, 0] rfl)
  refine lv_iconst (v := 0) hx hb dX1_reversed_0 (by decide) ?_
  refine lv_istore_n (lv' := [(2, .int 0), (0, .int v), (1, .int (nI b0))]) hx hb dX1_reversed_1 rfl hl (by decide) rfl (fun ls hl => ?_)
  refine lv_iconst (v := 0) hx hb dX1_reversed_2 (by decide) ?_
  refine lv_istore_n (lv' := [(3, .int 0), (2, .int 0), (0, .int v), (1, .int (nI b0))]) hx hb dX1_reversed_3 rfl hl (by decide) rfl (fun ls hl => ?_)
  exact loop b0 0 (by omega) ls (lv_sub hl [2, 3, 1, 0] rfl)
set_option maxHeartbeats 4000000 in
set_option maxRecDepth 100000 in
theorem k_X0_inTakenOrder (l : Launch) (D : va_G) (tys : List (ClassId × FieldType)) (a : Nat) (wd : Nat) (po ini xo : Int32) (ri ro : Bool) (v : Int32) : cs_Mi l yX0_inTakenOrder wsX0_inTakenOrder ({ frames := 1, cells := 0, slots := 0, locals := 23 }) D tys [(a, .inr (0, cs_F wd po ini ri ro xo))] [.ref a, .int v] (cs_od ri v) := by
  refine Met.ofW (cc := cX0_inTakenOrder) (maxL := 2) (ret := (some .int)) (by decide) rfl ?_
  intro pg e s m args below meth c s₁ B hml hv
  obtain ⟨rfl, hE, hP, hK⟩ := hv
  have hx := B.exec
  have hb := B.bytes
  have hr := B.returns
  have hts := atoms_spec (ws := wsX0_inTakenOrder) B.pre
  have hown : s.vm.findClass RX0 = some m.cls := findClass_of_methodNamed B.named
  have hlocks := B.notSynchronized
  have hl := lv_entry ([.ref a, .int v]) (n := 2) (Nat.le_of_ble_eq_true rfl)
  rw [lg_entry_eq]
  generalize (lg_sl ([.ref a, .int v]) ++ List.replicate (2 - (lg_sl ([.ref a, .int v])).length) Slot.unset).toArray = ls at hl ⊢
  have hl : lv_has ls 2 [(0, .ref a), (1, .int v)] := hl
  have hinX0 : ∀ w ∈ wsX00, w ∈ wsX0_inTakenOrder := fun _ h => by unfold wsX0_inTakenOrder; exact List.mem_cons_of_mem _ (List.mem_append_right _ h)
  refine lv_aload_n hx hb dX0_inTakenOrder_0 rfl (lv_at hl 0 rfl) ?_
  refine va_get (D := D) (ci := 0) (v := .int (cs_z ri)) (C := RX0) (T := TX0) (N := 8) hx hb hts hinX0 hown hK hP 0 rfl rfl 3 (by decide) (hts (.fieldLink RX0 21 "ChecksumLab$Model" "reflectIn" "Z") (by decide +kernel)) (fun _ h9 => h9) rfl dX0_inTakenOrder_1 ?_
  refine cs_ifeq (tgt := 16) hx hb dX0_inTakenOrder_4 (by decide) (fun c_4 => ?_) (fun c_4 => ?_)
  · refine lv_iload_n hx hb dX0_inTakenOrder_16 rfl (lv_at hl 1 rfl) ?_
    exact W.iret (v := v) hx hb hr (fun t ht _ => ⟨v, rfl, (if_neg (by rw [c_4]; decide)).symm, ht⟩) (fun q h => by cases h) dX0_inTakenOrder_17
  · refine lv_iload_n hx hb dX0_inTakenOrder_7 rfl (lv_at hl 1 rfl) ?_
    refine lv_bipush (v := 8) hx hb dX0_inTakenOrder_8 (by decide) ?_
    refine cs_top (y := nI 8) rfl ?_
    refine vp_callSi (va_Run.run (va_runSN (As := [.int v, .int (nI 8)]) (rest := []) ⟨hx, hb, hml, hown, hts⟩ (k_X1_reversed l D tys v 8 (by decide)) ⟨va_cnB 2 hts gX0_inTakenOrder_X1_reversed_n51 rfl rfl rfl hE.1 (hts (.initialized RX1) (by decide +kernel)) (by decide +kernel) ⟨Nat.le_of_ble_eq_true rfl, Nat.le_of_ble_eq_true rfl⟩, hts (.static yX1_reversed) (by decide +kernel), trivial⟩ ⟨cs_B.blind, cs_B.at hE cs_none hK⟩ rfl rfl hl.1 rfl (lv_room (Nat.le_of_ble_eq_true rfl)) dX0_inTakenOrder_10 ⟨Nat.le_of_ble_eq_true rfl, Nat.le_of_ble_eq_true rfl⟩)) (fun r_10 e_10 => ?_)
    subst e_10
    refine lv_goto (tgt := 17) hx hb dX0_inTakenOrder_13 (by decide) ?_
    exact W.iret (v := cs_rv v 8) hx hb hr (fun t ht _ => ⟨cs_rv v 8, rfl, (if_pos c_4).symm, ht⟩) (fun q h => by cases h) dX0_inTakenOrder_17
set_option maxHeartbeats 4000000 in
set_option maxRecDepth 100000 in
theorem k_X0_inSumOrder (l : Launch) (D : va_G) (tys : List (ClassId × FieldType)) (a : Nat) (wd : Nat) (po ini xo : Int32) (ri ro : Bool) (hw : wd ≤ 32) (v : Int32) : cs_Mi l yX0_inSumOrder wsX0_inSumOrder ({ frames := 1, cells := 0, slots := 0, locals := 23 }) D tys [(a, .inr (0, cs_F wd po ini ri ro xo))] [.ref a, .int v] (cs_so ro wd v) := by
  refine Met.ofW (cc := cX0_inSumOrder) (maxL := 2) (ret := (some .int)) (by decide) rfl ?_
  intro pg e s m args below meth c s₁ B hml hv
  obtain ⟨rfl, hE, hP, hK⟩ := hv
  have hx := B.exec
  have hb := B.bytes
  have hr := B.returns
  have hts := atoms_spec (ws := wsX0_inSumOrder) B.pre
  have hown : s.vm.findClass RX0 = some m.cls := findClass_of_methodNamed B.named
  have hlocks := B.notSynchronized
  have hl := lv_entry ([.ref a, .int v]) (n := 2) (Nat.le_of_ble_eq_true rfl)
  rw [lg_entry_eq]
  generalize (lg_sl ([.ref a, .int v]) ++ List.replicate (2 - (lg_sl ([.ref a, .int v])).length) Slot.unset).toArray = ls at hl ⊢
  have hl : lv_has ls 2 [(0, .ref a), (1, .int v)] := hl
  have hinX0 : ∀ w ∈ wsX00, w ∈ wsX0_inSumOrder := fun _ h => by unfold wsX0_inSumOrder; exact List.mem_cons_of_mem _ (List.mem_append_right _ h)
  refine lv_aload_n hx hb dX0_inSumOrder_0 rfl (lv_at hl 0 rfl) ?_
  refine va_get (D := D) (ci := 0) (v := .int (cs_z ro)) (C := RX0) (T := TX0) (N := 8) hx hb hts hinX0 hown hK hP 0 rfl rfl 4 (by decide) (hts (.fieldLink RX0 25 "ChecksumLab$Model" "reflectOut" "Z") (by decide +kernel)) (fun _ h9 => h9) rfl dX0_inSumOrder_1 ?_
  refine cs_ifeq (tgt := 18) hx hb dX0_inSumOrder_4 (by decide) (fun c_4 => ?_) (fun c_4 => ?_)
  · refine lv_iload_n hx hb dX0_inSumOrder_18 rfl (lv_at hl 1 rfl) ?_
    exact W.iret (v := v) hx hb hr (fun t ht _ => ⟨v, rfl, (if_neg (by rw [c_4]; decide)).symm, ht⟩) (fun q h => by cases h) dX0_inSumOrder_19
  · refine lv_iload_n hx hb dX0_inSumOrder_7 rfl (lv_at hl 1 rfl) ?_
    refine lv_aload_n hx hb dX0_inSumOrder_8 rfl (lv_at hl 0 rfl) ?_
    refine va_get (D := D) (ci := 0) (v := .int (nI wd)) (C := RX0) (T := TX0) (N := 8) hx hb hts hinX0 hown hK hP 0 rfl rfl 0 (by decide) (hts (.fieldLink RX0 9 "ChecksumLab$Model" "width" "I") (by decide +kernel)) (fun _ h9 => h9) rfl dX0_inSumOrder_9 ?_
    refine vp_callSi (va_Run.run (va_runSN (As := [.int v, .int (nI wd)]) (rest := []) ⟨hx, hb, hml, hown, hts⟩ (k_X1_reversed l D tys v wd hw) ⟨va_cnB 2 hts gX0_inSumOrder_X1_reversed_n51 rfl rfl rfl hE.1 (hts (.initialized RX1) (by decide +kernel)) (by decide +kernel) ⟨Nat.le_of_ble_eq_true rfl, Nat.le_of_ble_eq_true rfl⟩, hts (.static yX1_reversed) (by decide +kernel), trivial⟩ ⟨cs_B.blind, cs_B.at hE cs_none hK⟩ rfl rfl hl.1 rfl (lv_room (Nat.le_of_ble_eq_true rfl)) dX0_inSumOrder_12 ⟨Nat.le_of_ble_eq_true rfl, Nat.le_of_ble_eq_true rfl⟩)) (fun r_12 e_12 => ?_)
    subst e_12
    refine lv_goto (tgt := 19) hx hb dX0_inSumOrder_15 (by decide) ?_
    exact W.iret (v := cs_rv v wd) hx hb hr (fun t ht _ => ⟨cs_rv v wd, rfl, (if_pos c_4).symm, ht⟩) (fun q h => by cases h) dX0_inSumOrder_19
set_option maxHeartbeats 4000000 in
set_option maxRecDepth 100000 in
theorem k_X0_sumOfRegister (l : Launch) (D : va_G) (tys : List (ClassId × FieldType)) (a : Nat) (wd : Nat) (po ini xo : Int32) (ri ro : Bool) (hw : wd ≤ 32) (v : Int32) : cs_Mi l yX0_sumOfRegister wsX0_sumOfRegister ({ frames := 2, cells := 0, slots := 0, locals := 44 }) D tys [(a, .inr (0, cs_F wd po ini ri ro xo))] [.ref a, .int v] (cs_so ro wd v ^^^ xo) := by
  refine Met.ofW (cc := cX0_sumOfRegister) (maxL := 2) (ret := (some .int)) (by decide) rfl ?_
  intro pg e s m args below meth c s₁ B hml hv
  obtain ⟨rfl, hE, hP, hK⟩ := hv
  have hx := B.exec
  have hb := B.bytes
  have hr := B.returns
  have hts := atoms_spec (ws := wsX0_sumOfRegister) B.pre
  have hown : s.vm.findClass RX0 = some m.cls := findClass_of_methodNamed B.named
  have hlocks := B.notSynchronized
  have hl := lv_entry ([.ref a, .int v]) (n := 2) (Nat.le_of_ble_eq_true rfl)
  rw [lg_entry_eq]
  generalize (lg_sl ([.ref a, .int v]) ++ List.replicate (2 - (lg_sl ([.ref a, .int v])).length) Slot.unset).toArray = ls at hl ⊢
  have hl : lv_has ls 2 [(0, .ref a), (1, .int v)] := hl
  have hinX0 : ∀ w ∈ wsX00, w ∈ wsX0_sumOfRegister := fun _ h => by unfold wsX0_sumOfRegister; exact List.mem_cons_of_mem _ (List.mem_append_right _ h)
  refine lv_aload_n hx hb dX0_sumOfRegister_0 rfl (lv_at hl 0 rfl) ?_
  refine lv_iload_n hx hb dX0_sumOfRegister_1 rfl (lv_at hl 1 rfl) ?_
  refine vp_callSi (W.runV (As := [.int v]) (rest := []) ⟨hx, hb, hml, hown, hts⟩ (k_X0_inSumOrder l D tys a wd po ini xo ri ro hw v) (cwV 1 hts gX0_sumOfRegister_X0_inSumOrder rfl rfl rfl (by decide +kernel) ⟨Nat.le_of_ble_eq_true rfl, Nat.le_of_ble_eq_true rfl⟩) ⟨cs_B.blind, va_recv hK hP (ci := 0) (q0 := 0) rfl rfl, cs_B.at hE hP hK⟩ rfl rfl hl.1 rfl (lv_room (Nat.le_of_ble_eq_true rfl)) dX0_sumOfRegister_2 ⟨Nat.le_of_ble_eq_true rfl, Nat.le_of_ble_eq_true rfl⟩) (fun r_2 e_2 => ?_)
  subst e_2
  refine lv_aload_n hx hb dX0_sumOfRegister_5 rfl (lv_at hl 0 rfl) ?_
  refine va_get (D := D) (ci := 0) (v := .int xo) (C := RX0) (T := TX0) (N := 8) hx hb hts hinX0 hown hK hP 0 rfl rfl 5 (by decide) (hts (.fieldLink RX0 28 "ChecksumLab$Model" "xorOut" "I") (by decide +kernel)) (fun _ h9 => h9) rfl dX0_sumOfRegister_6 ?_
  refine lv_ixor hx hb dX0_sumOfRegister_9 ?_
  exact W.iret (v := (cs_so ro wd v) ^^^ xo) hx hb hr (fun t ht _ => ⟨(cs_so ro wd v) ^^^ xo, rfl, rfl, ht⟩) (fun q h => by cases h) dX0_sumOfRegister_10
set_option maxHeartbeats 4000000 in
set_option maxRecDepth 100000 in
theorem k_X0_registerOfSum (l : Launch) (D : va_G) (tys : List (ClassId × FieldType)) (a : Nat) (wd : Nat) (po ini xo : Int32) (ri ro : Bool) (hw : wd ≤ 32) (v : Int32) : cs_Mi l yX0_registerOfSum wsX0_registerOfSum ({ frames := 2, cells := 0, slots := 0, locals := 44 }) D tys [(a, .inr (0, cs_F wd po ini ri ro xo))] [.ref a, .int v] (cs_so ro wd (v ^^^ xo)) := by
  refine Met.ofW (cc := cX0_registerOfSum) (maxL := 2) (ret := (some .int)) (by decide) rfl ?_
  intro pg e s m args below meth c s₁ B hml hv
  obtain ⟨rfl, hE, hP, hK⟩ := hv
  have hx := B.exec
  have hb := B.bytes
  have hr := B.returns
  have hts := atoms_spec (ws := wsX0_registerOfSum) B.pre
  have hown : s.vm.findClass RX0 = some m.cls := findClass_of_methodNamed B.named
  have hlocks := B.notSynchronized
  have hl := lv_entry ([.ref a, .int v]) (n := 2) (Nat.le_of_ble_eq_true rfl)
  rw [lg_entry_eq]
  generalize (lg_sl ([.ref a, .int v]) ++ List.replicate (2 - (lg_sl ([.ref a, .int v])).length) Slot.unset).toArray = ls at hl ⊢
  have hl : lv_has ls 2 [(0, .ref a), (1, .int v)] := hl
  have hinX0 : ∀ w ∈ wsX00, w ∈ wsX0_registerOfSum := fun _ h => by unfold wsX0_registerOfSum; exact List.mem_cons_of_mem _ (List.mem_append_right _ h)
  refine lv_aload_n hx hb dX0_registerOfSum_0 rfl (lv_at hl 0 rfl) ?_
  refine lv_iload_n hx hb dX0_registerOfSum_1 rfl (lv_at hl 1 rfl) ?_
  refine lv_aload_n hx hb dX0_registerOfSum_2 rfl (lv_at hl 0 rfl) ?_
  refine va_get (D := D) (ci := 0) (v := .int xo) (C := RX0) (T := TX0) (N := 8) hx hb hts hinX0 hown hK hP 0 rfl rfl 5 (by decide) (hts (.fieldLink RX0 28 "ChecksumLab$Model" "xorOut" "I") (by decide +kernel)) (fun _ h9 => h9) rfl dX0_registerOfSum_3 ?_
  refine lv_ixor hx hb dX0_registerOfSum_6 ?_
  refine vp_callSi (W.runV (As := [.int (v ^^^ xo)]) (rest := []) ⟨hx, hb, hml, hown, hts⟩ (k_X0_inSumOrder l D tys a wd po ini xo ri ro hw (v ^^^ xo)) (cwV 1 hts gX0_registerOfSum_X0_inSumOrder rfl rfl rfl (by decide +kernel) ⟨Nat.le_of_ble_eq_true rfl, Nat.le_of_ble_eq_true rfl⟩) ⟨cs_B.blind, va_recv hK hP (ci := 0) (q0 := 0) rfl rfl, cs_B.at hE hP hK⟩ rfl rfl hl.1 rfl (lv_room (Nat.le_of_ble_eq_true rfl)) dX0_registerOfSum_7 ⟨Nat.le_of_ble_eq_true rfl, Nat.le_of_ble_eq_true rfl⟩) (fun r_7 e_7 => ?_)
  subst e_7
  exact W.iret (v := cs_so ro wd (v ^^^ xo)) hx hb hr (fun t ht _ => ⟨cs_so ro wd (v ^^^ xo), rfl, rfl, ht⟩) (fun q h => by cases h) dX0_registerOfSum_10
set_option maxHeartbeats 4000000 in
set_option maxRecDepth 100000 in
theorem k_X0_takeByte (l : Launch) (D : va_G) (tys : List (ClassId × FieldType)) (a : Nat) (wd : Nat) (po ini xo : Int32) (ri ro : Bool) (v u : Int32) : cs_Mi l yX0_takeByte wsX0_takeByte ({ frames := 2, cells := 0, slots := 0, locals := 44 }) D tys [(a, .inr (0, cs_F wd po ini ri ro xo))] [.ref a, .int v, .int u] (cs_tk wd po ri v u) := by
  refine Met.ofW (cc := cX0_takeByte) (maxL := 6) (ret := (some .int)) (by decide) rfl ?_
  intro pg e s m args below meth c s₁ B hml hv
  obtain ⟨rfl, hE, hP, hK⟩ := hv
  have hx := B.exec
  have hb := B.bytes
  have hr := B.returns
  have hts := atoms_spec (ws := wsX0_takeByte) B.pre
  have hown : s.vm.findClass RX0 = some m.cls := findClass_of_methodNamed B.named
  have hlocks := B.notSynchronized
  have hl := lv_entry ([.ref a, .int v, .int u]) (n := 6) (Nat.le_of_ble_eq_true rfl)
  rw [lg_entry_eq]
  generalize (lg_sl ([.ref a, .int v, .int u]) ++ List.replicate (6 - (lg_sl ([.ref a, .int v, .int u])).length) Slot.unset).toArray = ls at hl ⊢
  have hl : lv_has ls 6 [(0, .ref a), (1, .int v), (2, .int u)] := hl
  have hinX0 : ∀ w ∈ wsX00, w ∈ wsX0_takeByte := fun _ h => by unfold wsX0_takeByte; exact List.mem_cons_of_mem _ (List.mem_append_right _ h)
  have loop : ∀ (n : Nat) (r : Int32) (b : Int32), b = nI n - 1 → n ≤ 8 → cs_tk wd po ri v u = cs_ty wd po (cs_od ri u) n r → ∀ ls : Array Slot, lv_has ls 6 [(0, .ref a), (3, .int (cs_od ri u)), (4, .int r), (5, .int b)] → W pg l e (headSpec wsX0_takeByte ({ frames := 2, cells := 0, slots := 0, locals := 44 })).room s m [Value.ref a, Value.int v, Value.int u].toArray below meth c s.heap [] 0 0 (MQ below (vp_Si (fun r => r = cs_tk wd po ri v u)) [Value.ref a, Value.int v, Value.int u].toArray s 0 0 (fun _ => False)) (F0 m 13 ls []) := by
    intro n
    induction n with
    | zero =>
      intro r b eb hn h0 ls hl
      subst eb
      refine lv_iload hx hb dX0_takeByte_13 (lv_at hl 3 rfl) ?_
      refine lv_if_lt (tgt := 38) hx hb dX0_takeByte_15 (by decide) (fun c_15 => ?_) (fun c_15 => ?_)
      · refine lv_iload hx hb dX0_takeByte_38 (lv_at hl 2 rfl) ?_
        exact W.iret (v := r) hx hb hr (fun t ht _ => ⟨r, rfl, h0.symm, ht⟩) (fun q h => by cases h) dX0_takeByte_40
      · exact absurd cs_m1 c_15
    | succ n ih =>
      intro r b eb hn h0 ls hl
      rw [nI_pred] at eb
      subst eb
      refine lv_iload hx hb dX0_takeByte_13 (lv_at hl 3 rfl) ?_
      refine lv_if_lt (tgt := 38) hx hb dX0_takeByte_15 (by decide) (fun c_15 => ?_) (fun c_15 => ?_)
      · exact absurd c_15 (nI_pos (by omega))
      · refine lv_aload_n hx hb dX0_takeByte_18 rfl (lv_at hl 0 rfl) ?_
        refine lv_iload hx hb dX0_takeByte_19 (lv_at hl 2 rfl) ?_
        refine lv_iload_n hx hb dX0_takeByte_21 rfl (lv_at hl 1 rfl) ?_
        refine lv_iload hx hb dX0_takeByte_22 (lv_at hl 3 rfl) ?_
        refine lv_iushr (v := cs_ur (cs_od ri u) (nI n)) hx hb dX0_takeByte_24 rfl ?_
        refine lv_iconst (v := 1) hx hb dX0_takeByte_25 (by decide) ?_
        refine lv_iand hx hb dX0_takeByte_26 ?_
        refine vp_callSi (W.runV (As := [.int r, .int ((cs_ur (cs_od ri u) (nI n)) &&& 1)]) (rest := []) ⟨hx, hb, hml, hown, hts⟩ (k_X0_takeBit l D tys a wd po ini xo ri ro r ((cs_ur (cs_od ri u) (nI n)) &&& 1)) (cwV 2 hts gX0_takeByte_X0_takeBit rfl rfl rfl (by decide +kernel) ⟨Nat.le_of_ble_eq_true rfl, Nat.le_of_ble_eq_true rfl⟩) ⟨cs_B.blind, va_recv hK hP (ci := 0) (q0 := 0) rfl rfl, cs_B.at hE hP hK⟩ rfl rfl hl.1 rfl (lv_room (Nat.le_of_ble_eq_true rfl)) dX0_takeByte_27 ⟨Nat.le_of_ble_eq_true rfl, Nat.le_of_ble_eq_true rfl⟩) (fun r_27 e_27 => ?_)
        subst e_27
        refine lv_istore (lv' := [(4, .int (cs_tb wd po r ((cs_ur (cs_od ri u) (nI n)) &&& 1))), (0, .ref a), (3, .int (cs_od ri u)), (5, .int (nI n))]) hx hb dX0_takeByte_30 hl (by decide) rfl (fun ls hl => ?_)
        refine lv_iinc (v := (nI n) - 1) (lv' := [(5, .int ((nI n) - 1)), (4, .int (cs_tb wd po r ((cs_ur (cs_od ri u) (nI n)) &&& 1))), (0, .ref a), (3, .int (cs_od ri u))]) hx hb dX0_takeByte_32 hl (k := 3) rfl (cs_dec (nI n)) (by decide) rfl (fun ls hl => ?_)
        refine lv_goto (tgt := 13) hx hb dX0_takeByte_35 (by decide) ?_
        exact ih _ _ rfl (by omega) h0 ls (lv_sub hl [2, 3, 1, 0] rfl)
  refine lv_aload_n hx hb dX0_takeByte_0 rfl (lv_at hl 0 rfl) ?_
  refine lv_iload_n hx hb dX0_takeByte_1 rfl (lv_at hl 2 rfl) ?_
  refine vp_callSi (W.runV (As := [.int u]) (rest := []) ⟨hx, hb, hml, hown, hts⟩ (k_X0_inTakenOrder l D tys a wd po ini xo ri ro u) (cwV 1 hts gX0_takeByte_X0_inTakenOrder rfl rfl rfl (by decide +kernel) ⟨Nat.le_of_ble_eq_true rfl, Nat.le_of_ble_eq_true rfl⟩) ⟨cs_B.blind, va_recv hK hP (ci := 0) (q0 := 0) rfl rfl, cs_B.at hE hP hK⟩ rfl rfl hl.1 rfl (lv_room (Nat.le_of_ble_eq_true rfl)) dX0_takeByte_2 ⟨Nat.le_of_ble_eq_true rfl, Nat.le_of_ble_eq_true rfl⟩) (fun r_2 e_2 => ?_)
  subst e_2
  refine lv_istore_n (lv' := [(3, .int (cs_od ri u)), (0, .ref a), (1, .int v), (2, .int u)]) hx hb dX0_takeByte_5 rfl hl (by decide) rfl (fun ls hl => ?_)
  refine lv_iload_n hx hb dX0_takeByte_6 rfl (lv_at hl 2 rfl) ?_
  refine lv_istore (lv' := [(4, .int v), (3, .int (cs_od ri u)), (0, .ref a), (1, .int v), (2, .int u)]) hx hb dX0_takeByte_7 hl (by decide) rfl (fun ls hl => ?_)
  refine lv_bipush (v := 7) hx hb dX0_takeByte_9 (by decide) ?_
  refine lv_istore (lv' := [(5, .int 7), (4, .int v), (3, .int (cs_od ri u)), (0, .ref a), (1, .int v), (2, .int u)]) hx hb dX0_takeByte_11 hl (by decide) rfl (fun ls hl => ?_)
  exact loop 8 v _ (by decide) (by decide) rfl ls (lv_sub hl [3, 2, 1, 0] rfl)
end
section
theorem dX2_init_0 : decode cX2_init 0 = .ok (.aload_n 0, 1) := by decide +kernel
theorem dX2_init_1 : decode cX2_init 1 = .ok (.invokespecial 1, 3) := by decide +kernel
theorem dX2_init_4 : decode cX2_init 4 = .ok (.aload_n 0, 1) := by decide +kernel
theorem dX2_init_5 : decode cX2_init 5 = .ok (.bipush 6, 2) := by decide +kernel
theorem dX2_init_7 : decode cX2_init 7 = .ok (.newarray .int, 2) := by decide +kernel
theorem dX2_init_9 : decode cX2_init 9 = .ok (.putfield 7, 3) := by decide +kernel
theorem dX2_init_12 : decode cX2_init 12 = .ok (.aload_n 0, 1) := by decide +kernel
theorem dX2_init_13 : decode cX2_init 13 = .ok (.bipush 6, 2) := by decide +kernel
theorem dX2_init_15 : decode cX2_init 15 = .ok (.newarray .int, 2) := by decide +kernel
theorem dX2_init_17 : decode cX2_init 17 = .ok (.putfield 13, 3) := by decide +kernel
theorem dX2_init_20 : decode cX2_init 20 = .ok (.aload_n 0, 1) := by decide +kernel
theorem dX2_init_21 : decode cX2_init 21 = .ok (.bipush 6, 2) := by decide +kernel
theorem dX2_init_23 : decode cX2_init 23 = .ok (.newarray .int, 2) := by decide +kernel
theorem dX2_init_25 : decode cX2_init 25 = .ok (.putfield 16, 3) := by decide +kernel
theorem dX2_init_28 : decode cX2_init 28 = .ok (.aload_n 0, 1) := by decide +kernel
theorem dX2_init_29 : decode cX2_init 29 = .ok (.bipush 6, 2) := by decide +kernel
theorem dX2_init_31 : decode cX2_init 31 = .ok (.newarray .int, 2) := by decide +kernel
theorem dX2_init_33 : decode cX2_init 33 = .ok (.putfield 19, 3) := by decide +kernel
theorem dX2_init_36 : decode cX2_init 36 = .ok (.aload_n 0, 1) := by decide +kernel
theorem dX2_init_37 : decode cX2_init 37 = .ok (.bipush 6, 2) := by decide +kernel
theorem dX2_init_39 : decode cX2_init 39 = .ok (.newarray .boolean, 2) := by decide +kernel
theorem dX2_init_41 : decode cX2_init 41 = .ok (.putfield 22, 3) := by decide +kernel
theorem dX2_init_44 : decode cX2_init 44 = .ok (.aload_n 0, 1) := by decide +kernel
theorem dX2_init_45 : decode cX2_init 45 = .ok (.bipush 6, 2) := by decide +kernel
theorem dX2_init_47 : decode cX2_init 47 = .ok (.newarray .boolean, 2) := by decide +kernel
theorem dX2_init_49 : decode cX2_init 49 = .ok (.putfield 26, 3) := by decide +kernel
theorem dX2_init_52 : decode cX2_init 52 = .ok (.aload_n 0, 1) := by decide +kernel
theorem dX2_init_53 : decode cX2_init 53 = .ok (.sipush 1024, 3) := by decide +kernel
theorem dX2_init_56 : decode cX2_init 56 = .ok (.newarray .int, 2) := by decide +kernel
theorem dX2_init_58 : decode cX2_init 58 = .ok (.putfield 29, 3) := by decide +kernel
theorem dX2_init_61 : decode cX2_init 61 = .ok (.aload_n 0, 1) := by decide +kernel
theorem dX2_init_62 : decode cX2_init 62 = .ok (.iconst 4, 1) := by decide +kernel
theorem dX2_init_63 : decode cX2_init 63 = .ok (.newarray .int, 2) := by decide +kernel
theorem dX2_init_65 : decode cX2_init 65 = .ok (.putfield 32, 3) := by decide +kernel
theorem dX2_init_68 : decode cX2_init 68 = .ok (.return_, 1) := by decide +kernel
theorem dX2_thrown_0 : decode cX2_thrown 0 = .ok (.aload_n 0, 1) := by decide +kernel
theorem dX2_thrown_1 : decode cX2_thrown 1 = .ok (.getfield 35, 3) := by decide +kernel
theorem dX2_thrown_4 : decode cX2_thrown 4 = .ok (.ireturn, 1) := by decide +kernel
theorem dX2_in_0 : decode cX2_in 0 = .ok (.iload_n 0, 1) := by decide +kernel
theorem dX2_in_1 : decode cX2_in 1 = .ok (.iload_n 1, 1) := by decide +kernel
theorem dX2_in_2 : decode cX2_in 2 = .ok (.if_icmp .lt 12, 3) := by decide +kernel
theorem dX2_in_5 : decode cX2_in 5 = .ok (.iload_n 0, 1) := by decide +kernel
theorem dX2_in_6 : decode cX2_in 6 = .ok (.iload_n 2, 1) := by decide +kernel
theorem dX2_in_7 : decode cX2_in 7 = .ok (.if_icmp .gt 7, 3) := by decide +kernel
theorem dX2_in_10 : decode cX2_in 10 = .ok (.iconst 1, 1) := by decide +kernel
theorem dX2_in_11 : decode cX2_in 11 = .ok (.goto 4, 3) := by decide +kernel
theorem dX2_in_14 : decode cX2_in 14 = .ok (.iconst 0, 1) := by decide +kernel
theorem dX2_in_15 : decode cX2_in 15 = .ok (.ireturn, 1) := by decide +kernel
set_option maxRecDepth 20000 in
theorem ggX2_isModel_X2_in : GoodIn wsX2_isModel wsX2_in := goodIn_r _ [5] (by decide +kernel) (by decide +kernel)
set_option maxRecDepth 20000 in
theorem gX2_isModel_X2_in : GoodIn wsX2_isModel (va_wsS RX2 42 yX2_in wsX2_in) := goodIn_app (goodIn_of _ (by decide +kernel)) ggX2_isModel_X2_in
theorem dX2_isModel_0 : decode cX2_isModel 0 = .ok (.iload_n 1, 1) := by decide +kernel
theorem dX2_isModel_1 : decode cX2_isModel 1 = .ok (.iconst 0, 1) := by decide +kernel
theorem dX2_isModel_2 : decode cX2_isModel 2 = .ok (.aload_n 0, 1) := by decide +kernel
theorem dX2_isModel_3 : decode cX2_isModel 3 = .ok (.getfield 39, 3) := by decide +kernel
theorem dX2_isModel_6 : decode cX2_isModel 6 = .ok (.iconst 1, 1) := by decide +kernel
theorem dX2_isModel_7 : decode cX2_isModel 7 = .ok (.isub, 1) := by decide +kernel
theorem dX2_isModel_8 : decode cX2_isModel 8 = .ok (.invokestatic 42, 3) := by decide +kernel
theorem dX2_isModel_11 : decode cX2_isModel 11 = .ok (.ireturn, 1) := by decide +kernel
set_option maxRecDepth 20000 in
theorem ggX2_isRow_X2_in : GoodIn wsX2_isRow wsX2_in := goodIn_r _ [4] (by decide +kernel) (by decide +kernel)
set_option maxRecDepth 20000 in
theorem gX2_isRow_X2_in : GoodIn wsX2_isRow (va_wsS RX2 42 yX2_in wsX2_in) := goodIn_app (goodIn_of _ (by decide +kernel)) ggX2_isRow_X2_in
theorem dX2_isRow_0 : decode cX2_isRow 0 = .ok (.iload_n 0, 1) := by decide +kernel
theorem dX2_isRow_1 : decode cX2_isRow 1 = .ok (.iconst 0, 1) := by decide +kernel
theorem dX2_isRow_2 : decode cX2_isRow 2 = .ok (.iconst 3, 1) := by decide +kernel
theorem dX2_isRow_3 : decode cX2_isRow 3 = .ok (.invokestatic 42, 3) := by decide +kernel
theorem dX2_isRow_6 : decode cX2_isRow 6 = .ok (.ireturn, 1) := by decide +kernel
set_option maxRecDepth 20000 in
theorem ggX2_isByte_X2_in : GoodIn wsX2_isByte wsX2_in := goodIn_r _ [4] (by decide +kernel) (by decide +kernel)
set_option maxRecDepth 20000 in
theorem gX2_isByte_X2_in : GoodIn wsX2_isByte (va_wsS RX2 42 yX2_in wsX2_in) := goodIn_app (goodIn_of _ (by decide +kernel)) ggX2_isByte_X2_in
theorem dX2_isByte_0 : decode cX2_isByte 0 = .ok (.iload_n 0, 1) := by decide +kernel
theorem dX2_isByte_1 : decode cX2_isByte 1 = .ok (.iconst 0, 1) := by decide +kernel
theorem dX2_isByte_2 : decode cX2_isByte 2 = .ok (.sipush 255, 3) := by decide +kernel
theorem dX2_isByte_5 : decode cX2_isByte 5 = .ok (.invokestatic 42, 3) := by decide +kernel
theorem dX2_isByte_8 : decode cX2_isByte 8 = .ok (.ireturn, 1) := by decide +kernel
theorem dX2_hasBits_0 : decode cX2_hasBits 0 = .ok (.iload_n 1, 1) := by decide +kernel
theorem dX2_hasBits_1 : decode cX2_hasBits 1 = .ok (.bipush 32, 2) := by decide +kernel
theorem dX2_hasBits_3 : decode cX2_hasBits 3 = .ok (.if_icmp .eq 9, 3) := by decide +kernel
theorem dX2_hasBits_6 : decode cX2_hasBits 6 = .ok (.iload_n 0, 1) := by decide +kernel
theorem dX2_hasBits_7 : decode cX2_hasBits 7 = .ok (.iload_n 1, 1) := by decide +kernel
theorem dX2_hasBits_8 : decode cX2_hasBits 8 = .ok (.iushr, 1) := by decide +kernel
theorem dX2_hasBits_9 : decode cX2_hasBits 9 = .ok (.ifCond .ne 7, 3) := by decide +kernel
theorem dX2_hasBits_12 : decode cX2_hasBits 12 = .ok (.iconst 1, 1) := by decide +kernel
theorem dX2_hasBits_13 : decode cX2_hasBits 13 = .ok (.goto 4, 3) := by decide +kernel
theorem dX2_hasBits_16 : decode cX2_hasBits 16 = .ok (.iconst 0, 1) := by decide +kernel
theorem dX2_hasBits_17 : decode cX2_hasBits 17 = .ok (.ireturn, 1) := by decide +kernel
set_option maxRecDepth 20000 in
theorem ggX2_isNumber_X2_hasBits : GoodIn wsX2_isNumber wsX2_hasBits := goodIn_r _ [5] (by decide +kernel) (by decide +kernel)
set_option maxRecDepth 20000 in
theorem gX2_isNumber_X2_hasBits : GoodIn wsX2_isNumber (va_wsS RX2 46 yX2_hasBits wsX2_hasBits) := goodIn_app (goodIn_of _ (by decide +kernel)) ggX2_isNumber_X2_hasBits
theorem dX2_isNumber_0 : decode cX2_isNumber 0 = .ok (.iload_n 2, 1) := by decide +kernel
theorem dX2_isNumber_1 : decode cX2_isNumber 1 = .ok (.aload_n 0, 1) := by decide +kernel
theorem dX2_isNumber_2 : decode cX2_isNumber 2 = .ok (.getfield 7, 3) := by decide +kernel
theorem dX2_isNumber_5 : decode cX2_isNumber 5 = .ok (.iload_n 1, 1) := by decide +kernel
theorem dX2_isNumber_6 : decode cX2_isNumber 6 = .ok (.iaload, 1) := by decide +kernel
theorem dX2_isNumber_7 : decode cX2_isNumber 7 = .ok (.invokestatic 46, 3) := by decide +kernel
theorem dX2_isNumber_10 : decode cX2_isNumber 10 = .ok (.ireturn, 1) := by decide +kernel
theorem dX2_asked_0 : decode cX2_asked 0 = .ok (.aload_n 0, 1) := by decide +kernel
theorem dX2_asked_1 : decode cX2_asked 1 = .ok (.iload_n 1, 1) := by decide +kernel
theorem dX2_asked_2 : decode cX2_asked 2 = .ok (.ifCond .eq 7, 3) := by decide +kernel
theorem dX2_asked_5 : decode cX2_asked 5 = .ok (.iconst 0, 1) := by decide +kernel
theorem dX2_asked_6 : decode cX2_asked 6 = .ok (.goto 4, 3) := by decide +kernel
theorem dX2_asked_9 : decode cX2_asked 9 = .ok (.iconst 1, 1) := by decide +kernel
theorem dX2_asked_10 : decode cX2_asked 10 = .ok (.putfield 35, 3) := by decide +kernel
theorem dX2_asked_13 : decode cX2_asked 13 = .ok (.iload_n 1, 1) := by decide +kernel
theorem dX2_asked_14 : decode cX2_asked 14 = .ok (.ireturn, 1) := by decide +kernel
theorem dX2_asked__0 : decode cX2_asked_ 0 = .ok (.aload_n 0, 1) := by decide +kernel
theorem dX2_asked__1 : decode cX2_asked_ 1 = .ok (.iload_n 1, 1) := by decide +kernel
theorem dX2_asked__2 : decode cX2_asked_ 2 = .ok (.ifCond .ne 7, 3) := by decide +kernel
theorem dX2_asked__5 : decode cX2_asked_ 5 = .ok (.iconst 1, 1) := by decide +kernel
theorem dX2_asked__6 : decode cX2_asked_ 6 = .ok (.goto 12, 3) := by decide +kernel
theorem dX2_asked__9 : decode cX2_asked_ 9 = .ok (.iload_n 2, 1) := by decide +kernel
theorem dX2_asked__10 : decode cX2_asked_ 10 = .ok (.ifCond .eq 7, 3) := by decide +kernel
theorem dX2_asked__13 : decode cX2_asked_ 13 = .ok (.iconst 0, 1) := by decide +kernel
theorem dX2_asked__14 : decode cX2_asked_ 14 = .ok (.goto 4, 3) := by decide +kernel
theorem dX2_asked__17 : decode cX2_asked_ 17 = .ok (.iconst 2, 1) := by decide +kernel
theorem dX2_asked__18 : decode cX2_asked_ 18 = .ok (.putfield 35, 3) := by decide +kernel
theorem dX2_asked__21 : decode cX2_asked_ 21 = .ok (.aload_n 0, 1) := by decide +kernel
theorem dX2_asked__22 : decode cX2_asked_ 22 = .ok (.getfield 35, 3) := by decide +kernel
theorem dX2_asked__25 : decode cX2_asked_ 25 = .ok (.ifCond .ne 7, 3) := by decide +kernel
theorem dX2_asked__28 : decode cX2_asked_ 28 = .ok (.iconst 1, 1) := by decide +kernel
theorem dX2_asked__29 : decode cX2_asked_ 29 = .ok (.goto 4, 3) := by decide +kernel
theorem dX2_asked__32 : decode cX2_asked_ 32 = .ok (.iconst 0, 1) := by decide +kernel
theorem dX2_asked__33 : decode cX2_asked_ 33 = .ok (.ireturn, 1) := by decide +kernel
theorem dX2_timesX_0 : decode cX2_timesX 0 = .ok (.iload_n 2, 1) := by decide +kernel
theorem dX2_timesX_1 : decode cX2_timesX 1 = .ok (.aload_n 0, 1) := by decide +kernel
theorem dX2_timesX_2 : decode cX2_timesX 2 = .ok (.getfield 7, 3) := by decide +kernel
theorem dX2_timesX_5 : decode cX2_timesX 5 = .ok (.iload_n 1, 1) := by decide +kernel
theorem dX2_timesX_6 : decode cX2_timesX 6 = .ok (.iaload, 1) := by decide +kernel
theorem dX2_timesX_7 : decode cX2_timesX 7 = .ok (.iconst 1, 1) := by decide +kernel
theorem dX2_timesX_8 : decode cX2_timesX 8 = .ok (.isub, 1) := by decide +kernel
theorem dX2_timesX_9 : decode cX2_timesX 9 = .ok (.iushr, 1) := by decide +kernel
theorem dX2_timesX_10 : decode cX2_timesX 10 = .ok (.iconst 1, 1) := by decide +kernel
theorem dX2_timesX_11 : decode cX2_timesX 11 = .ok (.iand, 1) := by decide +kernel
theorem dX2_timesX_12 : decode cX2_timesX 12 = .ok (.iconst 1, 1) := by decide +kernel
theorem dX2_timesX_13 : decode cX2_timesX 13 = .ok (.if_icmp .ne 7, 3) := by decide +kernel
theorem dX2_timesX_16 : decode cX2_timesX 16 = .ok (.iconst 1, 1) := by decide +kernel
theorem dX2_timesX_17 : decode cX2_timesX 17 = .ok (.goto 4, 3) := by decide +kernel
theorem dX2_timesX_20 : decode cX2_timesX 20 = .ok (.iconst 0, 1) := by decide +kernel
theorem dX2_timesX_21 : decode cX2_timesX 21 = .ok (.istore_n 3, 1) := by decide +kernel
theorem dX2_timesX_22 : decode cX2_timesX 22 = .ok (.aload_n 0, 1) := by decide +kernel
theorem dX2_timesX_23 : decode cX2_timesX 23 = .ok (.getfield 7, 3) := by decide +kernel
theorem dX2_timesX_26 : decode cX2_timesX 26 = .ok (.iload_n 1, 1) := by decide +kernel
theorem dX2_timesX_27 : decode cX2_timesX 27 = .ok (.iaload, 1) := by decide +kernel
theorem dX2_timesX_28 : decode cX2_timesX 28 = .ok (.bipush 32, 2) := by decide +kernel
theorem dX2_timesX_30 : decode cX2_timesX 30 = .ok (.if_icmp .ne 9, 3) := by decide +kernel
theorem dX2_timesX_33 : decode cX2_timesX 33 = .ok (.iload_n 2, 1) := by decide +kernel
theorem dX2_timesX_34 : decode cX2_timesX 34 = .ok (.iconst 1, 1) := by decide +kernel
theorem dX2_timesX_35 : decode cX2_timesX 35 = .ok (.ishl, 1) := by decide +kernel
theorem dX2_timesX_36 : decode cX2_timesX 36 = .ok (.goto 17, 3) := by decide +kernel
theorem dX2_timesX_39 : decode cX2_timesX 39 = .ok (.iload_n 2, 1) := by decide +kernel
theorem dX2_timesX_40 : decode cX2_timesX 40 = .ok (.iconst 1, 1) := by decide +kernel
theorem dX2_timesX_41 : decode cX2_timesX 41 = .ok (.ishl, 1) := by decide +kernel
theorem dX2_timesX_42 : decode cX2_timesX 42 = .ok (.iconst 1, 1) := by decide +kernel
theorem dX2_timesX_43 : decode cX2_timesX 43 = .ok (.aload_n 0, 1) := by decide +kernel
theorem dX2_timesX_44 : decode cX2_timesX 44 = .ok (.getfield 7, 3) := by decide +kernel
theorem dX2_timesX_47 : decode cX2_timesX 47 = .ok (.iload_n 1, 1) := by decide +kernel
theorem dX2_timesX_48 : decode cX2_timesX 48 = .ok (.iaload, 1) := by decide +kernel
theorem dX2_timesX_49 : decode cX2_timesX 49 = .ok (.ishl, 1) := by decide +kernel
theorem dX2_timesX_50 : decode cX2_timesX 50 = .ok (.iconst 1, 1) := by decide +kernel
theorem dX2_timesX_51 : decode cX2_timesX 51 = .ok (.isub, 1) := by decide +kernel
theorem dX2_timesX_52 : decode cX2_timesX 52 = .ok (.iand, 1) := by decide +kernel
theorem dX2_timesX_53 : decode cX2_timesX 53 = .ok (.istore 4, 2) := by decide +kernel
theorem dX2_timesX_55 : decode cX2_timesX 55 = .ok (.iload_n 3, 1) := by decide +kernel
theorem dX2_timesX_56 : decode cX2_timesX 56 = .ok (.ifCond .eq 15, 3) := by decide +kernel
theorem dX2_timesX_59 : decode cX2_timesX 59 = .ok (.iload 4, 2) := by decide +kernel
theorem dX2_timesX_61 : decode cX2_timesX 61 = .ok (.aload_n 0, 1) := by decide +kernel
theorem dX2_timesX_62 : decode cX2_timesX 62 = .ok (.getfield 13, 3) := by decide +kernel
theorem dX2_timesX_65 : decode cX2_timesX 65 = .ok (.iload_n 1, 1) := by decide +kernel
theorem dX2_timesX_66 : decode cX2_timesX 66 = .ok (.iaload, 1) := by decide +kernel
theorem dX2_timesX_67 : decode cX2_timesX 67 = .ok (.ixor, 1) := by decide +kernel
theorem dX2_timesX_68 : decode cX2_timesX 68 = .ok (.goto 5, 3) := by decide +kernel
theorem dX2_timesX_71 : decode cX2_timesX 71 = .ok (.iload 4, 2) := by decide +kernel
theorem dX2_timesX_73 : decode cX2_timesX 73 = .ok (.ireturn, 1) := by decide +kernel
set_option maxRecDepth 20000 in
theorem ggX2_times_X2_timesX : GoodIn wsX2_times wsX2_timesX := goodIn_r _ [5, 6, 7, 8, 9, 10, 11, 12, 13, 14, 15, 16, 17] (by decide +kernel) (by decide +kernel)
set_option maxRecDepth 20000 in
theorem gX2_times_X2_timesX : GoodIn wsX2_times (wsV RX2 50 RX2 yX2_timesX wsX2_timesX) := goodIn_app (goodIn_of _ (by decide +kernel)) ggX2_times_X2_timesX
theorem dX2_times_0 : decode cX2_times 0 = .ok (.iconst 0, 1) := by decide +kernel
theorem dX2_times_1 : decode cX2_times 1 = .ok (.istore 5, 2) := by decide +kernel
theorem dX2_times_3 : decode cX2_times 3 = .ok (.iload 4, 2) := by decide +kernel
theorem dX2_times_5 : decode cX2_times 5 = .ok (.iconst 1, 1) := by decide +kernel
theorem dX2_times_6 : decode cX2_times 6 = .ok (.isub, 1) := by decide +kernel
theorem dX2_times_7 : decode cX2_times 7 = .ok (.istore 6, 2) := by decide +kernel
theorem dX2_times_9 : decode cX2_times 9 = .ok (.iload 6, 2) := by decide +kernel
theorem dX2_times_11 : decode cX2_times 11 = .ok (.ifCond .lt 39, 3) := by decide +kernel
theorem dX2_times_14 : decode cX2_times 14 = .ok (.aload_n 0, 1) := by decide +kernel
theorem dX2_times_15 : decode cX2_times 15 = .ok (.iload_n 1, 1) := by decide +kernel
theorem dX2_times_16 : decode cX2_times 16 = .ok (.iload 5, 2) := by decide +kernel
theorem dX2_times_18 : decode cX2_times 18 = .ok (.invokevirtual 50, 3) := by decide +kernel
theorem dX2_times_21 : decode cX2_times 21 = .ok (.istore 5, 2) := by decide +kernel
theorem dX2_times_23 : decode cX2_times 23 = .ok (.iload_n 3, 1) := by decide +kernel
theorem dX2_times_24 : decode cX2_times 24 = .ok (.iload 6, 2) := by decide +kernel
theorem dX2_times_26 : decode cX2_times 26 = .ok (.iushr, 1) := by decide +kernel
theorem dX2_times_27 : decode cX2_times 27 = .ok (.iconst 1, 1) := by decide +kernel
theorem dX2_times_28 : decode cX2_times 28 = .ok (.iand, 1) := by decide +kernel
theorem dX2_times_29 : decode cX2_times 29 = .ok (.iconst 1, 1) := by decide +kernel
theorem dX2_times_30 : decode cX2_times 30 = .ok (.if_icmp .ne 10, 3) := by decide +kernel
theorem dX2_times_33 : decode cX2_times 33 = .ok (.iload 5, 2) := by decide +kernel
theorem dX2_times_35 : decode cX2_times 35 = .ok (.iload_n 2, 1) := by decide +kernel
theorem dX2_times_36 : decode cX2_times 36 = .ok (.ixor, 1) := by decide +kernel
theorem dX2_times_37 : decode cX2_times 37 = .ok (.goto 5, 3) := by decide +kernel
theorem dX2_times_40 : decode cX2_times 40 = .ok (.iload 5, 2) := by decide +kernel
theorem dX2_times_42 : decode cX2_times 42 = .ok (.istore 5, 2) := by decide +kernel
theorem dX2_times_44 : decode cX2_times 44 = .ok (.iinc 6 (-1), 3) := by decide +kernel
theorem dX2_times_47 : decode cX2_times 47 = .ok (.goto (-38), 3) := by decide +kernel
theorem dX2_times_50 : decode cX2_times 50 = .ok (.iload 5, 2) := by decide +kernel
theorem dX2_times_52 : decode cX2_times 52 = .ok (.ireturn, 1) := by decide +kernel
set_option maxRecDepth 20000 in
theorem ggX2_powerOf_X2_times : GoodIn wsX2_powerOf wsX2_times := goodIn_r _ [6, 7, 8, 9, 5, 10, 1, 11, 12, 13, 14, 15, 16, 17, 18, 19, 20, 21] (by decide +kernel) (by decide +kernel)
set_option maxRecDepth 20000 in
theorem gX2_powerOf_X2_times : GoodIn wsX2_powerOf (wsV RX2 54 RX2 yX2_times wsX2_times) := goodIn_app (goodIn_of _ (by decide +kernel)) ggX2_powerOf_X2_times
set_option maxRecDepth 20000 in
theorem ggX2_powerOf_X2_timesX : GoodIn wsX2_powerOf wsX2_timesX := goodIn_r _ [10, 1, 11, 12, 13, 14, 15, 16, 17, 18, 19, 20, 21] (by decide +kernel) (by decide +kernel)
set_option maxRecDepth 20000 in
theorem gX2_powerOf_X2_timesX : GoodIn wsX2_powerOf (wsV RX2 50 RX2 yX2_timesX wsX2_timesX) := goodIn_app (goodIn_of _ (by decide +kernel)) ggX2_powerOf_X2_timesX
theorem dX2_powerOf_0 : decode cX2_powerOf 0 = .ok (.iconst 1, 1) := by decide +kernel
theorem dX2_powerOf_1 : decode cX2_powerOf 1 = .ok (.istore 4, 2) := by decide +kernel
theorem dX2_powerOf_3 : decode cX2_powerOf 3 = .ok (.bipush 62, 2) := by decide +kernel
theorem dX2_powerOf_5 : decode cX2_powerOf 5 = .ok (.istore 5, 2) := by decide +kernel
theorem dX2_powerOf_7 : decode cX2_powerOf 7 = .ok (.iload 5, 2) := by decide +kernel
theorem dX2_powerOf_9 : decode cX2_powerOf 9 = .ok (.ifCond .lt 51, 3) := by decide +kernel
theorem dX2_powerOf_12 : decode cX2_powerOf 12 = .ok (.aload_n 0, 1) := by decide +kernel
theorem dX2_powerOf_13 : decode cX2_powerOf 13 = .ok (.iload_n 1, 1) := by decide +kernel
theorem dX2_powerOf_14 : decode cX2_powerOf 14 = .ok (.iload 4, 2) := by decide +kernel
theorem dX2_powerOf_16 : decode cX2_powerOf 16 = .ok (.iload 4, 2) := by decide +kernel
theorem dX2_powerOf_18 : decode cX2_powerOf 18 = .ok (.aload_n 0, 1) := by decide +kernel
theorem dX2_powerOf_19 : decode cX2_powerOf 19 = .ok (.getfield 7, 3) := by decide +kernel
theorem dX2_powerOf_22 : decode cX2_powerOf 22 = .ok (.iload_n 1, 1) := by decide +kernel
theorem dX2_powerOf_23 : decode cX2_powerOf 23 = .ok (.iaload, 1) := by decide +kernel
theorem dX2_powerOf_24 : decode cX2_powerOf 24 = .ok (.invokevirtual 54, 3) := by decide +kernel
theorem dX2_powerOf_27 : decode cX2_powerOf 27 = .ok (.istore 4, 2) := by decide +kernel
theorem dX2_powerOf_29 : decode cX2_powerOf 29 = .ok (.lload_n 2, 1) := by decide +kernel
theorem dX2_powerOf_30 : decode cX2_powerOf 30 = .ok (.iload 5, 2) := by decide +kernel
theorem dX2_powerOf_32 : decode cX2_powerOf 32 = .ok (.lshr, 1) := by decide +kernel
theorem dX2_powerOf_33 : decode cX2_powerOf 33 = .ok (.lconst 1, 1) := by decide +kernel
theorem dX2_powerOf_34 : decode cX2_powerOf 34 = .ok (.land, 1) := by decide +kernel
theorem dX2_powerOf_35 : decode cX2_powerOf 35 = .ok (.lconst 1, 1) := by decide +kernel
theorem dX2_powerOf_36 : decode cX2_powerOf 36 = .ok (.lcmp, 1) := by decide +kernel
theorem dX2_powerOf_37 : decode cX2_powerOf 37 = .ok (.ifCond .ne 13, 3) := by decide +kernel
theorem dX2_powerOf_40 : decode cX2_powerOf 40 = .ok (.aload_n 0, 1) := by decide +kernel
theorem dX2_powerOf_41 : decode cX2_powerOf 41 = .ok (.iload_n 1, 1) := by decide +kernel
theorem dX2_powerOf_42 : decode cX2_powerOf 42 = .ok (.iload 4, 2) := by decide +kernel
theorem dX2_powerOf_44 : decode cX2_powerOf 44 = .ok (.invokevirtual 50, 3) := by decide +kernel
theorem dX2_powerOf_47 : decode cX2_powerOf 47 = .ok (.goto 5, 3) := by decide +kernel
theorem dX2_powerOf_50 : decode cX2_powerOf 50 = .ok (.iload 4, 2) := by decide +kernel
theorem dX2_powerOf_52 : decode cX2_powerOf 52 = .ok (.istore 4, 2) := by decide +kernel
theorem dX2_powerOf_54 : decode cX2_powerOf 54 = .ok (.iinc 5 (-1), 3) := by decide +kernel
theorem dX2_powerOf_57 : decode cX2_powerOf 57 = .ok (.goto (-50), 3) := by decide +kernel
theorem dX2_powerOf_60 : decode cX2_powerOf 60 = .ok (.iload 4, 2) := by decide +kernel
theorem dX2_powerOf_62 : decode cX2_powerOf 62 = .ok (.ireturn, 1) := by decide +kernel
theorem dX2_reversed_0 : decode cX2_reversed 0 = .ok (.iconst 0, 1) := by decide +kernel
theorem dX2_reversed_1 : decode cX2_reversed 1 = .ok (.istore_n 2, 1) := by decide +kernel
theorem dX2_reversed_2 : decode cX2_reversed 2 = .ok (.iconst 0, 1) := by decide +kernel
theorem dX2_reversed_3 : decode cX2_reversed 3 = .ok (.istore_n 3, 1) := by decide +kernel
theorem dX2_reversed_4 : decode cX2_reversed 4 = .ok (.iload_n 3, 1) := by decide +kernel
theorem dX2_reversed_5 : decode cX2_reversed 5 = .ok (.iload_n 1, 1) := by decide +kernel
theorem dX2_reversed_6 : decode cX2_reversed 6 = .ok (.if_icmp .ge 23, 3) := by decide +kernel
theorem dX2_reversed_9 : decode cX2_reversed 9 = .ok (.iload_n 2, 1) := by decide +kernel
theorem dX2_reversed_10 : decode cX2_reversed 10 = .ok (.iload_n 0, 1) := by decide +kernel
theorem dX2_reversed_11 : decode cX2_reversed 11 = .ok (.iload_n 3, 1) := by decide +kernel
theorem dX2_reversed_12 : decode cX2_reversed 12 = .ok (.iushr, 1) := by decide +kernel
theorem dX2_reversed_13 : decode cX2_reversed 13 = .ok (.iconst 1, 1) := by decide +kernel
theorem dX2_reversed_14 : decode cX2_reversed 14 = .ok (.iand, 1) := by decide +kernel
theorem dX2_reversed_15 : decode cX2_reversed 15 = .ok (.iload_n 1, 1) := by decide +kernel
theorem dX2_reversed_16 : decode cX2_reversed 16 = .ok (.iconst 1, 1) := by decide +kernel
theorem dX2_reversed_17 : decode cX2_reversed 17 = .ok (.isub, 1) := by decide +kernel
theorem dX2_reversed_18 : decode cX2_reversed 18 = .ok (.iload_n 3, 1) := by decide +kernel
theorem dX2_reversed_19 : decode cX2_reversed 19 = .ok (.isub, 1) := by decide +kernel
theorem dX2_reversed_20 : decode cX2_reversed 20 = .ok (.ishl, 1) := by decide +kernel
theorem dX2_reversed_21 : decode cX2_reversed 21 = .ok (.ior, 1) := by decide +kernel
theorem dX2_reversed_22 : decode cX2_reversed 22 = .ok (.istore_n 2, 1) := by decide +kernel
theorem dX2_reversed_23 : decode cX2_reversed 23 = .ok (.iinc 3 1, 3) := by decide +kernel
theorem dX2_reversed_26 : decode cX2_reversed 26 = .ok (.goto (-22), 3) := by decide +kernel
theorem dX2_reversed_29 : decode cX2_reversed 29 = .ok (.iload_n 2, 1) := by decide +kernel
theorem dX2_reversed_30 : decode cX2_reversed 30 = .ok (.ireturn, 1) := by decide +kernel
set_option maxRecDepth 20000 in
theorem ggX2_registerOf_X2_reversed : GoodIn wsX2_registerOf wsX2_reversed := goodIn_r _ [7] (by decide +kernel) (by decide +kernel)
set_option maxRecDepth 20000 in
theorem gX2_registerOf_X2_reversed : GoodIn wsX2_registerOf (va_wsS RX2 58 yX2_reversed wsX2_reversed) := goodIn_app (goodIn_of _ (by decide +kernel)) ggX2_registerOf_X2_reversed
theorem dX2_registerOf_0 : decode cX2_registerOf 0 = .ok (.iload_n 2, 1) := by decide +kernel
theorem dX2_registerOf_1 : decode cX2_registerOf 1 = .ok (.aload_n 0, 1) := by decide +kernel
theorem dX2_registerOf_2 : decode cX2_registerOf 2 = .ok (.getfield 19, 3) := by decide +kernel
theorem dX2_registerOf_5 : decode cX2_registerOf 5 = .ok (.iload_n 1, 1) := by decide +kernel
theorem dX2_registerOf_6 : decode cX2_registerOf 6 = .ok (.iaload, 1) := by decide +kernel
theorem dX2_registerOf_7 : decode cX2_registerOf 7 = .ok (.ixor, 1) := by decide +kernel
theorem dX2_registerOf_8 : decode cX2_registerOf 8 = .ok (.istore_n 3, 1) := by decide +kernel
theorem dX2_registerOf_9 : decode cX2_registerOf 9 = .ok (.aload_n 0, 1) := by decide +kernel
theorem dX2_registerOf_10 : decode cX2_registerOf 10 = .ok (.getfield 26, 3) := by decide +kernel
theorem dX2_registerOf_13 : decode cX2_registerOf 13 = .ok (.iload_n 1, 1) := by decide +kernel
theorem dX2_registerOf_14 : decode cX2_registerOf 14 = .ok (.baload, 1) := by decide +kernel
theorem dX2_registerOf_15 : decode cX2_registerOf 15 = .ok (.ifCond .eq 16, 3) := by decide +kernel
theorem dX2_registerOf_18 : decode cX2_registerOf 18 = .ok (.iload_n 3, 1) := by decide +kernel
theorem dX2_registerOf_19 : decode cX2_registerOf 19 = .ok (.aload_n 0, 1) := by decide +kernel
theorem dX2_registerOf_20 : decode cX2_registerOf 20 = .ok (.getfield 7, 3) := by decide +kernel
theorem dX2_registerOf_23 : decode cX2_registerOf 23 = .ok (.iload_n 1, 1) := by decide +kernel
theorem dX2_registerOf_24 : decode cX2_registerOf 24 = .ok (.iaload, 1) := by decide +kernel
theorem dX2_registerOf_25 : decode cX2_registerOf 25 = .ok (.invokestatic 58, 3) := by decide +kernel
theorem dX2_registerOf_28 : decode cX2_registerOf 28 = .ok (.goto 4, 3) := by decide +kernel
theorem dX2_registerOf_31 : decode cX2_registerOf 31 = .ok (.iload_n 3, 1) := by decide +kernel
theorem dX2_registerOf_32 : decode cX2_registerOf 32 = .ok (.ireturn, 1) := by decide +kernel
set_option maxRecDepth 20000 in
theorem ggX2_sumOf_X2_reversed : GoodIn wsX2_sumOf wsX2_reversed := goodIn_r _ [7] (by decide +kernel) (by decide +kernel)
set_option maxRecDepth 20000 in
theorem gX2_sumOf_X2_reversed : GoodIn wsX2_sumOf (va_wsS RX2 58 yX2_reversed wsX2_reversed) := goodIn_app (goodIn_of _ (by decide +kernel)) ggX2_sumOf_X2_reversed
theorem dX2_sumOf_0 : decode cX2_sumOf 0 = .ok (.aload_n 0, 1) := by decide +kernel
theorem dX2_sumOf_1 : decode cX2_sumOf 1 = .ok (.getfield 26, 3) := by decide +kernel
theorem dX2_sumOf_4 : decode cX2_sumOf 4 = .ok (.iload_n 1, 1) := by decide +kernel
theorem dX2_sumOf_5 : decode cX2_sumOf 5 = .ok (.baload, 1) := by decide +kernel
theorem dX2_sumOf_6 : decode cX2_sumOf 6 = .ok (.ifCond .eq 16, 3) := by decide +kernel
theorem dX2_sumOf_9 : decode cX2_sumOf 9 = .ok (.iload_n 2, 1) := by decide +kernel
theorem dX2_sumOf_10 : decode cX2_sumOf 10 = .ok (.aload_n 0, 1) := by decide +kernel
theorem dX2_sumOf_11 : decode cX2_sumOf 11 = .ok (.getfield 7, 3) := by decide +kernel
theorem dX2_sumOf_14 : decode cX2_sumOf 14 = .ok (.iload_n 1, 1) := by decide +kernel
theorem dX2_sumOf_15 : decode cX2_sumOf 15 = .ok (.iaload, 1) := by decide +kernel
theorem dX2_sumOf_16 : decode cX2_sumOf 16 = .ok (.invokestatic 58, 3) := by decide +kernel
theorem dX2_sumOf_19 : decode cX2_sumOf 19 = .ok (.goto 4, 3) := by decide +kernel
theorem dX2_sumOf_22 : decode cX2_sumOf 22 = .ok (.iload_n 2, 1) := by decide +kernel
theorem dX2_sumOf_23 : decode cX2_sumOf 23 = .ok (.istore_n 3, 1) := by decide +kernel
theorem dX2_sumOf_24 : decode cX2_sumOf 24 = .ok (.iload_n 3, 1) := by decide +kernel
theorem dX2_sumOf_25 : decode cX2_sumOf 25 = .ok (.aload_n 0, 1) := by decide +kernel
theorem dX2_sumOf_26 : decode cX2_sumOf 26 = .ok (.getfield 19, 3) := by decide +kernel
theorem dX2_sumOf_29 : decode cX2_sumOf 29 = .ok (.iload_n 1, 1) := by decide +kernel
theorem dX2_sumOf_30 : decode cX2_sumOf 30 = .ok (.iaload, 1) := by decide +kernel
theorem dX2_sumOf_31 : decode cX2_sumOf 31 = .ok (.ixor, 1) := by decide +kernel
theorem dX2_sumOf_32 : decode cX2_sumOf 32 = .ok (.ireturn, 1) := by decide +kernel
set_option maxRecDepth 20000 in
theorem ggX2_takes_X2_timesX : GoodIn wsX2_takes wsX2_timesX := goodIn_r _ [7, 2, 8, 9, 10, 11, 12, 13, 14, 15, 16, 17, 18] (by decide +kernel) (by decide +kernel)
set_option maxRecDepth 20000 in
theorem gX2_takes_X2_timesX : GoodIn wsX2_takes (wsV RX2 50 RX2 yX2_timesX wsX2_timesX) := goodIn_app (goodIn_of _ (by decide +kernel)) ggX2_takes_X2_timesX
theorem dX2_takes_0 : decode cX2_takes 0 = .ok (.iload_n 2, 1) := by decide +kernel
theorem dX2_takes_1 : decode cX2_takes 1 = .ok (.istore 4, 2) := by decide +kernel
theorem dX2_takes_3 : decode cX2_takes 3 = .ok (.iconst 0, 1) := by decide +kernel
theorem dX2_takes_4 : decode cX2_takes 4 = .ok (.istore 5, 2) := by decide +kernel
theorem dX2_takes_6 : decode cX2_takes 6 = .ok (.iload 5, 2) := by decide +kernel
theorem dX2_takes_8 : decode cX2_takes 8 = .ok (.bipush 8, 2) := by decide +kernel
theorem dX2_takes_10 : decode cX2_takes 10 = .ok (.if_icmp .ge 55, 3) := by decide +kernel
theorem dX2_takes_13 : decode cX2_takes 13 = .ok (.iload_n 3, 1) := by decide +kernel
theorem dX2_takes_14 : decode cX2_takes 14 = .ok (.aload_n 0, 1) := by decide +kernel
theorem dX2_takes_15 : decode cX2_takes 15 = .ok (.getfield 22, 3) := by decide +kernel
theorem dX2_takes_18 : decode cX2_takes 18 = .ok (.iload_n 1, 1) := by decide +kernel
theorem dX2_takes_19 : decode cX2_takes 19 = .ok (.baload, 1) := by decide +kernel
theorem dX2_takes_20 : decode cX2_takes 20 = .ok (.ifCond .eq 8, 3) := by decide +kernel
theorem dX2_takes_23 : decode cX2_takes 23 = .ok (.iload 5, 2) := by decide +kernel
theorem dX2_takes_25 : decode cX2_takes 25 = .ok (.goto 8, 3) := by decide +kernel
theorem dX2_takes_28 : decode cX2_takes 28 = .ok (.bipush 7, 2) := by decide +kernel
theorem dX2_takes_30 : decode cX2_takes 30 = .ok (.iload 5, 2) := by decide +kernel
theorem dX2_takes_32 : decode cX2_takes 32 = .ok (.isub, 1) := by decide +kernel
theorem dX2_takes_33 : decode cX2_takes 33 = .ok (.ishr, 1) := by decide +kernel
theorem dX2_takes_34 : decode cX2_takes 34 = .ok (.iconst 1, 1) := by decide +kernel
theorem dX2_takes_35 : decode cX2_takes 35 = .ok (.iand, 1) := by decide +kernel
theorem dX2_takes_36 : decode cX2_takes 36 = .ok (.istore 6, 2) := by decide +kernel
theorem dX2_takes_38 : decode cX2_takes 38 = .ok (.aload_n 0, 1) := by decide +kernel
theorem dX2_takes_39 : decode cX2_takes 39 = .ok (.iload_n 1, 1) := by decide +kernel
theorem dX2_takes_40 : decode cX2_takes 40 = .ok (.iload 4, 2) := by decide +kernel
theorem dX2_takes_42 : decode cX2_takes 42 = .ok (.iload 6, 2) := by decide +kernel
theorem dX2_takes_44 : decode cX2_takes 44 = .ok (.aload_n 0, 1) := by decide +kernel
theorem dX2_takes_45 : decode cX2_takes 45 = .ok (.getfield 7, 3) := by decide +kernel
theorem dX2_takes_48 : decode cX2_takes 48 = .ok (.iload_n 1, 1) := by decide +kernel
theorem dX2_takes_49 : decode cX2_takes 49 = .ok (.iaload, 1) := by decide +kernel
theorem dX2_takes_50 : decode cX2_takes 50 = .ok (.iconst 1, 1) := by decide +kernel
theorem dX2_takes_51 : decode cX2_takes 51 = .ok (.isub, 1) := by decide +kernel
theorem dX2_takes_52 : decode cX2_takes 52 = .ok (.ishl, 1) := by decide +kernel
theorem dX2_takes_53 : decode cX2_takes 53 = .ok (.ixor, 1) := by decide +kernel
theorem dX2_takes_54 : decode cX2_takes 54 = .ok (.invokevirtual 50, 3) := by decide +kernel
theorem dX2_takes_57 : decode cX2_takes 57 = .ok (.istore 4, 2) := by decide +kernel
theorem dX2_takes_59 : decode cX2_takes 59 = .ok (.iinc 5 1, 3) := by decide +kernel
theorem dX2_takes_62 : decode cX2_takes 62 = .ok (.goto (-56), 3) := by decide +kernel
theorem dX2_takes_65 : decode cX2_takes 65 = .ok (.iload 4, 2) := by decide +kernel
theorem dX2_takes_67 : decode cX2_takes 67 = .ok (.ireturn, 1) := by decide +kernel
set_option maxRecDepth 20000 in
theorem ggX2_define_X2_in : GoodIn wsX2_define wsX2_in := goodIn_r _ [11] (by decide +kernel) (by decide +kernel)
set_option maxRecDepth 20000 in
theorem gX2_define_X2_in : GoodIn wsX2_define (va_wsS RX2 42 yX2_in wsX2_in) := goodIn_app (goodIn_of _ (by decide +kernel)) ggX2_define_X2_in
set_option maxRecDepth 20000 in
theorem ggX2_define_X2_hasBits : GoodIn wsX2_define wsX2_hasBits := goodIn_r _ [14] (by decide +kernel) (by decide +kernel)
set_option maxRecDepth 20000 in
theorem gX2_define_X2_hasBits : GoodIn wsX2_define (va_wsS RX2 46 yX2_hasBits wsX2_hasBits) := goodIn_app (goodIn_of _ (by decide +kernel)) ggX2_define_X2_hasBits
set_option maxRecDepth 20000 in
theorem ggX2_define_X2_asked_ : GoodIn wsX2_define wsX2_asked_ := goodIn_r _ [18, 19, 20, 21, 22, 23, 24, 25, 26, 27, 28, 29] (by decide +kernel) (by decide +kernel)
set_option maxRecDepth 20000 in
theorem gX2_define_X2_asked_ : GoodIn wsX2_define (wsV RX2 61 RX2 yX2_asked_ wsX2_asked_) := goodIn_app (goodIn_of _ (by decide +kernel)) ggX2_define_X2_asked_
theorem dX2_define_0 : decode cX2_define 0 = .ok (.iload_n 1, 1) := by decide +kernel
theorem dX2_define_1 : decode cX2_define 1 = .ok (.iconst 1, 1) := by decide +kernel
theorem dX2_define_2 : decode cX2_define 2 = .ok (.bipush 32, 2) := by decide +kernel
theorem dX2_define_4 : decode cX2_define 4 = .ok (.invokestatic 42, 3) := by decide +kernel
theorem dX2_define_7 : decode cX2_define 7 = .ok (.ifCond .eq 32, 3) := by decide +kernel
theorem dX2_define_10 : decode cX2_define 10 = .ok (.iload_n 2, 1) := by decide +kernel
theorem dX2_define_11 : decode cX2_define 11 = .ok (.iload_n 1, 1) := by decide +kernel
theorem dX2_define_12 : decode cX2_define 12 = .ok (.invokestatic 46, 3) := by decide +kernel
theorem dX2_define_15 : decode cX2_define 15 = .ok (.ifCond .eq 24, 3) := by decide +kernel
theorem dX2_define_18 : decode cX2_define 18 = .ok (.iload_n 3, 1) := by decide +kernel
theorem dX2_define_19 : decode cX2_define 19 = .ok (.iload_n 1, 1) := by decide +kernel
theorem dX2_define_20 : decode cX2_define 20 = .ok (.invokestatic 46, 3) := by decide +kernel
theorem dX2_define_23 : decode cX2_define 23 = .ok (.ifCond .eq 16, 3) := by decide +kernel
theorem dX2_define_26 : decode cX2_define 26 = .ok (.iload 6, 2) := by decide +kernel
theorem dX2_define_28 : decode cX2_define 28 = .ok (.iload_n 1, 1) := by decide +kernel
theorem dX2_define_29 : decode cX2_define 29 = .ok (.invokestatic 46, 3) := by decide +kernel
theorem dX2_define_32 : decode cX2_define 32 = .ok (.ifCond .eq 7, 3) := by decide +kernel
theorem dX2_define_35 : decode cX2_define 35 = .ok (.iconst 1, 1) := by decide +kernel
theorem dX2_define_36 : decode cX2_define 36 = .ok (.goto 4, 3) := by decide +kernel
theorem dX2_define_39 : decode cX2_define 39 = .ok (.iconst 0, 1) := by decide +kernel
theorem dX2_define_40 : decode cX2_define 40 = .ok (.istore 7, 2) := by decide +kernel
theorem dX2_define_42 : decode cX2_define 42 = .ok (.aload_n 0, 1) := by decide +kernel
theorem dX2_define_43 : decode cX2_define 43 = .ok (.iload 7, 2) := by decide +kernel
theorem dX2_define_45 : decode cX2_define 45 = .ok (.aload_n 0, 1) := by decide +kernel
theorem dX2_define_46 : decode cX2_define 46 = .ok (.getfield 39, 3) := by decide +kernel
theorem dX2_define_49 : decode cX2_define 49 = .ok (.bipush 6, 2) := by decide +kernel
theorem dX2_define_51 : decode cX2_define 51 = .ok (.if_icmp .ge 7, 3) := by decide +kernel
theorem dX2_define_54 : decode cX2_define 54 = .ok (.iconst 1, 1) := by decide +kernel
theorem dX2_define_55 : decode cX2_define 55 = .ok (.goto 4, 3) := by decide +kernel
theorem dX2_define_58 : decode cX2_define 58 = .ok (.iconst 0, 1) := by decide +kernel
theorem dX2_define_59 : decode cX2_define 59 = .ok (.invokevirtual 61, 3) := by decide +kernel
theorem dX2_define_62 : decode cX2_define 62 = .ok (.ifCond .ne 5, 3) := by decide +kernel
theorem dX2_define_65 : decode cX2_define 65 = .ok (.iconst 0, 1) := by decide +kernel
theorem dX2_define_66 : decode cX2_define 66 = .ok (.ireturn, 1) := by decide +kernel
theorem dX2_define_67 : decode cX2_define 67 = .ok (.aload_n 0, 1) := by decide +kernel
theorem dX2_define_68 : decode cX2_define 68 = .ok (.getfield 7, 3) := by decide +kernel
theorem dX2_define_71 : decode cX2_define 71 = .ok (.aload_n 0, 1) := by decide +kernel
theorem dX2_define_72 : decode cX2_define 72 = .ok (.getfield 39, 3) := by decide +kernel
theorem dX2_define_75 : decode cX2_define 75 = .ok (.iload_n 1, 1) := by decide +kernel
theorem dX2_define_76 : decode cX2_define 76 = .ok (.iastore, 1) := by decide +kernel
theorem dX2_define_77 : decode cX2_define 77 = .ok (.aload_n 0, 1) := by decide +kernel
theorem dX2_define_78 : decode cX2_define 78 = .ok (.getfield 13, 3) := by decide +kernel
theorem dX2_define_81 : decode cX2_define 81 = .ok (.aload_n 0, 1) := by decide +kernel
theorem dX2_define_82 : decode cX2_define 82 = .ok (.getfield 39, 3) := by decide +kernel
theorem dX2_define_85 : decode cX2_define 85 = .ok (.iload_n 2, 1) := by decide +kernel
theorem dX2_define_86 : decode cX2_define 86 = .ok (.iastore, 1) := by decide +kernel
theorem dX2_define_87 : decode cX2_define 87 = .ok (.aload_n 0, 1) := by decide +kernel
theorem dX2_define_88 : decode cX2_define 88 = .ok (.getfield 16, 3) := by decide +kernel
theorem dX2_define_91 : decode cX2_define 91 = .ok (.aload_n 0, 1) := by decide +kernel
theorem dX2_define_92 : decode cX2_define 92 = .ok (.getfield 39, 3) := by decide +kernel
theorem dX2_define_95 : decode cX2_define 95 = .ok (.iload_n 3, 1) := by decide +kernel
theorem dX2_define_96 : decode cX2_define 96 = .ok (.iastore, 1) := by decide +kernel
theorem dX2_define_97 : decode cX2_define 97 = .ok (.aload_n 0, 1) := by decide +kernel
theorem dX2_define_98 : decode cX2_define 98 = .ok (.getfield 19, 3) := by decide +kernel
theorem dX2_define_101 : decode cX2_define 101 = .ok (.aload_n 0, 1) := by decide +kernel
theorem dX2_define_102 : decode cX2_define 102 = .ok (.getfield 39, 3) := by decide +kernel
theorem dX2_define_105 : decode cX2_define 105 = .ok (.iload 6, 2) := by decide +kernel
theorem dX2_define_107 : decode cX2_define 107 = .ok (.iastore, 1) := by decide +kernel
theorem dX2_define_108 : decode cX2_define 108 = .ok (.aload_n 0, 1) := by decide +kernel
theorem dX2_define_109 : decode cX2_define 109 = .ok (.getfield 22, 3) := by decide +kernel
theorem dX2_define_112 : decode cX2_define 112 = .ok (.aload_n 0, 1) := by decide +kernel
theorem dX2_define_113 : decode cX2_define 113 = .ok (.getfield 39, 3) := by decide +kernel
theorem dX2_define_116 : decode cX2_define 116 = .ok (.iload 4, 2) := by decide +kernel
theorem dX2_define_118 : decode cX2_define 118 = .ok (.bastore, 1) := by decide +kernel
theorem dX2_define_119 : decode cX2_define 119 = .ok (.aload_n 0, 1) := by decide +kernel
theorem dX2_define_120 : decode cX2_define 120 = .ok (.getfield 26, 3) := by decide +kernel
theorem dX2_define_123 : decode cX2_define 123 = .ok (.aload_n 0, 1) := by decide +kernel
theorem dX2_define_124 : decode cX2_define 124 = .ok (.getfield 39, 3) := by decide +kernel
theorem dX2_define_127 : decode cX2_define 127 = .ok (.iload 5, 2) := by decide +kernel
theorem dX2_define_129 : decode cX2_define 129 = .ok (.bastore, 1) := by decide +kernel
theorem dX2_define_130 : decode cX2_define 130 = .ok (.aload_n 0, 1) := by decide +kernel
theorem dX2_define_131 : decode cX2_define 131 = .ok (.dup, 1) := by decide +kernel
theorem dX2_define_132 : decode cX2_define 132 = .ok (.getfield 39, 3) := by decide +kernel
theorem dX2_define_135 : decode cX2_define 135 = .ok (.iconst 1, 1) := by decide +kernel
theorem dX2_define_136 : decode cX2_define 136 = .ok (.iadd, 1) := by decide +kernel
theorem dX2_define_137 : decode cX2_define 137 = .ok (.putfield 39, 3) := by decide +kernel
theorem dX2_define_140 : decode cX2_define 140 = .ok (.aload_n 0, 1) := by decide +kernel
theorem dX2_define_141 : decode cX2_define 141 = .ok (.getfield 39, 3) := by decide +kernel
theorem dX2_define_144 : decode cX2_define 144 = .ok (.iconst 1, 1) := by decide +kernel
theorem dX2_define_145 : decode cX2_define 145 = .ok (.isub, 1) := by decide +kernel
theorem dX2_define_146 : decode cX2_define 146 = .ok (.ireturn, 1) := by decide +kernel
theorem dX2_models_0 : decode cX2_models 0 = .ok (.aload_n 0, 1) := by decide +kernel
theorem dX2_models_1 : decode cX2_models 1 = .ok (.iconst 0, 1) := by decide +kernel
theorem dX2_models_2 : decode cX2_models 2 = .ok (.putfield 35, 3) := by decide +kernel
theorem dX2_models_5 : decode cX2_models 5 = .ok (.aload_n 0, 1) := by decide +kernel
theorem dX2_models_6 : decode cX2_models 6 = .ok (.getfield 39, 3) := by decide +kernel
theorem dX2_models_9 : decode cX2_models 9 = .ok (.ireturn, 1) := by decide +kernel
set_option maxRecDepth 20000 in
theorem ggX2_check_X2_isModel : GoodIn wsX2_check wsX2_isModel := goodIn_r _ [6, 7, 8, 9, 5, 10, 36, 37, 38, 39, 40, 41, 42, 43, 44, 45] (by decide +kernel) (by decide +kernel)
set_option maxRecDepth 20000 in
theorem gX2_check_X2_isModel : GoodIn wsX2_check (wsV RX2 65 RX2 yX2_isModel wsX2_isModel) := goodIn_app (goodIn_of _ (by decide +kernel)) ggX2_check_X2_isModel
set_option maxRecDepth 20000 in
theorem ggX2_check_X2_asked : GoodIn wsX2_check wsX2_asked := goodIn_r _ [14, 15, 36, 37, 38, 39, 40, 41, 42, 43, 44, 45] (by decide +kernel) (by decide +kernel)
set_option maxRecDepth 20000 in
theorem gX2_check_X2_asked : GoodIn wsX2_check (wsV RX2 69 RX2 yX2_asked wsX2_asked) := goodIn_app (goodIn_of _ (by decide +kernel)) ggX2_check_X2_asked
set_option maxRecDepth 20000 in
theorem ggX2_check_X2_takes : GoodIn wsX2_check wsX2_takes := goodIn_r _ [19, 20, 21, 22, 23, 24, 5, 25, 26, 36, 37, 38, 39, 40, 41, 42, 43, 44, 45] (by decide +kernel) (by decide +kernel)
set_option maxRecDepth 20000 in
theorem gX2_check_X2_takes : GoodIn wsX2_check (wsV RX2 72 RX2 yX2_takes wsX2_takes) := goodIn_app (goodIn_of _ (by decide +kernel)) ggX2_check_X2_takes
set_option maxRecDepth 20000 in
theorem ggX2_check_X2_sumOf : GoodIn wsX2_check wsX2_sumOf := goodIn_r _ [30, 31, 21, 32, 33, 34, 5, 35, 36, 37, 38, 39, 40, 41, 42, 43, 44, 45] (by decide +kernel) (by decide +kernel)
set_option maxRecDepth 20000 in
theorem gX2_check_X2_sumOf : GoodIn wsX2_check (wsV RX2 76 RX2 yX2_sumOf wsX2_sumOf) := goodIn_app (goodIn_of _ (by decide +kernel)) ggX2_check_X2_sumOf
theorem dX2_check_0 : decode cX2_check 0 = .ok (.aload_n 0, 1) := by decide +kernel
theorem dX2_check_1 : decode cX2_check 1 = .ok (.aload_n 0, 1) := by decide +kernel
theorem dX2_check_2 : decode cX2_check 2 = .ok (.iload_n 1, 1) := by decide +kernel
theorem dX2_check_3 : decode cX2_check 3 = .ok (.invokevirtual 65, 3) := by decide +kernel
theorem dX2_check_6 : decode cX2_check 6 = .ok (.invokevirtual 69, 3) := by decide +kernel
theorem dX2_check_9 : decode cX2_check 9 = .ok (.ifCond .ne 5, 3) := by decide +kernel
theorem dX2_check_12 : decode cX2_check 12 = .ok (.iconst 0, 1) := by decide +kernel
theorem dX2_check_13 : decode cX2_check 13 = .ok (.ireturn, 1) := by decide +kernel
theorem dX2_check_14 : decode cX2_check 14 = .ok (.aload_n 0, 1) := by decide +kernel
theorem dX2_check_15 : decode cX2_check 15 = .ok (.getfield 16, 3) := by decide +kernel
theorem dX2_check_18 : decode cX2_check 18 = .ok (.iload_n 1, 1) := by decide +kernel
theorem dX2_check_19 : decode cX2_check 19 = .ok (.iaload, 1) := by decide +kernel
theorem dX2_check_20 : decode cX2_check 20 = .ok (.istore_n 2, 1) := by decide +kernel
theorem dX2_check_21 : decode cX2_check 21 = .ok (.bipush 49, 2) := by decide +kernel
theorem dX2_check_23 : decode cX2_check 23 = .ok (.istore_n 3, 1) := by decide +kernel
theorem dX2_check_24 : decode cX2_check 24 = .ok (.iload_n 3, 1) := by decide +kernel
theorem dX2_check_25 : decode cX2_check 25 = .ok (.bipush 57, 2) := by decide +kernel
theorem dX2_check_27 : decode cX2_check 27 = .ok (.if_icmp .gt 17, 3) := by decide +kernel
theorem dX2_check_30 : decode cX2_check 30 = .ok (.aload_n 0, 1) := by decide +kernel
theorem dX2_check_31 : decode cX2_check 31 = .ok (.iload_n 1, 1) := by decide +kernel
theorem dX2_check_32 : decode cX2_check 32 = .ok (.iload_n 2, 1) := by decide +kernel
theorem dX2_check_33 : decode cX2_check 33 = .ok (.iload_n 3, 1) := by decide +kernel
theorem dX2_check_34 : decode cX2_check 34 = .ok (.invokevirtual 72, 3) := by decide +kernel
theorem dX2_check_37 : decode cX2_check 37 = .ok (.istore_n 2, 1) := by decide +kernel
theorem dX2_check_38 : decode cX2_check 38 = .ok (.iinc 3 1, 3) := by decide +kernel
theorem dX2_check_41 : decode cX2_check 41 = .ok (.goto (-17), 3) := by decide +kernel
theorem dX2_check_44 : decode cX2_check 44 = .ok (.aload_n 0, 1) := by decide +kernel
theorem dX2_check_45 : decode cX2_check 45 = .ok (.iload_n 1, 1) := by decide +kernel
theorem dX2_check_46 : decode cX2_check 46 = .ok (.iload_n 2, 1) := by decide +kernel
theorem dX2_check_47 : decode cX2_check 47 = .ok (.invokevirtual 76, 3) := by decide +kernel
theorem dX2_check_50 : decode cX2_check 50 = .ok (.ireturn, 1) := by decide +kernel
set_option maxRecDepth 20000 in
theorem ggX2_multiply_X2_isModel : GoodIn wsX2_multiply wsX2_isModel := goodIn_r _ [6, 7, 8, 9, 5, 10, 32, 33, 34, 35, 36, 37, 38, 39, 40, 41] (by decide +kernel) (by decide +kernel)
set_option maxRecDepth 20000 in
theorem gX2_multiply_X2_isModel : GoodIn wsX2_multiply (wsV RX2 65 RX2 yX2_isModel wsX2_isModel) := goodIn_app (goodIn_of _ (by decide +kernel)) ggX2_multiply_X2_isModel
set_option maxRecDepth 20000 in
theorem ggX2_multiply_X2_isNumber : GoodIn wsX2_multiply wsX2_isNumber := goodIn_r _ [14, 1, 15, 16, 5, 17, 32, 33, 34, 35, 36, 37, 38, 39, 40, 41] (by decide +kernel) (by decide +kernel)
set_option maxRecDepth 20000 in
theorem gX2_multiply_X2_isNumber : GoodIn wsX2_multiply (wsV RX2 79 RX2 yX2_isNumber wsX2_isNumber) := goodIn_app (goodIn_of _ (by decide +kernel)) ggX2_multiply_X2_isNumber
set_option maxRecDepth 20000 in
theorem ggX2_multiply_X2_asked_ : GoodIn wsX2_multiply wsX2_asked_ := goodIn_r _ [21, 22, 32, 33, 34, 35, 36, 37, 38, 39, 40, 41] (by decide +kernel) (by decide +kernel)
set_option maxRecDepth 20000 in
theorem gX2_multiply_X2_asked_ : GoodIn wsX2_multiply (wsV RX2 61 RX2 yX2_asked_ wsX2_asked_) := goodIn_app (goodIn_of _ (by decide +kernel)) ggX2_multiply_X2_asked_
set_option maxRecDepth 20000 in
theorem ggX2_multiply_X2_times : GoodIn wsX2_multiply wsX2_times := goodIn_r _ [26, 27, 28, 29, 5, 30, 1, 31, 32, 33, 34, 35, 36, 37, 38, 39, 40, 41] (by decide +kernel) (by decide +kernel)
set_option maxRecDepth 20000 in
theorem gX2_multiply_X2_times : GoodIn wsX2_multiply (wsV RX2 54 RX2 yX2_times wsX2_times) := goodIn_app (goodIn_of _ (by decide +kernel)) ggX2_multiply_X2_times
theorem dX2_multiply_0 : decode cX2_multiply 0 = .ok (.aload_n 0, 1) := by decide +kernel
theorem dX2_multiply_1 : decode cX2_multiply 1 = .ok (.iload_n 1, 1) := by decide +kernel
theorem dX2_multiply_2 : decode cX2_multiply 2 = .ok (.invokevirtual 65, 3) := by decide +kernel
theorem dX2_multiply_5 : decode cX2_multiply 5 = .ok (.istore 4, 2) := by decide +kernel
theorem dX2_multiply_7 : decode cX2_multiply 7 = .ok (.aload_n 0, 1) := by decide +kernel
theorem dX2_multiply_8 : decode cX2_multiply 8 = .ok (.iload 4, 2) := by decide +kernel
theorem dX2_multiply_10 : decode cX2_multiply 10 = .ok (.iload 4, 2) := by decide +kernel
theorem dX2_multiply_12 : decode cX2_multiply 12 = .ok (.ifCond .eq 25, 3) := by decide +kernel
theorem dX2_multiply_15 : decode cX2_multiply 15 = .ok (.aload_n 0, 1) := by decide +kernel
theorem dX2_multiply_16 : decode cX2_multiply 16 = .ok (.iload_n 1, 1) := by decide +kernel
theorem dX2_multiply_17 : decode cX2_multiply 17 = .ok (.iload_n 2, 1) := by decide +kernel
theorem dX2_multiply_18 : decode cX2_multiply 18 = .ok (.invokevirtual 79, 3) := by decide +kernel
theorem dX2_multiply_21 : decode cX2_multiply 21 = .ok (.ifCond .eq 16, 3) := by decide +kernel
theorem dX2_multiply_24 : decode cX2_multiply 24 = .ok (.aload_n 0, 1) := by decide +kernel
theorem dX2_multiply_25 : decode cX2_multiply 25 = .ok (.iload_n 1, 1) := by decide +kernel
theorem dX2_multiply_26 : decode cX2_multiply 26 = .ok (.iload_n 3, 1) := by decide +kernel
theorem dX2_multiply_27 : decode cX2_multiply 27 = .ok (.invokevirtual 79, 3) := by decide +kernel
theorem dX2_multiply_30 : decode cX2_multiply 30 = .ok (.ifCond .eq 7, 3) := by decide +kernel
theorem dX2_multiply_33 : decode cX2_multiply 33 = .ok (.iconst 1, 1) := by decide +kernel
theorem dX2_multiply_34 : decode cX2_multiply 34 = .ok (.goto 4, 3) := by decide +kernel
theorem dX2_multiply_37 : decode cX2_multiply 37 = .ok (.iconst 0, 1) := by decide +kernel
theorem dX2_multiply_38 : decode cX2_multiply 38 = .ok (.invokevirtual 61, 3) := by decide +kernel
theorem dX2_multiply_41 : decode cX2_multiply 41 = .ok (.ifCond .eq 19, 3) := by decide +kernel
theorem dX2_multiply_44 : decode cX2_multiply 44 = .ok (.aload_n 0, 1) := by decide +kernel
theorem dX2_multiply_45 : decode cX2_multiply 45 = .ok (.iload_n 1, 1) := by decide +kernel
theorem dX2_multiply_46 : decode cX2_multiply 46 = .ok (.iload_n 2, 1) := by decide +kernel
theorem dX2_multiply_47 : decode cX2_multiply 47 = .ok (.iload_n 3, 1) := by decide +kernel
theorem dX2_multiply_48 : decode cX2_multiply 48 = .ok (.aload_n 0, 1) := by decide +kernel
theorem dX2_multiply_49 : decode cX2_multiply 49 = .ok (.getfield 7, 3) := by decide +kernel
theorem dX2_multiply_52 : decode cX2_multiply 52 = .ok (.iload_n 1, 1) := by decide +kernel
theorem dX2_multiply_53 : decode cX2_multiply 53 = .ok (.iaload, 1) := by decide +kernel
theorem dX2_multiply_54 : decode cX2_multiply 54 = .ok (.invokevirtual 54, 3) := by decide +kernel
theorem dX2_multiply_57 : decode cX2_multiply 57 = .ok (.goto 4, 3) := by decide +kernel
theorem dX2_multiply_60 : decode cX2_multiply 60 = .ok (.iconst 0, 1) := by decide +kernel
theorem dX2_multiply_61 : decode cX2_multiply 61 = .ok (.ireturn, 1) := by decide +kernel
set_option maxRecDepth 20000 in
theorem ggX2_power_X2_isModel : GoodIn wsX2_power wsX2_isModel := goodIn_r _ [5, 6, 7, 8, 4, 9, 29, 30, 31, 32, 33, 34, 35, 36, 37, 38] (by decide +kernel) (by decide +kernel)
set_option maxRecDepth 20000 in
theorem gX2_power_X2_isModel : GoodIn wsX2_power (wsV RX2 65 RX2 yX2_isModel wsX2_isModel) := goodIn_app (goodIn_of _ (by decide +kernel)) ggX2_power_X2_isModel
set_option maxRecDepth 20000 in
theorem ggX2_power_X2_asked_ : GoodIn wsX2_power wsX2_asked_ := goodIn_r _ [13, 14, 29, 30, 31, 32, 33, 34, 35, 36, 37, 38] (by decide +kernel) (by decide +kernel)
set_option maxRecDepth 20000 in
theorem gX2_power_X2_asked_ : GoodIn wsX2_power (wsV RX2 61 RX2 yX2_asked_ wsX2_asked_) := goodIn_app (goodIn_of _ (by decide +kernel)) ggX2_power_X2_asked_
set_option maxRecDepth 20000 in
theorem ggX2_power_X2_powerOf : GoodIn wsX2_power wsX2_powerOf := goodIn_r _ [18, 19, 20, 21, 22, 4, 23, 24, 25, 26, 27, 28, 29, 30, 31, 32, 33, 34, 35, 36, 37, 38] (by decide +kernel) (by decide +kernel)
set_option maxRecDepth 20000 in
theorem gX2_power_X2_powerOf : GoodIn wsX2_power (wsV RX2 82 RX2 yX2_powerOf wsX2_powerOf) := goodIn_app (goodIn_of _ (by decide +kernel)) ggX2_power_X2_powerOf
theorem dX2_power_0 : decode cX2_power 0 = .ok (.aload_n 0, 1) := by decide +kernel
theorem dX2_power_1 : decode cX2_power 1 = .ok (.aload_n 0, 1) := by decide +kernel
theorem dX2_power_2 : decode cX2_power 2 = .ok (.iload_n 1, 1) := by decide +kernel
theorem dX2_power_3 : decode cX2_power 3 = .ok (.invokevirtual 65, 3) := by decide +kernel
theorem dX2_power_6 : decode cX2_power 6 = .ok (.lload_n 2, 1) := by decide +kernel
theorem dX2_power_7 : decode cX2_power 7 = .ok (.lconst 0, 1) := by decide +kernel
theorem dX2_power_8 : decode cX2_power 8 = .ok (.lcmp, 1) := by decide +kernel
theorem dX2_power_9 : decode cX2_power 9 = .ok (.ifCond .lt 7, 3) := by decide +kernel
theorem dX2_power_12 : decode cX2_power 12 = .ok (.iconst 1, 1) := by decide +kernel
theorem dX2_power_13 : decode cX2_power 13 = .ok (.goto 4, 3) := by decide +kernel
theorem dX2_power_16 : decode cX2_power 16 = .ok (.iconst 0, 1) := by decide +kernel
theorem dX2_power_17 : decode cX2_power 17 = .ok (.invokevirtual 61, 3) := by decide +kernel
theorem dX2_power_20 : decode cX2_power 20 = .ok (.ifCond .eq 12, 3) := by decide +kernel
theorem dX2_power_23 : decode cX2_power 23 = .ok (.aload_n 0, 1) := by decide +kernel
theorem dX2_power_24 : decode cX2_power 24 = .ok (.iload_n 1, 1) := by decide +kernel
theorem dX2_power_25 : decode cX2_power 25 = .ok (.lload_n 2, 1) := by decide +kernel
theorem dX2_power_26 : decode cX2_power 26 = .ok (.invokevirtual 82, 3) := by decide +kernel
theorem dX2_power_29 : decode cX2_power 29 = .ok (.goto 4, 3) := by decide +kernel
theorem dX2_power_32 : decode cX2_power 32 = .ok (.iconst 0, 1) := by decide +kernel
theorem dX2_power_33 : decode cX2_power 33 = .ok (.ireturn, 1) := by decide +kernel
set_option maxRecDepth 20000 in
theorem ggX2_period_X2_isModel : GoodIn wsX2_period wsX2_isModel := goodIn_r _ [6, 7, 8, 9, 5, 10, 22, 23, 24, 25, 26, 27, 28, 29, 30, 31] (by decide +kernel) (by decide +kernel)
set_option maxRecDepth 20000 in
theorem gX2_period_X2_isModel : GoodIn wsX2_period (wsV RX2 65 RX2 yX2_isModel wsX2_isModel) := goodIn_app (goodIn_of _ (by decide +kernel)) ggX2_period_X2_isModel
set_option maxRecDepth 20000 in
theorem ggX2_period_X2_in : GoodIn wsX2_period wsX2_in := goodIn_r _ [10] (by decide +kernel) (by decide +kernel)
set_option maxRecDepth 20000 in
theorem gX2_period_X2_in : GoodIn wsX2_period (va_wsS RX2 42 yX2_in wsX2_in) := goodIn_app (goodIn_of _ (by decide +kernel)) ggX2_period_X2_in
set_option maxRecDepth 20000 in
theorem ggX2_period_X2_asked_ : GoodIn wsX2_period wsX2_asked_ := goodIn_r _ [14, 15, 22, 23, 24, 25, 26, 27, 28, 29, 30, 31] (by decide +kernel) (by decide +kernel)
set_option maxRecDepth 20000 in
theorem gX2_period_X2_asked_ : GoodIn wsX2_period (wsV RX2 61 RX2 yX2_asked_ wsX2_asked_) := goodIn_app (goodIn_of _ (by decide +kernel)) ggX2_period_X2_asked_
set_option maxRecDepth 20000 in
theorem ggX2_period_X2_timesX : GoodIn wsX2_period wsX2_timesX := goodIn_r _ [19, 20, 21, 22, 23, 24, 25, 26, 27, 28, 29, 30, 31] (by decide +kernel) (by decide +kernel)
set_option maxRecDepth 20000 in
theorem gX2_period_X2_timesX : GoodIn wsX2_period (wsV RX2 50 RX2 yX2_timesX wsX2_timesX) := goodIn_app (goodIn_of _ (by decide +kernel)) ggX2_period_X2_timesX
theorem dX2_period_0 : decode cX2_period 0 = .ok (.aload_n 0, 1) := by decide +kernel
theorem dX2_period_1 : decode cX2_period 1 = .ok (.aload_n 0, 1) := by decide +kernel
theorem dX2_period_2 : decode cX2_period 2 = .ok (.iload_n 1, 1) := by decide +kernel
theorem dX2_period_3 : decode cX2_period 3 = .ok (.invokevirtual 65, 3) := by decide +kernel
theorem dX2_period_6 : decode cX2_period 6 = .ok (.iload_n 2, 1) := by decide +kernel
theorem dX2_period_7 : decode cX2_period 7 = .ok (.iconst 1, 1) := by decide +kernel
theorem dX2_period_8 : decode cX2_period 8 = .ok (.ldc 86, 2) := by decide +kernel
theorem dX2_period_10 : decode cX2_period 10 = .ok (.invokestatic 42, 3) := by decide +kernel
theorem dX2_period_13 : decode cX2_period 13 = .ok (.invokevirtual 61, 3) := by decide +kernel
theorem dX2_period_16 : decode cX2_period 16 = .ok (.ifCond .ne 5, 3) := by decide +kernel
theorem dX2_period_19 : decode cX2_period 19 = .ok (.iconst 0, 1) := by decide +kernel
theorem dX2_period_20 : decode cX2_period 20 = .ok (.ireturn, 1) := by decide +kernel
theorem dX2_period_21 : decode cX2_period 21 = .ok (.iconst 1, 1) := by decide +kernel
theorem dX2_period_22 : decode cX2_period 22 = .ok (.istore_n 3, 1) := by decide +kernel
theorem dX2_period_23 : decode cX2_period 23 = .ok (.iconst 1, 1) := by decide +kernel
theorem dX2_period_24 : decode cX2_period 24 = .ok (.istore 4, 2) := by decide +kernel
theorem dX2_period_26 : decode cX2_period 26 = .ok (.iload 4, 2) := by decide +kernel
end
section
theorem dX2_period_28 : decode cX2_period 28 = .ok (.iload_n 2, 1) := by decide +kernel
theorem dX2_period_29 : decode cX2_period 29 = .ok (.if_icmp .gt 24, 3) := by decide +kernel
theorem dX2_period_32 : decode cX2_period 32 = .ok (.aload_n 0, 1) := by decide +kernel
theorem dX2_period_33 : decode cX2_period 33 = .ok (.iload_n 1, 1) := by decide +kernel
theorem dX2_period_34 : decode cX2_period 34 = .ok (.iload_n 3, 1) := by decide +kernel
theorem dX2_period_35 : decode cX2_period 35 = .ok (.invokevirtual 50, 3) := by decide +kernel
theorem dX2_period_38 : decode cX2_period 38 = .ok (.istore_n 3, 1) := by decide +kernel
theorem dX2_period_39 : decode cX2_period 39 = .ok (.iload_n 3, 1) := by decide +kernel
theorem dX2_period_40 : decode cX2_period 40 = .ok (.iconst 1, 1) := by decide +kernel
theorem dX2_period_41 : decode cX2_period 41 = .ok (.if_icmp .ne 6, 3) := by decide +kernel
theorem dX2_period_44 : decode cX2_period 44 = .ok (.iload 4, 2) := by decide +kernel
theorem dX2_period_46 : decode cX2_period 46 = .ok (.ireturn, 1) := by decide +kernel
theorem dX2_period_47 : decode cX2_period 47 = .ok (.iinc 4 1, 3) := by decide +kernel
theorem dX2_period_50 : decode cX2_period 50 = .ok (.goto (-24), 3) := by decide +kernel
theorem dX2_period_53 : decode cX2_period 53 = .ok (.iconst (-1), 1) := by decide +kernel
theorem dX2_period_54 : decode cX2_period 54 = .ok (.ireturn, 1) := by decide +kernel
theorem dX2_puts_0 : decode cX2_puts 0 = .ok (.aload_n 0, 1) := by decide +kernel
theorem dX2_puts_1 : decode cX2_puts 1 = .ok (.getfield 29, 3) := by decide +kernel
theorem dX2_puts_4 : decode cX2_puts 4 = .ok (.sipush 256, 3) := by decide +kernel
theorem dX2_puts_7 : decode cX2_puts 7 = .ok (.iload_n 1, 1) := by decide +kernel
theorem dX2_puts_8 : decode cX2_puts 8 = .ok (.imul, 1) := by decide +kernel
theorem dX2_puts_9 : decode cX2_puts 9 = .ok (.aload_n 0, 1) := by decide +kernel
theorem dX2_puts_10 : decode cX2_puts 10 = .ok (.getfield 32, 3) := by decide +kernel
theorem dX2_puts_13 : decode cX2_puts 13 = .ok (.iload_n 1, 1) := by decide +kernel
theorem dX2_puts_14 : decode cX2_puts 14 = .ok (.iaload, 1) := by decide +kernel
theorem dX2_puts_15 : decode cX2_puts 15 = .ok (.iadd, 1) := by decide +kernel
theorem dX2_puts_16 : decode cX2_puts 16 = .ok (.iload_n 2, 1) := by decide +kernel
theorem dX2_puts_17 : decode cX2_puts 17 = .ok (.iastore, 1) := by decide +kernel
theorem dX2_puts_18 : decode cX2_puts 18 = .ok (.aload_n 0, 1) := by decide +kernel
theorem dX2_puts_19 : decode cX2_puts 19 = .ok (.getfield 32, 3) := by decide +kernel
theorem dX2_puts_22 : decode cX2_puts 22 = .ok (.iload_n 1, 1) := by decide +kernel
theorem dX2_puts_23 : decode cX2_puts 23 = .ok (.dup2, 1) := by decide +kernel
theorem dX2_puts_24 : decode cX2_puts 24 = .ok (.iaload, 1) := by decide +kernel
theorem dX2_puts_25 : decode cX2_puts 25 = .ok (.iconst 1, 1) := by decide +kernel
theorem dX2_puts_26 : decode cX2_puts 26 = .ok (.iadd, 1) := by decide +kernel
theorem dX2_puts_27 : decode cX2_puts 27 = .ok (.iastore, 1) := by decide +kernel
theorem dX2_puts_28 : decode cX2_puts 28 = .ok (.return_, 1) := by decide +kernel
set_option maxRecDepth 20000 in
theorem ggX2_append_X2_isRow : GoodIn wsX2_append wsX2_isRow := goodIn_r _ [6, 7, 8, 5, 9] (by decide +kernel) (by decide +kernel)
set_option maxRecDepth 20000 in
theorem gX2_append_X2_isRow : GoodIn wsX2_append (va_wsS RX2 87 yX2_isRow wsX2_isRow) := goodIn_app (goodIn_of _ (by decide +kernel)) ggX2_append_X2_isRow
set_option maxRecDepth 20000 in
theorem ggX2_append_X2_isByte : GoodIn wsX2_append wsX2_isByte := goodIn_r _ [12, 7, 8, 5, 9] (by decide +kernel) (by decide +kernel)
set_option maxRecDepth 20000 in
theorem gX2_append_X2_isByte : GoodIn wsX2_append (va_wsS RX2 90 yX2_isByte wsX2_isByte) := goodIn_app (goodIn_of _ (by decide +kernel)) ggX2_append_X2_isByte
set_option maxRecDepth 20000 in
theorem ggX2_append_X2_puts : GoodIn wsX2_append wsX2_puts := goodIn_r _ [16, 17, 1, 18, 19, 20, 21, 22, 23, 24, 25, 26, 27] (by decide +kernel) (by decide +kernel)
set_option maxRecDepth 20000 in
theorem gX2_append_X2_puts : GoodIn wsX2_append (wsV RX2 93 RX2 yX2_puts wsX2_puts) := goodIn_app (goodIn_of _ (by decide +kernel)) ggX2_append_X2_puts
theorem dX2_append_0 : decode cX2_append 0 = .ok (.aload_n 0, 1) := by decide +kernel
theorem dX2_append_1 : decode cX2_append 1 = .ok (.iload_n 1, 1) := by decide +kernel
theorem dX2_append_2 : decode cX2_append 2 = .ok (.invokestatic 87, 3) := by decide +kernel
theorem dX2_append_5 : decode cX2_append 5 = .ok (.ifCond .ne 7, 3) := by decide +kernel
theorem dX2_append_8 : decode cX2_append 8 = .ok (.iconst 1, 1) := by decide +kernel
theorem dX2_append_9 : decode cX2_append 9 = .ok (.goto 31, 3) := by decide +kernel
theorem dX2_append_12 : decode cX2_append 12 = .ok (.iload_n 2, 1) := by decide +kernel
theorem dX2_append_13 : decode cX2_append 13 = .ok (.invokestatic 90, 3) := by decide +kernel
theorem dX2_append_16 : decode cX2_append 16 = .ok (.ifCond .ne 7, 3) := by decide +kernel
theorem dX2_append_19 : decode cX2_append 19 = .ok (.iconst 2, 1) := by decide +kernel
theorem dX2_append_20 : decode cX2_append 20 = .ok (.goto 20, 3) := by decide +kernel
theorem dX2_append_23 : decode cX2_append 23 = .ok (.aload_n 0, 1) := by decide +kernel
theorem dX2_append_24 : decode cX2_append 24 = .ok (.getfield 32, 3) := by decide +kernel
theorem dX2_append_27 : decode cX2_append 27 = .ok (.iload_n 1, 1) := by decide +kernel
theorem dX2_append_28 : decode cX2_append 28 = .ok (.iaload, 1) := by decide +kernel
theorem dX2_append_29 : decode cX2_append 29 = .ok (.sipush 256, 3) := by decide +kernel
theorem dX2_append_32 : decode cX2_append 32 = .ok (.if_icmp .ne 7, 3) := by decide +kernel
theorem dX2_append_35 : decode cX2_append 35 = .ok (.iconst 3, 1) := by decide +kernel
theorem dX2_append_36 : decode cX2_append 36 = .ok (.goto 4, 3) := by decide +kernel
theorem dX2_append_39 : decode cX2_append 39 = .ok (.iconst 0, 1) := by decide +kernel
theorem dX2_append_40 : decode cX2_append 40 = .ok (.putfield 35, 3) := by decide +kernel
theorem dX2_append_43 : decode cX2_append 43 = .ok (.aload_n 0, 1) := by decide +kernel
theorem dX2_append_44 : decode cX2_append 44 = .ok (.getfield 35, 3) := by decide +kernel
theorem dX2_append_47 : decode cX2_append 47 = .ok (.ifCond .le 5, 3) := by decide +kernel
theorem dX2_append_50 : decode cX2_append 50 = .ok (.iconst 0, 1) := by decide +kernel
theorem dX2_append_51 : decode cX2_append 51 = .ok (.ireturn, 1) := by decide +kernel
theorem dX2_append_52 : decode cX2_append 52 = .ok (.aload_n 0, 1) := by decide +kernel
theorem dX2_append_53 : decode cX2_append 53 = .ok (.iload_n 1, 1) := by decide +kernel
theorem dX2_append_54 : decode cX2_append 54 = .ok (.iload_n 2, 1) := by decide +kernel
theorem dX2_append_55 : decode cX2_append 55 = .ok (.invokevirtual 93, 3) := by decide +kernel
theorem dX2_append_58 : decode cX2_append 58 = .ok (.aload_n 0, 1) := by decide +kernel
theorem dX2_append_59 : decode cX2_append 59 = .ok (.getfield 32, 3) := by decide +kernel
theorem dX2_append_62 : decode cX2_append 62 = .ok (.iload_n 1, 1) := by decide +kernel
theorem dX2_append_63 : decode cX2_append 63 = .ok (.iaload, 1) := by decide +kernel
theorem dX2_append_64 : decode cX2_append 64 = .ok (.ireturn, 1) := by decide +kernel
set_option maxRecDepth 20000 in
theorem ggX2_appendSeries_X2_isByte : GoodIn wsX2_appendSeries wsX2_isByte := goodIn_r _ [6, 7, 8, 5, 9] (by decide +kernel) (by decide +kernel)
set_option maxRecDepth 20000 in
theorem gX2_appendSeries_X2_isByte : GoodIn wsX2_appendSeries (va_wsS RX2 90 yX2_isByte wsX2_isByte) := goodIn_app (goodIn_of _ (by decide +kernel)) ggX2_appendSeries_X2_isByte
set_option maxRecDepth 20000 in
theorem ggX2_appendSeries_X2_in : GoodIn wsX2_appendSeries wsX2_in := goodIn_r _ [9] (by decide +kernel) (by decide +kernel)
set_option maxRecDepth 20000 in
theorem gX2_appendSeries_X2_in : GoodIn wsX2_appendSeries (va_wsS RX2 42 yX2_in wsX2_in) := goodIn_app (goodIn_of _ (by decide +kernel)) ggX2_appendSeries_X2_in
set_option maxRecDepth 20000 in
theorem ggX2_appendSeries_X2_isRow : GoodIn wsX2_appendSeries wsX2_isRow := goodIn_r _ [12, 7, 8, 5, 9] (by decide +kernel) (by decide +kernel)
set_option maxRecDepth 20000 in
theorem gX2_appendSeries_X2_isRow : GoodIn wsX2_appendSeries (va_wsS RX2 87 yX2_isRow wsX2_isRow) := goodIn_app (goodIn_of _ (by decide +kernel)) ggX2_appendSeries_X2_isRow
set_option maxRecDepth 20000 in
theorem ggX2_appendSeries_X2_puts : GoodIn wsX2_appendSeries wsX2_puts := goodIn_r _ [16, 17, 1, 18, 19, 20, 21, 22, 23, 24, 25, 26, 27] (by decide +kernel) (by decide +kernel)
set_option maxRecDepth 20000 in
theorem gX2_appendSeries_X2_puts : GoodIn wsX2_appendSeries (wsV RX2 93 RX2 yX2_puts wsX2_puts) := goodIn_app (goodIn_of _ (by decide +kernel)) ggX2_appendSeries_X2_puts
theorem dX2_appendSeries_0 : decode cX2_appendSeries 0 = .ok (.iload_n 2, 1) := by decide +kernel
theorem dX2_appendSeries_1 : decode cX2_appendSeries 1 = .ok (.invokestatic 90, 3) := by decide +kernel
theorem dX2_appendSeries_4 : decode cX2_appendSeries 4 = .ok (.ifCond .eq 26, 3) := by decide +kernel
theorem dX2_appendSeries_7 : decode cX2_appendSeries 7 = .ok (.iload_n 3, 1) := by decide +kernel
theorem dX2_appendSeries_8 : decode cX2_appendSeries 8 = .ok (.invokestatic 90, 3) := by decide +kernel
theorem dX2_appendSeries_11 : decode cX2_appendSeries 11 = .ok (.ifCond .eq 19, 3) := by decide +kernel
theorem dX2_appendSeries_14 : decode cX2_appendSeries 14 = .ok (.iload 4, 2) := by decide +kernel
theorem dX2_appendSeries_16 : decode cX2_appendSeries 16 = .ok (.iconst 1, 1) := by decide +kernel
theorem dX2_appendSeries_17 : decode cX2_appendSeries 17 = .ok (.sipush 256, 3) := by decide +kernel
theorem dX2_appendSeries_20 : decode cX2_appendSeries 20 = .ok (.invokestatic 42, 3) := by decide +kernel
theorem dX2_appendSeries_23 : decode cX2_appendSeries 23 = .ok (.ifCond .eq 7, 3) := by decide +kernel
theorem dX2_appendSeries_26 : decode cX2_appendSeries 26 = .ok (.iconst 1, 1) := by decide +kernel
theorem dX2_appendSeries_27 : decode cX2_appendSeries 27 = .ok (.goto 4, 3) := by decide +kernel
theorem dX2_appendSeries_30 : decode cX2_appendSeries 30 = .ok (.iconst 0, 1) := by decide +kernel
theorem dX2_appendSeries_31 : decode cX2_appendSeries 31 = .ok (.istore 5, 2) := by decide +kernel
theorem dX2_appendSeries_33 : decode cX2_appendSeries 33 = .ok (.aload_n 0, 1) := by decide +kernel
theorem dX2_appendSeries_34 : decode cX2_appendSeries 34 = .ok (.iload_n 1, 1) := by decide +kernel
theorem dX2_appendSeries_35 : decode cX2_appendSeries 35 = .ok (.invokestatic 87, 3) := by decide +kernel
theorem dX2_appendSeries_38 : decode cX2_appendSeries 38 = .ok (.ifCond .ne 7, 3) := by decide +kernel
theorem dX2_appendSeries_41 : decode cX2_appendSeries 41 = .ok (.iconst 1, 1) := by decide +kernel
theorem dX2_appendSeries_42 : decode cX2_appendSeries 42 = .ok (.goto 32, 3) := by decide +kernel
theorem dX2_appendSeries_45 : decode cX2_appendSeries 45 = .ok (.iload 5, 2) := by decide +kernel
theorem dX2_appendSeries_47 : decode cX2_appendSeries 47 = .ok (.ifCond .ne 7, 3) := by decide +kernel
theorem dX2_appendSeries_50 : decode cX2_appendSeries 50 = .ok (.iconst 2, 1) := by decide +kernel
theorem dX2_appendSeries_51 : decode cX2_appendSeries 51 = .ok (.goto 23, 3) := by decide +kernel
theorem dX2_appendSeries_54 : decode cX2_appendSeries 54 = .ok (.aload_n 0, 1) := by decide +kernel
theorem dX2_appendSeries_55 : decode cX2_appendSeries 55 = .ok (.getfield 32, 3) := by decide +kernel
theorem dX2_appendSeries_58 : decode cX2_appendSeries 58 = .ok (.iload_n 1, 1) := by decide +kernel
theorem dX2_appendSeries_59 : decode cX2_appendSeries 59 = .ok (.iaload, 1) := by decide +kernel
theorem dX2_appendSeries_60 : decode cX2_appendSeries 60 = .ok (.iload 4, 2) := by decide +kernel
theorem dX2_appendSeries_62 : decode cX2_appendSeries 62 = .ok (.iadd, 1) := by decide +kernel
theorem dX2_appendSeries_63 : decode cX2_appendSeries 63 = .ok (.sipush 256, 3) := by decide +kernel
theorem dX2_appendSeries_66 : decode cX2_appendSeries 66 = .ok (.if_icmp .le 7, 3) := by decide +kernel
theorem dX2_appendSeries_69 : decode cX2_appendSeries 69 = .ok (.iconst 3, 1) := by decide +kernel
theorem dX2_appendSeries_70 : decode cX2_appendSeries 70 = .ok (.goto 4, 3) := by decide +kernel
theorem dX2_appendSeries_73 : decode cX2_appendSeries 73 = .ok (.iconst 0, 1) := by decide +kernel
theorem dX2_appendSeries_74 : decode cX2_appendSeries 74 = .ok (.putfield 35, 3) := by decide +kernel
theorem dX2_appendSeries_77 : decode cX2_appendSeries 77 = .ok (.aload_n 0, 1) := by decide +kernel
theorem dX2_appendSeries_78 : decode cX2_appendSeries 78 = .ok (.getfield 35, 3) := by decide +kernel
theorem dX2_appendSeries_81 : decode cX2_appendSeries 81 = .ok (.ifCond .le 5, 3) := by decide +kernel
theorem dX2_appendSeries_84 : decode cX2_appendSeries 84 = .ok (.iconst 0, 1) := by decide +kernel
theorem dX2_appendSeries_85 : decode cX2_appendSeries 85 = .ok (.ireturn, 1) := by decide +kernel
theorem dX2_appendSeries_86 : decode cX2_appendSeries 86 = .ok (.iconst 0, 1) := by decide +kernel
theorem dX2_appendSeries_87 : decode cX2_appendSeries 87 = .ok (.istore 6, 2) := by decide +kernel
theorem dX2_appendSeries_89 : decode cX2_appendSeries 89 = .ok (.iload 6, 2) := by decide +kernel
theorem dX2_appendSeries_91 : decode cX2_appendSeries 91 = .ok (.iload 4, 2) := by decide +kernel
theorem dX2_appendSeries_93 : decode cX2_appendSeries 93 = .ok (.if_icmp .ge 24, 3) := by decide +kernel
theorem dX2_appendSeries_96 : decode cX2_appendSeries 96 = .ok (.aload_n 0, 1) := by decide +kernel
theorem dX2_appendSeries_97 : decode cX2_appendSeries 97 = .ok (.iload_n 1, 1) := by decide +kernel
theorem dX2_appendSeries_98 : decode cX2_appendSeries 98 = .ok (.iload_n 2, 1) := by decide +kernel
theorem dX2_appendSeries_99 : decode cX2_appendSeries 99 = .ok (.iload_n 3, 1) := by decide +kernel
theorem dX2_appendSeries_100 : decode cX2_appendSeries 100 = .ok (.iload 6, 2) := by decide +kernel
theorem dX2_appendSeries_102 : decode cX2_appendSeries 102 = .ok (.imul, 1) := by decide +kernel
theorem dX2_appendSeries_103 : decode cX2_appendSeries 103 = .ok (.iadd, 1) := by decide +kernel
theorem dX2_appendSeries_104 : decode cX2_appendSeries 104 = .ok (.sipush 256, 3) := by decide +kernel
theorem dX2_appendSeries_107 : decode cX2_appendSeries 107 = .ok (.irem, 1) := by decide +kernel
theorem dX2_appendSeries_108 : decode cX2_appendSeries 108 = .ok (.invokevirtual 93, 3) := by decide +kernel
theorem dX2_appendSeries_111 : decode cX2_appendSeries 111 = .ok (.iinc 6 1, 3) := by decide +kernel
theorem dX2_appendSeries_114 : decode cX2_appendSeries 114 = .ok (.goto (-25), 3) := by decide +kernel
theorem dX2_appendSeries_117 : decode cX2_appendSeries 117 = .ok (.aload_n 0, 1) := by decide +kernel
theorem dX2_appendSeries_118 : decode cX2_appendSeries 118 = .ok (.getfield 32, 3) := by decide +kernel
theorem dX2_appendSeries_121 : decode cX2_appendSeries 121 = .ok (.iload_n 1, 1) := by decide +kernel
theorem dX2_appendSeries_122 : decode cX2_appendSeries 122 = .ok (.iaload, 1) := by decide +kernel
theorem dX2_appendSeries_123 : decode cX2_appendSeries 123 = .ok (.ireturn, 1) := by decide +kernel
set_option maxRecDepth 20000 in
theorem ggX2_appendRow_X2_isRow : GoodIn wsX2_appendRow wsX2_isRow := goodIn_r _ [6, 7, 8, 5, 9] (by decide +kernel) (by decide +kernel)
set_option maxRecDepth 20000 in
theorem gX2_appendRow_X2_isRow : GoodIn wsX2_appendRow (va_wsS RX2 87 yX2_isRow wsX2_isRow) := goodIn_app (goodIn_of _ (by decide +kernel)) ggX2_appendRow_X2_isRow
set_option maxRecDepth 20000 in
theorem ggX2_appendRow_X2_asked_ : GoodIn wsX2_appendRow wsX2_asked_ := goodIn_r _ [13, 14, 19, 20, 21, 22, 23, 24, 25, 26, 27, 28] (by decide +kernel) (by decide +kernel)
set_option maxRecDepth 20000 in
theorem gX2_appendRow_X2_asked_ : GoodIn wsX2_appendRow (wsV RX2 61 RX2 yX2_asked_ wsX2_asked_) := goodIn_app (goodIn_of _ (by decide +kernel)) ggX2_appendRow_X2_asked_
set_option maxRecDepth 20000 in
theorem ggX2_appendRow_X2_puts : GoodIn wsX2_appendRow wsX2_puts := goodIn_r _ [18, 2, 1, 19, 20, 21, 22, 23, 24, 25, 26, 27, 28] (by decide +kernel) (by decide +kernel)
set_option maxRecDepth 20000 in
theorem gX2_appendRow_X2_puts : GoodIn wsX2_appendRow (wsV RX2 93 RX2 yX2_puts wsX2_puts) := goodIn_app (goodIn_of _ (by decide +kernel)) ggX2_appendRow_X2_puts
theorem dX2_appendRow_0 : decode cX2_appendRow 0 = .ok (.iload_n 1, 1) := by decide +kernel
theorem dX2_appendRow_1 : decode cX2_appendRow 1 = .ok (.invokestatic 87, 3) := by decide +kernel
theorem dX2_appendRow_4 : decode cX2_appendRow 4 = .ok (.ifCond .eq 14, 3) := by decide +kernel
theorem dX2_appendRow_7 : decode cX2_appendRow 7 = .ok (.iload_n 2, 1) := by decide +kernel
theorem dX2_appendRow_8 : decode cX2_appendRow 8 = .ok (.invokestatic 87, 3) := by decide +kernel
theorem dX2_appendRow_11 : decode cX2_appendRow 11 = .ok (.ifCond .eq 7, 3) := by decide +kernel
theorem dX2_appendRow_14 : decode cX2_appendRow 14 = .ok (.iconst 1, 1) := by decide +kernel
theorem dX2_appendRow_15 : decode cX2_appendRow 15 = .ok (.goto 4, 3) := by decide +kernel
theorem dX2_appendRow_18 : decode cX2_appendRow 18 = .ok (.iconst 0, 1) := by decide +kernel
theorem dX2_appendRow_19 : decode cX2_appendRow 19 = .ok (.istore_n 3, 1) := by decide +kernel
theorem dX2_appendRow_20 : decode cX2_appendRow 20 = .ok (.aload_n 0, 1) := by decide +kernel
theorem dX2_appendRow_21 : decode cX2_appendRow 21 = .ok (.iload_n 3, 1) := by decide +kernel
theorem dX2_appendRow_22 : decode cX2_appendRow 22 = .ok (.iload_n 3, 1) := by decide +kernel
theorem dX2_appendRow_23 : decode cX2_appendRow 23 = .ok (.ifCond .eq 26, 3) := by decide +kernel
theorem dX2_appendRow_26 : decode cX2_appendRow 26 = .ok (.aload_n 0, 1) := by decide +kernel
theorem dX2_appendRow_27 : decode cX2_appendRow 27 = .ok (.getfield 32, 3) := by decide +kernel
theorem dX2_appendRow_30 : decode cX2_appendRow 30 = .ok (.iload_n 1, 1) := by decide +kernel
theorem dX2_appendRow_31 : decode cX2_appendRow 31 = .ok (.iaload, 1) := by decide +kernel
theorem dX2_appendRow_32 : decode cX2_appendRow 32 = .ok (.aload_n 0, 1) := by decide +kernel
theorem dX2_appendRow_33 : decode cX2_appendRow 33 = .ok (.getfield 32, 3) := by decide +kernel
theorem dX2_appendRow_36 : decode cX2_appendRow 36 = .ok (.iload_n 2, 1) := by decide +kernel
theorem dX2_appendRow_37 : decode cX2_appendRow 37 = .ok (.iaload, 1) := by decide +kernel
theorem dX2_appendRow_38 : decode cX2_appendRow 38 = .ok (.iadd, 1) := by decide +kernel
theorem dX2_appendRow_39 : decode cX2_appendRow 39 = .ok (.sipush 256, 3) := by decide +kernel
theorem dX2_appendRow_42 : decode cX2_appendRow 42 = .ok (.if_icmp .gt 7, 3) := by decide +kernel
theorem dX2_appendRow_45 : decode cX2_appendRow 45 = .ok (.iconst 1, 1) := by decide +kernel
theorem dX2_appendRow_46 : decode cX2_appendRow 46 = .ok (.goto 4, 3) := by decide +kernel
theorem dX2_appendRow_49 : decode cX2_appendRow 49 = .ok (.iconst 0, 1) := by decide +kernel
theorem dX2_appendRow_50 : decode cX2_appendRow 50 = .ok (.invokevirtual 61, 3) := by decide +kernel
theorem dX2_appendRow_53 : decode cX2_appendRow 53 = .ok (.ifCond .ne 5, 3) := by decide +kernel
theorem dX2_appendRow_56 : decode cX2_appendRow 56 = .ok (.iconst 0, 1) := by decide +kernel
theorem dX2_appendRow_57 : decode cX2_appendRow 57 = .ok (.ireturn, 1) := by decide +kernel
theorem dX2_appendRow_58 : decode cX2_appendRow 58 = .ok (.aload_n 0, 1) := by decide +kernel
theorem dX2_appendRow_59 : decode cX2_appendRow 59 = .ok (.getfield 32, 3) := by decide +kernel
theorem dX2_appendRow_62 : decode cX2_appendRow 62 = .ok (.iload_n 2, 1) := by decide +kernel
theorem dX2_appendRow_63 : decode cX2_appendRow 63 = .ok (.iaload, 1) := by decide +kernel
theorem dX2_appendRow_64 : decode cX2_appendRow 64 = .ok (.istore 4, 2) := by decide +kernel
theorem dX2_appendRow_66 : decode cX2_appendRow 66 = .ok (.iconst 0, 1) := by decide +kernel
theorem dX2_appendRow_67 : decode cX2_appendRow 67 = .ok (.istore 5, 2) := by decide +kernel
theorem dX2_appendRow_69 : decode cX2_appendRow 69 = .ok (.iload 5, 2) := by decide +kernel
theorem dX2_appendRow_71 : decode cX2_appendRow 71 = .ok (.iload 4, 2) := by decide +kernel
theorem dX2_appendRow_73 : decode cX2_appendRow 73 = .ok (.if_icmp .ge 27, 3) := by decide +kernel
theorem dX2_appendRow_76 : decode cX2_appendRow 76 = .ok (.aload_n 0, 1) := by decide +kernel
theorem dX2_appendRow_77 : decode cX2_appendRow 77 = .ok (.iload_n 1, 1) := by decide +kernel
theorem dX2_appendRow_78 : decode cX2_appendRow 78 = .ok (.aload_n 0, 1) := by decide +kernel
theorem dX2_appendRow_79 : decode cX2_appendRow 79 = .ok (.getfield 29, 3) := by decide +kernel
theorem dX2_appendRow_82 : decode cX2_appendRow 82 = .ok (.sipush 256, 3) := by decide +kernel
theorem dX2_appendRow_85 : decode cX2_appendRow 85 = .ok (.iload_n 2, 1) := by decide +kernel
theorem dX2_appendRow_86 : decode cX2_appendRow 86 = .ok (.imul, 1) := by decide +kernel
theorem dX2_appendRow_87 : decode cX2_appendRow 87 = .ok (.iload 5, 2) := by decide +kernel
theorem dX2_appendRow_89 : decode cX2_appendRow 89 = .ok (.iadd, 1) := by decide +kernel
theorem dX2_appendRow_90 : decode cX2_appendRow 90 = .ok (.iaload, 1) := by decide +kernel
theorem dX2_appendRow_91 : decode cX2_appendRow 91 = .ok (.invokevirtual 93, 3) := by decide +kernel
theorem dX2_appendRow_94 : decode cX2_appendRow 94 = .ok (.iinc 5 1, 3) := by decide +kernel
theorem dX2_appendRow_97 : decode cX2_appendRow 97 = .ok (.goto (-28), 3) := by decide +kernel
theorem dX2_appendRow_100 : decode cX2_appendRow 100 = .ok (.aload_n 0, 1) := by decide +kernel
theorem dX2_appendRow_101 : decode cX2_appendRow 101 = .ok (.getfield 32, 3) := by decide +kernel
theorem dX2_appendRow_104 : decode cX2_appendRow 104 = .ok (.iload_n 1, 1) := by decide +kernel
theorem dX2_appendRow_105 : decode cX2_appendRow 105 = .ok (.iaload, 1) := by decide +kernel
theorem dX2_appendRow_106 : decode cX2_appendRow 106 = .ok (.ireturn, 1) := by decide +kernel
set_option maxRecDepth 20000 in
theorem ggX2_isPlace_X2_isRow : GoodIn wsX2_isPlace wsX2_isRow := goodIn_r _ [5, 6, 7, 4, 8] (by decide +kernel) (by decide +kernel)
set_option maxRecDepth 20000 in
theorem gX2_isPlace_X2_isRow : GoodIn wsX2_isPlace (va_wsS RX2 87 yX2_isRow wsX2_isRow) := goodIn_app (goodIn_of _ (by decide +kernel)) ggX2_isPlace_X2_isRow
set_option maxRecDepth 20000 in
theorem ggX2_isPlace_X2_in : GoodIn wsX2_isPlace wsX2_in := goodIn_r _ [8] (by decide +kernel) (by decide +kernel)
set_option maxRecDepth 20000 in
theorem gX2_isPlace_X2_in : GoodIn wsX2_isPlace (va_wsS RX2 42 yX2_in wsX2_in) := goodIn_app (goodIn_of _ (by decide +kernel)) ggX2_isPlace_X2_in
theorem dX2_isPlace_0 : decode cX2_isPlace 0 = .ok (.iload_n 1, 1) := by decide +kernel
theorem dX2_isPlace_1 : decode cX2_isPlace 1 = .ok (.invokestatic 87, 3) := by decide +kernel
theorem dX2_isPlace_4 : decode cX2_isPlace 4 = .ok (.ifCond .eq 23, 3) := by decide +kernel
theorem dX2_isPlace_7 : decode cX2_isPlace 7 = .ok (.iload_n 2, 1) := by decide +kernel
theorem dX2_isPlace_8 : decode cX2_isPlace 8 = .ok (.iconst 0, 1) := by decide +kernel
theorem dX2_isPlace_9 : decode cX2_isPlace 9 = .ok (.aload_n 0, 1) := by decide +kernel
theorem dX2_isPlace_10 : decode cX2_isPlace 10 = .ok (.getfield 32, 3) := by decide +kernel
theorem dX2_isPlace_13 : decode cX2_isPlace 13 = .ok (.iload_n 1, 1) := by decide +kernel
theorem dX2_isPlace_14 : decode cX2_isPlace 14 = .ok (.iaload, 1) := by decide +kernel
theorem dX2_isPlace_15 : decode cX2_isPlace 15 = .ok (.iconst 1, 1) := by decide +kernel
theorem dX2_isPlace_16 : decode cX2_isPlace 16 = .ok (.isub, 1) := by decide +kernel
theorem dX2_isPlace_17 : decode cX2_isPlace 17 = .ok (.invokestatic 42, 3) := by decide +kernel
theorem dX2_isPlace_20 : decode cX2_isPlace 20 = .ok (.ifCond .eq 7, 3) := by decide +kernel
theorem dX2_isPlace_23 : decode cX2_isPlace 23 = .ok (.iconst 1, 1) := by decide +kernel
theorem dX2_isPlace_24 : decode cX2_isPlace 24 = .ok (.goto 4, 3) := by decide +kernel
theorem dX2_isPlace_27 : decode cX2_isPlace 27 = .ok (.iconst 0, 1) := by decide +kernel
theorem dX2_isPlace_28 : decode cX2_isPlace 28 = .ok (.ireturn, 1) := by decide +kernel
set_option maxRecDepth 20000 in
theorem ggX2_setByte_X2_isPlace : GoodIn wsX2_setByte wsX2_isPlace := goodIn_r _ [6, 7, 8, 9, 5, 10, 11, 12, 13, 22, 23, 24, 25, 26, 27, 28, 29, 30, 31] (by decide +kernel) (by decide +kernel)
set_option maxRecDepth 20000 in
theorem gX2_setByte_X2_isPlace : GoodIn wsX2_setByte (wsV RX2 97 RX2 yX2_isPlace wsX2_isPlace) := goodIn_app (goodIn_of _ (by decide +kernel)) ggX2_setByte_X2_isPlace
set_option maxRecDepth 20000 in
theorem ggX2_setByte_X2_isByte : GoodIn wsX2_setByte wsX2_isByte := goodIn_r _ [16, 11, 12, 5, 13] (by decide +kernel) (by decide +kernel)
set_option maxRecDepth 20000 in
theorem gX2_setByte_X2_isByte : GoodIn wsX2_setByte (va_wsS RX2 90 yX2_isByte wsX2_isByte) := goodIn_app (goodIn_of _ (by decide +kernel)) ggX2_setByte_X2_isByte
set_option maxRecDepth 20000 in
theorem ggX2_setByte_X2_asked_ : GoodIn wsX2_setByte wsX2_asked_ := goodIn_r _ [20, 21, 22, 23, 24, 25, 26, 27, 28, 29, 30, 31] (by decide +kernel) (by decide +kernel)
set_option maxRecDepth 20000 in
theorem gX2_setByte_X2_asked_ : GoodIn wsX2_setByte (wsV RX2 61 RX2 yX2_asked_ wsX2_asked_) := goodIn_app (goodIn_of _ (by decide +kernel)) ggX2_setByte_X2_asked_
theorem dX2_setByte_0 : decode cX2_setByte 0 = .ok (.aload_n 0, 1) := by decide +kernel
theorem dX2_setByte_1 : decode cX2_setByte 1 = .ok (.aload_n 0, 1) := by decide +kernel
theorem dX2_setByte_2 : decode cX2_setByte 2 = .ok (.iload_n 1, 1) := by decide +kernel
theorem dX2_setByte_3 : decode cX2_setByte 3 = .ok (.iload_n 2, 1) := by decide +kernel
theorem dX2_setByte_4 : decode cX2_setByte 4 = .ok (.invokevirtual 97, 3) := by decide +kernel
theorem dX2_setByte_7 : decode cX2_setByte 7 = .ok (.iload_n 3, 1) := by decide +kernel
theorem dX2_setByte_8 : decode cX2_setByte 8 = .ok (.invokestatic 90, 3) := by decide +kernel
theorem dX2_setByte_11 : decode cX2_setByte 11 = .ok (.invokevirtual 61, 3) := by decide +kernel
theorem dX2_setByte_14 : decode cX2_setByte 14 = .ok (.ifCond .ne 5, 3) := by decide +kernel
theorem dX2_setByte_17 : decode cX2_setByte 17 = .ok (.iconst 0, 1) := by decide +kernel
theorem dX2_setByte_18 : decode cX2_setByte 18 = .ok (.ireturn, 1) := by decide +kernel
theorem dX2_setByte_19 : decode cX2_setByte 19 = .ok (.aload_n 0, 1) := by decide +kernel
theorem dX2_setByte_20 : decode cX2_setByte 20 = .ok (.getfield 29, 3) := by decide +kernel
theorem dX2_setByte_23 : decode cX2_setByte 23 = .ok (.sipush 256, 3) := by decide +kernel
theorem dX2_setByte_26 : decode cX2_setByte 26 = .ok (.iload_n 1, 1) := by decide +kernel
theorem dX2_setByte_27 : decode cX2_setByte 27 = .ok (.imul, 1) := by decide +kernel
theorem dX2_setByte_28 : decode cX2_setByte 28 = .ok (.iload_n 2, 1) := by decide +kernel
theorem dX2_setByte_29 : decode cX2_setByte 29 = .ok (.iadd, 1) := by decide +kernel
theorem dX2_setByte_30 : decode cX2_setByte 30 = .ok (.iaload, 1) := by decide +kernel
theorem dX2_setByte_31 : decode cX2_setByte 31 = .ok (.istore 4, 2) := by decide +kernel
theorem dX2_setByte_33 : decode cX2_setByte 33 = .ok (.aload_n 0, 1) := by decide +kernel
theorem dX2_setByte_34 : decode cX2_setByte 34 = .ok (.getfield 29, 3) := by decide +kernel
theorem dX2_setByte_37 : decode cX2_setByte 37 = .ok (.sipush 256, 3) := by decide +kernel
theorem dX2_setByte_40 : decode cX2_setByte 40 = .ok (.iload_n 1, 1) := by decide +kernel
theorem dX2_setByte_41 : decode cX2_setByte 41 = .ok (.imul, 1) := by decide +kernel
theorem dX2_setByte_42 : decode cX2_setByte 42 = .ok (.iload_n 2, 1) := by decide +kernel
theorem dX2_setByte_43 : decode cX2_setByte 43 = .ok (.iadd, 1) := by decide +kernel
theorem dX2_setByte_44 : decode cX2_setByte 44 = .ok (.iload_n 3, 1) := by decide +kernel
theorem dX2_setByte_45 : decode cX2_setByte 45 = .ok (.iastore, 1) := by decide +kernel
theorem dX2_setByte_46 : decode cX2_setByte 46 = .ok (.iload 4, 2) := by decide +kernel
theorem dX2_setByte_48 : decode cX2_setByte 48 = .ok (.ireturn, 1) := by decide +kernel
set_option maxRecDepth 20000 in
theorem ggX2_truncate_X2_isRow : GoodIn wsX2_truncate wsX2_isRow := goodIn_r _ [5, 6, 7, 4, 8] (by decide +kernel) (by decide +kernel)
set_option maxRecDepth 20000 in
theorem gX2_truncate_X2_isRow : GoodIn wsX2_truncate (va_wsS RX2 87 yX2_isRow wsX2_isRow) := goodIn_app (goodIn_of _ (by decide +kernel)) ggX2_truncate_X2_isRow
set_option maxRecDepth 20000 in
theorem ggX2_truncate_X2_in : GoodIn wsX2_truncate wsX2_in := goodIn_r _ [8] (by decide +kernel) (by decide +kernel)
set_option maxRecDepth 20000 in
theorem gX2_truncate_X2_in : GoodIn wsX2_truncate (va_wsS RX2 42 yX2_in wsX2_in) := goodIn_app (goodIn_of _ (by decide +kernel)) ggX2_truncate_X2_in
set_option maxRecDepth 20000 in
theorem ggX2_truncate_X2_asked_ : GoodIn wsX2_truncate wsX2_asked_ := goodIn_r _ [12, 13, 14, 15, 16, 17, 18, 19, 20, 21, 22, 23] (by decide +kernel) (by decide +kernel)
set_option maxRecDepth 20000 in
theorem gX2_truncate_X2_asked_ : GoodIn wsX2_truncate (wsV RX2 61 RX2 yX2_asked_ wsX2_asked_) := goodIn_app (goodIn_of _ (by decide +kernel)) ggX2_truncate_X2_asked_
theorem dX2_truncate_0 : decode cX2_truncate 0 = .ok (.iload_n 1, 1) := by decide +kernel
theorem dX2_truncate_1 : decode cX2_truncate 1 = .ok (.invokestatic 87, 3) := by decide +kernel
theorem dX2_truncate_4 : decode cX2_truncate 4 = .ok (.istore_n 3, 1) := by decide +kernel
theorem dX2_truncate_5 : decode cX2_truncate 5 = .ok (.aload_n 0, 1) := by decide +kernel
theorem dX2_truncate_6 : decode cX2_truncate 6 = .ok (.iload_n 3, 1) := by decide +kernel
theorem dX2_truncate_7 : decode cX2_truncate 7 = .ok (.iload_n 3, 1) := by decide +kernel
theorem dX2_truncate_8 : decode cX2_truncate 8 = .ok (.ifCond .eq 21, 3) := by decide +kernel
theorem dX2_truncate_11 : decode cX2_truncate 11 = .ok (.iload_n 2, 1) := by decide +kernel
theorem dX2_truncate_12 : decode cX2_truncate 12 = .ok (.iconst 0, 1) := by decide +kernel
theorem dX2_truncate_13 : decode cX2_truncate 13 = .ok (.aload_n 0, 1) := by decide +kernel
theorem dX2_truncate_14 : decode cX2_truncate 14 = .ok (.getfield 32, 3) := by decide +kernel
theorem dX2_truncate_17 : decode cX2_truncate 17 = .ok (.iload_n 1, 1) := by decide +kernel
theorem dX2_truncate_18 : decode cX2_truncate 18 = .ok (.iaload, 1) := by decide +kernel
theorem dX2_truncate_19 : decode cX2_truncate 19 = .ok (.invokestatic 42, 3) := by decide +kernel
theorem dX2_truncate_22 : decode cX2_truncate 22 = .ok (.ifCond .eq 7, 3) := by decide +kernel
theorem dX2_truncate_25 : decode cX2_truncate 25 = .ok (.iconst 1, 1) := by decide +kernel
theorem dX2_truncate_26 : decode cX2_truncate 26 = .ok (.goto 4, 3) := by decide +kernel
theorem dX2_truncate_29 : decode cX2_truncate 29 = .ok (.iconst 0, 1) := by decide +kernel
theorem dX2_truncate_30 : decode cX2_truncate 30 = .ok (.invokevirtual 61, 3) := by decide +kernel
theorem dX2_truncate_33 : decode cX2_truncate 33 = .ok (.ifCond .ne 5, 3) := by decide +kernel
theorem dX2_truncate_36 : decode cX2_truncate 36 = .ok (.iconst 0, 1) := by decide +kernel
theorem dX2_truncate_37 : decode cX2_truncate 37 = .ok (.ireturn, 1) := by decide +kernel
theorem dX2_truncate_38 : decode cX2_truncate 38 = .ok (.aload_n 0, 1) := by decide +kernel
theorem dX2_truncate_39 : decode cX2_truncate 39 = .ok (.getfield 32, 3) := by decide +kernel
theorem dX2_truncate_42 : decode cX2_truncate 42 = .ok (.iload_n 1, 1) := by decide +kernel
theorem dX2_truncate_43 : decode cX2_truncate 43 = .ok (.iaload, 1) := by decide +kernel
theorem dX2_truncate_44 : decode cX2_truncate 44 = .ok (.iload_n 2, 1) := by decide +kernel
theorem dX2_truncate_45 : decode cX2_truncate 45 = .ok (.isub, 1) := by decide +kernel
theorem dX2_truncate_46 : decode cX2_truncate 46 = .ok (.istore 4, 2) := by decide +kernel
theorem dX2_truncate_48 : decode cX2_truncate 48 = .ok (.aload_n 0, 1) := by decide +kernel
theorem dX2_truncate_49 : decode cX2_truncate 49 = .ok (.getfield 32, 3) := by decide +kernel
theorem dX2_truncate_52 : decode cX2_truncate 52 = .ok (.iload_n 1, 1) := by decide +kernel
theorem dX2_truncate_53 : decode cX2_truncate 53 = .ok (.iload_n 2, 1) := by decide +kernel
theorem dX2_truncate_54 : decode cX2_truncate 54 = .ok (.iastore, 1) := by decide +kernel
theorem dX2_truncate_55 : decode cX2_truncate 55 = .ok (.iload 4, 2) := by decide +kernel
theorem dX2_truncate_57 : decode cX2_truncate 57 = .ok (.ireturn, 1) := by decide +kernel
set_option maxRecDepth 20000 in
theorem ggX2_length_X2_isRow : GoodIn wsX2_length wsX2_isRow := goodIn_r _ [5, 6, 7, 4, 8] (by decide +kernel) (by decide +kernel)
set_option maxRecDepth 20000 in
theorem gX2_length_X2_isRow : GoodIn wsX2_length (va_wsS RX2 87 yX2_isRow wsX2_isRow) := goodIn_app (goodIn_of _ (by decide +kernel)) ggX2_length_X2_isRow
set_option maxRecDepth 20000 in
theorem ggX2_length_X2_asked : GoodIn wsX2_length wsX2_asked := goodIn_r _ [12, 13, 14, 15, 16, 17, 18, 19, 20, 21, 22, 23] (by decide +kernel) (by decide +kernel)
set_option maxRecDepth 20000 in
theorem gX2_length_X2_asked : GoodIn wsX2_length (wsV RX2 69 RX2 yX2_asked wsX2_asked) := goodIn_app (goodIn_of _ (by decide +kernel)) ggX2_length_X2_asked
theorem dX2_length_0 : decode cX2_length 0 = .ok (.aload_n 0, 1) := by decide +kernel
theorem dX2_length_1 : decode cX2_length 1 = .ok (.iload_n 1, 1) := by decide +kernel
theorem dX2_length_2 : decode cX2_length 2 = .ok (.invokestatic 87, 3) := by decide +kernel
theorem dX2_length_5 : decode cX2_length 5 = .ok (.invokevirtual 69, 3) := by decide +kernel
theorem dX2_length_8 : decode cX2_length 8 = .ok (.ifCond .eq 12, 3) := by decide +kernel
theorem dX2_length_11 : decode cX2_length 11 = .ok (.aload_n 0, 1) := by decide +kernel
theorem dX2_length_12 : decode cX2_length 12 = .ok (.getfield 32, 3) := by decide +kernel
theorem dX2_length_15 : decode cX2_length 15 = .ok (.iload_n 1, 1) := by decide +kernel
theorem dX2_length_16 : decode cX2_length 16 = .ok (.iaload, 1) := by decide +kernel
theorem dX2_length_17 : decode cX2_length 17 = .ok (.goto 4, 3) := by decide +kernel
theorem dX2_length_20 : decode cX2_length 20 = .ok (.iconst 0, 1) := by decide +kernel
theorem dX2_length_21 : decode cX2_length 21 = .ok (.ireturn, 1) := by decide +kernel
set_option maxRecDepth 20000 in
theorem ggX2_byteAt_X2_isPlace : GoodIn wsX2_byteAt wsX2_isPlace := goodIn_r _ [6, 7, 8, 9, 5, 10, 11, 12, 13, 19, 20, 21, 22, 23, 24, 25, 26, 27, 28] (by decide +kernel) (by decide +kernel)
set_option maxRecDepth 20000 in
theorem gX2_byteAt_X2_isPlace : GoodIn wsX2_byteAt (wsV RX2 97 RX2 yX2_isPlace wsX2_isPlace) := goodIn_app (goodIn_of _ (by decide +kernel)) ggX2_byteAt_X2_isPlace
set_option maxRecDepth 20000 in
theorem ggX2_byteAt_X2_asked : GoodIn wsX2_byteAt wsX2_asked := goodIn_r _ [17, 18, 19, 20, 21, 22, 23, 24, 25, 26, 27, 28] (by decide +kernel) (by decide +kernel)
set_option maxRecDepth 20000 in
theorem gX2_byteAt_X2_asked : GoodIn wsX2_byteAt (wsV RX2 69 RX2 yX2_asked wsX2_asked) := goodIn_app (goodIn_of _ (by decide +kernel)) ggX2_byteAt_X2_asked
theorem dX2_byteAt_0 : decode cX2_byteAt 0 = .ok (.aload_n 0, 1) := by decide +kernel
theorem dX2_byteAt_1 : decode cX2_byteAt 1 = .ok (.aload_n 0, 1) := by decide +kernel
theorem dX2_byteAt_2 : decode cX2_byteAt 2 = .ok (.iload_n 1, 1) := by decide +kernel
theorem dX2_byteAt_3 : decode cX2_byteAt 3 = .ok (.iload_n 2, 1) := by decide +kernel
theorem dX2_byteAt_4 : decode cX2_byteAt 4 = .ok (.invokevirtual 97, 3) := by decide +kernel
theorem dX2_byteAt_7 : decode cX2_byteAt 7 = .ok (.invokevirtual 69, 3) := by decide +kernel
theorem dX2_byteAt_10 : decode cX2_byteAt 10 = .ok (.ifCond .eq 18, 3) := by decide +kernel
theorem dX2_byteAt_13 : decode cX2_byteAt 13 = .ok (.aload_n 0, 1) := by decide +kernel
theorem dX2_byteAt_14 : decode cX2_byteAt 14 = .ok (.getfield 29, 3) := by decide +kernel
theorem dX2_byteAt_17 : decode cX2_byteAt 17 = .ok (.sipush 256, 3) := by decide +kernel
theorem dX2_byteAt_20 : decode cX2_byteAt 20 = .ok (.iload_n 1, 1) := by decide +kernel
theorem dX2_byteAt_21 : decode cX2_byteAt 21 = .ok (.imul, 1) := by decide +kernel
theorem dX2_byteAt_22 : decode cX2_byteAt 22 = .ok (.iload_n 2, 1) := by decide +kernel
theorem dX2_byteAt_23 : decode cX2_byteAt 23 = .ok (.iadd, 1) := by decide +kernel
theorem dX2_byteAt_24 : decode cX2_byteAt 24 = .ok (.iaload, 1) := by decide +kernel
theorem dX2_byteAt_25 : decode cX2_byteAt 25 = .ok (.goto 4, 3) := by decide +kernel
theorem dX2_byteAt_28 : decode cX2_byteAt 28 = .ok (.iconst 0, 1) := by decide +kernel
theorem dX2_byteAt_29 : decode cX2_byteAt 29 = .ok (.ireturn, 1) := by decide +kernel
set_option maxRecDepth 20000 in
theorem ggX2_part_X2_takes : GoodIn wsX2_part wsX2_takes := goodIn_r _ [7, 8, 9, 10, 11, 12, 6, 13, 14, 24, 25, 26, 27, 28, 29, 30, 31, 32, 33] (by decide +kernel) (by decide +kernel)
set_option maxRecDepth 20000 in
theorem gX2_part_X2_takes : GoodIn wsX2_part (wsV RX2 72 RX2 yX2_takes wsX2_takes) := goodIn_app (goodIn_of _ (by decide +kernel)) ggX2_part_X2_takes
set_option maxRecDepth 20000 in
theorem ggX2_part_X2_sumOf : GoodIn wsX2_part wsX2_sumOf := goodIn_r _ [18, 19, 9, 20, 21, 22, 6, 23, 24, 25, 26, 27, 28, 29, 30, 31, 32, 33] (by decide +kernel) (by decide +kernel)
set_option maxRecDepth 20000 in
theorem gX2_part_X2_sumOf : GoodIn wsX2_part (wsV RX2 76 RX2 yX2_sumOf wsX2_sumOf) := goodIn_app (goodIn_of _ (by decide +kernel)) ggX2_part_X2_sumOf
theorem dX2_part_0 : decode cX2_part 0 = .ok (.aload_n 0, 1) := by decide +kernel
theorem dX2_part_1 : decode cX2_part 1 = .ok (.getfield 16, 3) := by decide +kernel
theorem dX2_part_4 : decode cX2_part 4 = .ok (.iload_n 1, 1) := by decide +kernel
theorem dX2_part_5 : decode cX2_part 5 = .ok (.iaload, 1) := by decide +kernel
theorem dX2_part_6 : decode cX2_part 6 = .ok (.istore 5, 2) := by decide +kernel
theorem dX2_part_8 : decode cX2_part 8 = .ok (.iload_n 3, 1) := by decide +kernel
theorem dX2_part_9 : decode cX2_part 9 = .ok (.istore 6, 2) := by decide +kernel
theorem dX2_part_11 : decode cX2_part 11 = .ok (.iload 6, 2) := by decide +kernel
theorem dX2_part_13 : decode cX2_part 13 = .ok (.iload 4, 2) := by decide +kernel
theorem dX2_part_15 : decode cX2_part 15 = .ok (.if_icmp .ge 31, 3) := by decide +kernel
theorem dX2_part_18 : decode cX2_part 18 = .ok (.aload_n 0, 1) := by decide +kernel
theorem dX2_part_19 : decode cX2_part 19 = .ok (.iload_n 1, 1) := by decide +kernel
theorem dX2_part_20 : decode cX2_part 20 = .ok (.iload 5, 2) := by decide +kernel
theorem dX2_part_22 : decode cX2_part 22 = .ok (.aload_n 0, 1) := by decide +kernel
theorem dX2_part_23 : decode cX2_part 23 = .ok (.getfield 29, 3) := by decide +kernel
theorem dX2_part_26 : decode cX2_part 26 = .ok (.sipush 256, 3) := by decide +kernel
theorem dX2_part_29 : decode cX2_part 29 = .ok (.iload_n 2, 1) := by decide +kernel
theorem dX2_part_30 : decode cX2_part 30 = .ok (.imul, 1) := by decide +kernel
theorem dX2_part_31 : decode cX2_part 31 = .ok (.iload 6, 2) := by decide +kernel
theorem dX2_part_33 : decode cX2_part 33 = .ok (.iadd, 1) := by decide +kernel
theorem dX2_part_34 : decode cX2_part 34 = .ok (.iaload, 1) := by decide +kernel
theorem dX2_part_35 : decode cX2_part 35 = .ok (.invokevirtual 72, 3) := by decide +kernel
theorem dX2_part_38 : decode cX2_part 38 = .ok (.istore 5, 2) := by decide +kernel
theorem dX2_part_40 : decode cX2_part 40 = .ok (.iinc 6 1, 3) := by decide +kernel
theorem dX2_part_43 : decode cX2_part 43 = .ok (.goto (-32), 3) := by decide +kernel
theorem dX2_part_46 : decode cX2_part 46 = .ok (.aload_n 0, 1) := by decide +kernel
theorem dX2_part_47 : decode cX2_part 47 = .ok (.iload_n 1, 1) := by decide +kernel
theorem dX2_part_48 : decode cX2_part 48 = .ok (.iload 5, 2) := by decide +kernel
theorem dX2_part_50 : decode cX2_part 50 = .ok (.invokevirtual 76, 3) := by decide +kernel
theorem dX2_part_53 : decode cX2_part 53 = .ok (.ireturn, 1) := by decide +kernel
set_option maxRecDepth 20000 in
theorem ggX2_sum_X2_isModel : GoodIn wsX2_sum wsX2_isModel := goodIn_r _ [6, 7, 8, 9, 5, 10, 45, 46, 47, 48, 49, 50, 51, 52, 53, 54] (by decide +kernel) (by decide +kernel)
set_option maxRecDepth 20000 in
theorem gX2_sum_X2_isModel : GoodIn wsX2_sum (wsV RX2 65 RX2 yX2_isModel wsX2_isModel) := goodIn_app (goodIn_of _ (by decide +kernel)) ggX2_sum_X2_isModel
set_option maxRecDepth 20000 in
theorem ggX2_sum_X2_isRow : GoodIn wsX2_sum wsX2_isRow := goodIn_r _ [13, 8, 9, 5, 10] (by decide +kernel) (by decide +kernel)
set_option maxRecDepth 20000 in
theorem gX2_sum_X2_isRow : GoodIn wsX2_sum (va_wsS RX2 87 yX2_isRow wsX2_isRow) := goodIn_app (goodIn_of _ (by decide +kernel)) ggX2_sum_X2_isRow
set_option maxRecDepth 20000 in
theorem ggX2_sum_X2_asked : GoodIn wsX2_sum wsX2_asked := goodIn_r _ [17, 18, 45, 46, 47, 48, 49, 50, 51, 52, 53, 54] (by decide +kernel) (by decide +kernel)
set_option maxRecDepth 20000 in
theorem gX2_sum_X2_asked : GoodIn wsX2_sum (wsV RX2 69 RX2 yX2_asked wsX2_asked) := goodIn_app (goodIn_of _ (by decide +kernel)) ggX2_sum_X2_asked
set_option maxRecDepth 20000 in
theorem ggX2_sum_X2_part : GoodIn wsX2_sum wsX2_part := goodIn_r _ [22, 23, 24, 25, 26, 27, 5, 28, 29, 30, 31, 32, 33, 34, 35, 36, 37, 38, 39, 40, 41, 42, 43, 44, 45, 46, 47, 48, 49, 50, 51, 52, 53, 54] (by decide +kernel) (by decide +kernel)
set_option maxRecDepth 20000 in
theorem gX2_sum_X2_part : GoodIn wsX2_sum (wsV RX2 100 RX2 yX2_part wsX2_part) := goodIn_app (goodIn_of _ (by decide +kernel)) ggX2_sum_X2_part
theorem dX2_sum_0 : decode cX2_sum 0 = .ok (.aload_n 0, 1) := by decide +kernel
theorem dX2_sum_1 : decode cX2_sum 1 = .ok (.aload_n 0, 1) := by decide +kernel
theorem dX2_sum_2 : decode cX2_sum 2 = .ok (.iload_n 1, 1) := by decide +kernel
theorem dX2_sum_3 : decode cX2_sum 3 = .ok (.invokevirtual 65, 3) := by decide +kernel
theorem dX2_sum_6 : decode cX2_sum 6 = .ok (.ifCond .eq 14, 3) := by decide +kernel
theorem dX2_sum_9 : decode cX2_sum 9 = .ok (.iload_n 2, 1) := by decide +kernel
theorem dX2_sum_10 : decode cX2_sum 10 = .ok (.invokestatic 87, 3) := by decide +kernel
theorem dX2_sum_13 : decode cX2_sum 13 = .ok (.ifCond .eq 7, 3) := by decide +kernel
theorem dX2_sum_16 : decode cX2_sum 16 = .ok (.iconst 1, 1) := by decide +kernel
theorem dX2_sum_17 : decode cX2_sum 17 = .ok (.goto 4, 3) := by decide +kernel
theorem dX2_sum_20 : decode cX2_sum 20 = .ok (.iconst 0, 1) := by decide +kernel
theorem dX2_sum_21 : decode cX2_sum 21 = .ok (.invokevirtual 69, 3) := by decide +kernel
theorem dX2_sum_24 : decode cX2_sum 24 = .ok (.ifCond .eq 19, 3) := by decide +kernel
theorem dX2_sum_27 : decode cX2_sum 27 = .ok (.aload_n 0, 1) := by decide +kernel
theorem dX2_sum_28 : decode cX2_sum 28 = .ok (.iload_n 1, 1) := by decide +kernel
theorem dX2_sum_29 : decode cX2_sum 29 = .ok (.iload_n 2, 1) := by decide +kernel
theorem dX2_sum_30 : decode cX2_sum 30 = .ok (.iconst 0, 1) := by decide +kernel
theorem dX2_sum_31 : decode cX2_sum 31 = .ok (.aload_n 0, 1) := by decide +kernel
theorem dX2_sum_32 : decode cX2_sum 32 = .ok (.getfield 32, 3) := by decide +kernel
theorem dX2_sum_35 : decode cX2_sum 35 = .ok (.iload_n 2, 1) := by decide +kernel
theorem dX2_sum_36 : decode cX2_sum 36 = .ok (.iaload, 1) := by decide +kernel
theorem dX2_sum_37 : decode cX2_sum 37 = .ok (.invokevirtual 100, 3) := by decide +kernel
theorem dX2_sum_40 : decode cX2_sum 40 = .ok (.goto 4, 3) := by decide +kernel
theorem dX2_sum_43 : decode cX2_sum 43 = .ok (.iconst 0, 1) := by decide +kernel
theorem dX2_sum_44 : decode cX2_sum 44 = .ok (.ireturn, 1) := by decide +kernel
set_option maxRecDepth 20000 in
theorem ggX2_sumOfPart_X2_isModel : GoodIn wsX2_sumOfPart wsX2_isModel := goodIn_r _ [6, 7, 8, 9, 5, 10, 45, 46, 47, 48, 49, 50, 51, 52, 53, 54] (by decide +kernel) (by decide +kernel)
set_option maxRecDepth 20000 in
theorem gX2_sumOfPart_X2_isModel : GoodIn wsX2_sumOfPart (wsV RX2 65 RX2 yX2_isModel wsX2_isModel) := goodIn_app (goodIn_of _ (by decide +kernel)) ggX2_sumOfPart_X2_isModel
set_option maxRecDepth 20000 in
theorem ggX2_sumOfPart_X2_isRow : GoodIn wsX2_sumOfPart wsX2_isRow := goodIn_r _ [13, 8, 9, 5, 10] (by decide +kernel) (by decide +kernel)
set_option maxRecDepth 20000 in
theorem gX2_sumOfPart_X2_isRow : GoodIn wsX2_sumOfPart (va_wsS RX2 87 yX2_isRow wsX2_isRow) := goodIn_app (goodIn_of _ (by decide +kernel)) ggX2_sumOfPart_X2_isRow
set_option maxRecDepth 20000 in
theorem ggX2_sumOfPart_X2_in : GoodIn wsX2_sumOfPart wsX2_in := goodIn_r _ [10] (by decide +kernel) (by decide +kernel)
set_option maxRecDepth 20000 in
theorem gX2_sumOfPart_X2_in : GoodIn wsX2_sumOfPart (va_wsS RX2 42 yX2_in wsX2_in) := goodIn_app (goodIn_of _ (by decide +kernel)) ggX2_sumOfPart_X2_in
set_option maxRecDepth 20000 in
theorem ggX2_sumOfPart_X2_asked : GoodIn wsX2_sumOfPart wsX2_asked := goodIn_r _ [17, 18, 45, 46, 47, 48, 49, 50, 51, 52, 53, 54] (by decide +kernel) (by decide +kernel)
set_option maxRecDepth 20000 in
theorem gX2_sumOfPart_X2_asked : GoodIn wsX2_sumOfPart (wsV RX2 69 RX2 yX2_asked wsX2_asked) := goodIn_app (goodIn_of _ (by decide +kernel)) ggX2_sumOfPart_X2_asked
set_option maxRecDepth 20000 in
theorem ggX2_sumOfPart_X2_part : GoodIn wsX2_sumOfPart wsX2_part := goodIn_r _ [22, 23, 24, 25, 26, 27, 5, 28, 29, 30, 31, 32, 33, 34, 35, 36, 37, 38, 39, 40, 41, 42, 43, 44, 45, 46, 47, 48, 49, 50, 51, 52, 53, 54] (by decide +kernel) (by decide +kernel)
set_option maxRecDepth 20000 in
theorem gX2_sumOfPart_X2_part : GoodIn wsX2_sumOfPart (wsV RX2 100 RX2 yX2_part wsX2_part) := goodIn_app (goodIn_of _ (by decide +kernel)) ggX2_sumOfPart_X2_part
theorem dX2_sumOfPart_0 : decode cX2_sumOfPart 0 = .ok (.aload_n 0, 1) := by decide +kernel
theorem dX2_sumOfPart_1 : decode cX2_sumOfPart 1 = .ok (.iload_n 1, 1) := by decide +kernel
theorem dX2_sumOfPart_2 : decode cX2_sumOfPart 2 = .ok (.invokevirtual 65, 3) := by decide +kernel
theorem dX2_sumOfPart_5 : decode cX2_sumOfPart 5 = .ok (.ifCond .eq 43, 3) := by decide +kernel
theorem dX2_sumOfPart_8 : decode cX2_sumOfPart 8 = .ok (.iload_n 2, 1) := by decide +kernel
theorem dX2_sumOfPart_9 : decode cX2_sumOfPart 9 = .ok (.invokestatic 87, 3) := by decide +kernel
theorem dX2_sumOfPart_12 : decode cX2_sumOfPart 12 = .ok (.ifCond .eq 36, 3) := by decide +kernel
theorem dX2_sumOfPart_15 : decode cX2_sumOfPart 15 = .ok (.iload_n 3, 1) := by decide +kernel
theorem dX2_sumOfPart_16 : decode cX2_sumOfPart 16 = .ok (.iconst 0, 1) := by decide +kernel
theorem dX2_sumOfPart_17 : decode cX2_sumOfPart 17 = .ok (.aload_n 0, 1) := by decide +kernel
theorem dX2_sumOfPart_18 : decode cX2_sumOfPart 18 = .ok (.getfield 32, 3) := by decide +kernel
theorem dX2_sumOfPart_21 : decode cX2_sumOfPart 21 = .ok (.iload_n 2, 1) := by decide +kernel
theorem dX2_sumOfPart_22 : decode cX2_sumOfPart 22 = .ok (.iaload, 1) := by decide +kernel
theorem dX2_sumOfPart_23 : decode cX2_sumOfPart 23 = .ok (.invokestatic 42, 3) := by decide +kernel
theorem dX2_sumOfPart_26 : decode cX2_sumOfPart 26 = .ok (.ifCond .eq 22, 3) := by decide +kernel
theorem dX2_sumOfPart_29 : decode cX2_sumOfPart 29 = .ok (.iload 4, 2) := by decide +kernel
theorem dX2_sumOfPart_31 : decode cX2_sumOfPart 31 = .ok (.iload_n 3, 1) := by decide +kernel
theorem dX2_sumOfPart_32 : decode cX2_sumOfPart 32 = .ok (.aload_n 0, 1) := by decide +kernel
theorem dX2_sumOfPart_33 : decode cX2_sumOfPart 33 = .ok (.getfield 32, 3) := by decide +kernel
theorem dX2_sumOfPart_36 : decode cX2_sumOfPart 36 = .ok (.iload_n 2, 1) := by decide +kernel
theorem dX2_sumOfPart_37 : decode cX2_sumOfPart 37 = .ok (.iaload, 1) := by decide +kernel
theorem dX2_sumOfPart_38 : decode cX2_sumOfPart 38 = .ok (.invokestatic 42, 3) := by decide +kernel
theorem dX2_sumOfPart_41 : decode cX2_sumOfPart 41 = .ok (.ifCond .eq 7, 3) := by decide +kernel
theorem dX2_sumOfPart_44 : decode cX2_sumOfPart 44 = .ok (.iconst 1, 1) := by decide +kernel
theorem dX2_sumOfPart_45 : decode cX2_sumOfPart 45 = .ok (.goto 4, 3) := by decide +kernel
theorem dX2_sumOfPart_48 : decode cX2_sumOfPart 48 = .ok (.iconst 0, 1) := by decide +kernel
theorem dX2_sumOfPart_49 : decode cX2_sumOfPart 49 = .ok (.istore 5, 2) := by decide +kernel
theorem dX2_sumOfPart_51 : decode cX2_sumOfPart 51 = .ok (.aload_n 0, 1) := by decide +kernel
theorem dX2_sumOfPart_52 : decode cX2_sumOfPart 52 = .ok (.iload 5, 2) := by decide +kernel
theorem dX2_sumOfPart_54 : decode cX2_sumOfPart 54 = .ok (.invokevirtual 69, 3) := by decide +kernel
theorem dX2_sumOfPart_57 : decode cX2_sumOfPart 57 = .ok (.ifCond .eq 15, 3) := by decide +kernel
theorem dX2_sumOfPart_60 : decode cX2_sumOfPart 60 = .ok (.aload_n 0, 1) := by decide +kernel
theorem dX2_sumOfPart_61 : decode cX2_sumOfPart 61 = .ok (.iload_n 1, 1) := by decide +kernel
theorem dX2_sumOfPart_62 : decode cX2_sumOfPart 62 = .ok (.iload_n 2, 1) := by decide +kernel
theorem dX2_sumOfPart_63 : decode cX2_sumOfPart 63 = .ok (.iload_n 3, 1) := by decide +kernel
theorem dX2_sumOfPart_64 : decode cX2_sumOfPart 64 = .ok (.iload 4, 2) := by decide +kernel
theorem dX2_sumOfPart_66 : decode cX2_sumOfPart 66 = .ok (.invokevirtual 100, 3) := by decide +kernel
theorem dX2_sumOfPart_69 : decode cX2_sumOfPart 69 = .ok (.goto 4, 3) := by decide +kernel
theorem dX2_sumOfPart_72 : decode cX2_sumOfPart 72 = .ok (.iconst 0, 1) := by decide +kernel
theorem dX2_sumOfPart_73 : decode cX2_sumOfPart 73 = .ok (.ireturn, 1) := by decide +kernel
set_option maxRecDepth 20000 in
theorem ggX2_remainder_X2_isModel : GoodIn wsX2_remainder wsX2_isModel := goodIn_r _ [7, 8, 9, 10, 6, 11, 26, 27, 28, 29, 30, 31, 32, 33, 34, 35] (by decide +kernel) (by decide +kernel)
set_option maxRecDepth 20000 in
theorem gX2_remainder_X2_isModel : GoodIn wsX2_remainder (wsV RX2 65 RX2 yX2_isModel wsX2_isModel) := goodIn_app (goodIn_of _ (by decide +kernel)) ggX2_remainder_X2_isModel
set_option maxRecDepth 20000 in
theorem ggX2_remainder_X2_isRow : GoodIn wsX2_remainder wsX2_isRow := goodIn_r _ [14, 9, 10, 6, 11] (by decide +kernel) (by decide +kernel)
set_option maxRecDepth 20000 in
theorem gX2_remainder_X2_isRow : GoodIn wsX2_remainder (va_wsS RX2 87 yX2_isRow wsX2_isRow) := goodIn_app (goodIn_of _ (by decide +kernel)) ggX2_remainder_X2_isRow
set_option maxRecDepth 20000 in
theorem ggX2_remainder_X2_asked : GoodIn wsX2_remainder wsX2_asked := goodIn_r _ [18, 19, 26, 27, 28, 29, 30, 31, 32, 33, 34, 35] (by decide +kernel) (by decide +kernel)
set_option maxRecDepth 20000 in
theorem gX2_remainder_X2_asked : GoodIn wsX2_remainder (wsV RX2 69 RX2 yX2_asked wsX2_asked) := goodIn_app (goodIn_of _ (by decide +kernel)) ggX2_remainder_X2_asked
set_option maxRecDepth 20000 in
theorem ggX2_remainder_X2_timesX : GoodIn wsX2_remainder wsX2_timesX := goodIn_r _ [23, 24, 25, 26, 27, 28, 29, 30, 31, 32, 33, 34, 35] (by decide +kernel) (by decide +kernel)
set_option maxRecDepth 20000 in
theorem gX2_remainder_X2_timesX : GoodIn wsX2_remainder (wsV RX2 50 RX2 yX2_timesX wsX2_timesX) := goodIn_app (goodIn_of _ (by decide +kernel)) ggX2_remainder_X2_timesX
theorem dX2_remainder_0 : decode cX2_remainder 0 = .ok (.iconst 0, 1) := by decide +kernel
theorem dX2_remainder_1 : decode cX2_remainder 1 = .ok (.istore_n 3, 1) := by decide +kernel
theorem dX2_remainder_2 : decode cX2_remainder 2 = .ok (.aload_n 0, 1) := by decide +kernel
theorem dX2_remainder_3 : decode cX2_remainder 3 = .ok (.aload_n 0, 1) := by decide +kernel
theorem dX2_remainder_4 : decode cX2_remainder 4 = .ok (.iload_n 1, 1) := by decide +kernel
theorem dX2_remainder_5 : decode cX2_remainder 5 = .ok (.invokevirtual 65, 3) := by decide +kernel
theorem dX2_remainder_8 : decode cX2_remainder 8 = .ok (.ifCond .eq 14, 3) := by decide +kernel
theorem dX2_remainder_11 : decode cX2_remainder 11 = .ok (.iload_n 2, 1) := by decide +kernel
theorem dX2_remainder_12 : decode cX2_remainder 12 = .ok (.invokestatic 87, 3) := by decide +kernel
theorem dX2_remainder_15 : decode cX2_remainder 15 = .ok (.ifCond .eq 7, 3) := by decide +kernel
theorem dX2_remainder_18 : decode cX2_remainder 18 = .ok (.iconst 1, 1) := by decide +kernel
theorem dX2_remainder_19 : decode cX2_remainder 19 = .ok (.goto 4, 3) := by decide +kernel
theorem dX2_remainder_22 : decode cX2_remainder 22 = .ok (.iconst 0, 1) := by decide +kernel
theorem dX2_remainder_23 : decode cX2_remainder 23 = .ok (.invokevirtual 69, 3) := by decide +kernel
theorem dX2_remainder_26 : decode cX2_remainder 26 = .ok (.istore 4, 2) := by decide +kernel
theorem dX2_remainder_28 : decode cX2_remainder 28 = .ok (.iconst 0, 1) := by decide +kernel
theorem dX2_remainder_29 : decode cX2_remainder 29 = .ok (.istore 5, 2) := by decide +kernel
theorem dX2_remainder_31 : decode cX2_remainder 31 = .ok (.iload 4, 2) := by decide +kernel
theorem dX2_remainder_33 : decode cX2_remainder 33 = .ok (.ifCond .eq 58, 3) := by decide +kernel
theorem dX2_remainder_36 : decode cX2_remainder 36 = .ok (.iload 5, 2) := by decide +kernel
theorem dX2_remainder_38 : decode cX2_remainder 38 = .ok (.bipush 8, 2) := by decide +kernel
theorem dX2_remainder_40 : decode cX2_remainder 40 = .ok (.aload_n 0, 1) := by decide +kernel
theorem dX2_remainder_41 : decode cX2_remainder 41 = .ok (.getfield 32, 3) := by decide +kernel
theorem dX2_remainder_44 : decode cX2_remainder 44 = .ok (.iload_n 2, 1) := by decide +kernel
theorem dX2_remainder_45 : decode cX2_remainder 45 = .ok (.iaload, 1) := by decide +kernel
theorem dX2_remainder_46 : decode cX2_remainder 46 = .ok (.imul, 1) := by decide +kernel
theorem dX2_remainder_47 : decode cX2_remainder 47 = .ok (.if_icmp .ge 44, 3) := by decide +kernel
theorem dX2_remainder_50 : decode cX2_remainder 50 = .ok (.aload_n 0, 1) := by decide +kernel
theorem dX2_remainder_51 : decode cX2_remainder 51 = .ok (.iload_n 1, 1) := by decide +kernel
theorem dX2_remainder_52 : decode cX2_remainder 52 = .ok (.iload_n 3, 1) := by decide +kernel
theorem dX2_remainder_53 : decode cX2_remainder 53 = .ok (.invokevirtual 50, 3) := by decide +kernel
theorem dX2_remainder_56 : decode cX2_remainder 56 = .ok (.aload_n 0, 1) := by decide +kernel
theorem dX2_remainder_57 : decode cX2_remainder 57 = .ok (.getfield 29, 3) := by decide +kernel
theorem dX2_remainder_60 : decode cX2_remainder 60 = .ok (.sipush 256, 3) := by decide +kernel
theorem dX2_remainder_63 : decode cX2_remainder 63 = .ok (.iload_n 2, 1) := by decide +kernel
theorem dX2_remainder_64 : decode cX2_remainder 64 = .ok (.imul, 1) := by decide +kernel
theorem dX2_remainder_65 : decode cX2_remainder 65 = .ok (.iload 5, 2) := by decide +kernel
theorem dX2_remainder_67 : decode cX2_remainder 67 = .ok (.bipush 8, 2) := by decide +kernel
theorem dX2_remainder_69 : decode cX2_remainder 69 = .ok (.idiv, 1) := by decide +kernel
theorem dX2_remainder_70 : decode cX2_remainder 70 = .ok (.iadd, 1) := by decide +kernel
theorem dX2_remainder_71 : decode cX2_remainder 71 = .ok (.iaload, 1) := by decide +kernel
theorem dX2_remainder_72 : decode cX2_remainder 72 = .ok (.bipush 7, 2) := by decide +kernel
theorem dX2_remainder_74 : decode cX2_remainder 74 = .ok (.iload 5, 2) := by decide +kernel
theorem dX2_remainder_76 : decode cX2_remainder 76 = .ok (.bipush 8, 2) := by decide +kernel
theorem dX2_remainder_78 : decode cX2_remainder 78 = .ok (.irem, 1) := by decide +kernel
theorem dX2_remainder_79 : decode cX2_remainder 79 = .ok (.isub, 1) := by decide +kernel
theorem dX2_remainder_80 : decode cX2_remainder 80 = .ok (.ishr, 1) := by decide +kernel
theorem dX2_remainder_81 : decode cX2_remainder 81 = .ok (.iconst 1, 1) := by decide +kernel
theorem dX2_remainder_82 : decode cX2_remainder 82 = .ok (.iand, 1) := by decide +kernel
theorem dX2_remainder_83 : decode cX2_remainder 83 = .ok (.ixor, 1) := by decide +kernel
theorem dX2_remainder_84 : decode cX2_remainder 84 = .ok (.istore_n 3, 1) := by decide +kernel
theorem dX2_remainder_85 : decode cX2_remainder 85 = .ok (.iinc 5 1, 3) := by decide +kernel
theorem dX2_remainder_88 : decode cX2_remainder 88 = .ok (.goto (-57), 3) := by decide +kernel
theorem dX2_remainder_91 : decode cX2_remainder 91 = .ok (.iload_n 3, 1) := by decide +kernel
theorem dX2_remainder_92 : decode cX2_remainder 92 = .ok (.ireturn, 1) := by decide +kernel
set_option maxRecDepth 20000 in
theorem ggX2_joined_X2_isModel : GoodIn wsX2_joined wsX2_isModel := goodIn_r _ [8, 9, 10, 11, 7, 12, 51, 52, 53, 54, 55, 56, 57, 58, 59, 60] (by decide +kernel) (by decide +kernel)
set_option maxRecDepth 20000 in
theorem gX2_joined_X2_isModel : GoodIn wsX2_joined (wsV RX2 65 RX2 yX2_isModel wsX2_isModel) := goodIn_app (goodIn_of _ (by decide +kernel)) ggX2_joined_X2_isModel
set_option maxRecDepth 20000 in
theorem ggX2_joined_X2_isNumber : GoodIn wsX2_joined wsX2_isNumber := goodIn_r _ [16, 3, 17, 18, 7, 19, 51, 52, 53, 54, 55, 56, 57, 58, 59, 60] (by decide +kernel) (by decide +kernel)
set_option maxRecDepth 20000 in
theorem gX2_joined_X2_isNumber : GoodIn wsX2_joined (wsV RX2 79 RX2 yX2_isNumber wsX2_isNumber) := goodIn_app (goodIn_of _ (by decide +kernel)) ggX2_joined_X2_isNumber
set_option maxRecDepth 20000 in
theorem ggX2_joined_X2_asked_ : GoodIn wsX2_joined wsX2_asked_ := goodIn_r _ [23, 24, 51, 52, 53, 54, 55, 56, 57, 58, 59, 60] (by decide +kernel) (by decide +kernel)
set_option maxRecDepth 20000 in
theorem gX2_joined_X2_asked_ : GoodIn wsX2_joined (wsV RX2 61 RX2 yX2_asked_ wsX2_asked_) := goodIn_app (goodIn_of _ (by decide +kernel)) ggX2_joined_X2_asked_
set_option maxRecDepth 20000 in
theorem ggX2_joined_X2_registerOf : GoodIn wsX2_joined wsX2_registerOf := goodIn_r _ [28, 29, 30, 3, 31, 32, 7, 33, 51, 52, 53, 54, 55, 56, 57, 58, 59, 60] (by decide +kernel) (by decide +kernel)
set_option maxRecDepth 20000 in
theorem gX2_joined_X2_registerOf : GoodIn wsX2_joined (wsV RX2 103 RX2 yX2_registerOf wsX2_registerOf) := goodIn_app (goodIn_of _ (by decide +kernel)) ggX2_joined_X2_registerOf
set_option maxRecDepth 20000 in
theorem ggX2_joined_X2_powerOf : GoodIn wsX2_joined wsX2_powerOf := goodIn_r _ [37, 3, 38, 39, 40, 7, 41, 42, 43, 44, 45, 46, 51, 52, 53, 54, 55, 56, 57, 58, 59, 60] (by decide +kernel) (by decide +kernel)
set_option maxRecDepth 20000 in
theorem gX2_joined_X2_powerOf : GoodIn wsX2_joined (wsV RX2 82 RX2 yX2_powerOf wsX2_powerOf) := goodIn_app (goodIn_of _ (by decide +kernel)) ggX2_joined_X2_powerOf
set_option maxRecDepth 20000 in
theorem ggX2_joined_X2_times : GoodIn wsX2_joined wsX2_times := goodIn_r _ [41, 42, 43, 44, 7, 45, 3, 46, 51, 52, 53, 54, 55, 56, 57, 58, 59, 60] (by decide +kernel) (by decide +kernel)
set_option maxRecDepth 20000 in
theorem gX2_joined_X2_times : GoodIn wsX2_joined (wsV RX2 54 RX2 yX2_times wsX2_times) := goodIn_app (goodIn_of _ (by decide +kernel)) ggX2_joined_X2_times
set_option maxRecDepth 20000 in
theorem ggX2_joined_X2_sumOf : GoodIn wsX2_joined wsX2_sumOf := goodIn_r _ [50, 30, 3, 29, 31, 32, 7, 33, 51, 52, 53, 54, 55, 56, 57, 58, 59, 60] (by decide +kernel) (by decide +kernel)
set_option maxRecDepth 20000 in
theorem gX2_joined_X2_sumOf : GoodIn wsX2_joined (wsV RX2 76 RX2 yX2_sumOf wsX2_sumOf) := goodIn_app (goodIn_of _ (by decide +kernel)) ggX2_joined_X2_sumOf
end
section
theorem dX2_joined_0 : decode cX2_joined 0 = .ok (.aload_n 0, 1) := by decide +kernel
theorem dX2_joined_1 : decode cX2_joined 1 = .ok (.iload_n 1, 1) := by decide +kernel
theorem dX2_joined_2 : decode cX2_joined 2 = .ok (.invokevirtual 65, 3) := by decide +kernel
theorem dX2_joined_5 : decode cX2_joined 5 = .ok (.istore 5, 2) := by decide +kernel
theorem dX2_joined_7 : decode cX2_joined 7 = .ok (.aload_n 0, 1) := by decide +kernel
theorem dX2_joined_8 : decode cX2_joined 8 = .ok (.iload 5, 2) := by decide +kernel
theorem dX2_joined_10 : decode cX2_joined 10 = .ok (.iload 5, 2) := by decide +kernel
theorem dX2_joined_12 : decode cX2_joined 12 = .ok (.ifCond .eq 30, 3) := by decide +kernel
theorem dX2_joined_15 : decode cX2_joined 15 = .ok (.aload_n 0, 1) := by decide +kernel
theorem dX2_joined_16 : decode cX2_joined 16 = .ok (.iload_n 1, 1) := by decide +kernel
theorem dX2_joined_17 : decode cX2_joined 17 = .ok (.iload_n 2, 1) := by decide +kernel
theorem dX2_joined_18 : decode cX2_joined 18 = .ok (.invokevirtual 79, 3) := by decide +kernel
theorem dX2_joined_21 : decode cX2_joined 21 = .ok (.ifCond .eq 21, 3) := by decide +kernel
theorem dX2_joined_24 : decode cX2_joined 24 = .ok (.aload_n 0, 1) := by decide +kernel
theorem dX2_joined_25 : decode cX2_joined 25 = .ok (.iload_n 1, 1) := by decide +kernel
theorem dX2_joined_26 : decode cX2_joined 26 = .ok (.iload_n 3, 1) := by decide +kernel
theorem dX2_joined_27 : decode cX2_joined 27 = .ok (.invokevirtual 79, 3) := by decide +kernel
theorem dX2_joined_30 : decode cX2_joined 30 = .ok (.ifCond .eq 12, 3) := by decide +kernel
theorem dX2_joined_33 : decode cX2_joined 33 = .ok (.iload 4, 2) := by decide +kernel
theorem dX2_joined_35 : decode cX2_joined 35 = .ok (.ifCond .lt 7, 3) := by decide +kernel
theorem dX2_joined_38 : decode cX2_joined 38 = .ok (.iconst 1, 1) := by decide +kernel
theorem dX2_joined_39 : decode cX2_joined 39 = .ok (.goto 4, 3) := by decide +kernel
theorem dX2_joined_42 : decode cX2_joined 42 = .ok (.iconst 0, 1) := by decide +kernel
theorem dX2_joined_43 : decode cX2_joined 43 = .ok (.invokevirtual 61, 3) := by decide +kernel
theorem dX2_joined_46 : decode cX2_joined 46 = .ok (.ifCond .ne 5, 3) := by decide +kernel
theorem dX2_joined_49 : decode cX2_joined 49 = .ok (.iconst 0, 1) := by decide +kernel
theorem dX2_joined_50 : decode cX2_joined 50 = .ok (.ireturn, 1) := by decide +kernel
theorem dX2_joined_51 : decode cX2_joined 51 = .ok (.aload_n 0, 1) := by decide +kernel
theorem dX2_joined_52 : decode cX2_joined 52 = .ok (.iload_n 1, 1) := by decide +kernel
theorem dX2_joined_53 : decode cX2_joined 53 = .ok (.iload_n 2, 1) := by decide +kernel
theorem dX2_joined_54 : decode cX2_joined 54 = .ok (.invokevirtual 103, 3) := by decide +kernel
theorem dX2_joined_57 : decode cX2_joined 57 = .ok (.aload_n 0, 1) := by decide +kernel
theorem dX2_joined_58 : decode cX2_joined 58 = .ok (.getfield 16, 3) := by decide +kernel
theorem dX2_joined_61 : decode cX2_joined 61 = .ok (.iload_n 1, 1) := by decide +kernel
theorem dX2_joined_62 : decode cX2_joined 62 = .ok (.iaload, 1) := by decide +kernel
theorem dX2_joined_63 : decode cX2_joined 63 = .ok (.ixor, 1) := by decide +kernel
theorem dX2_joined_64 : decode cX2_joined 64 = .ok (.istore 6, 2) := by decide +kernel
theorem dX2_joined_66 : decode cX2_joined 66 = .ok (.aload_n 0, 1) := by decide +kernel
theorem dX2_joined_67 : decode cX2_joined 67 = .ok (.iload_n 1, 1) := by decide +kernel
theorem dX2_joined_68 : decode cX2_joined 68 = .ok (.iload_n 3, 1) := by decide +kernel
theorem dX2_joined_69 : decode cX2_joined 69 = .ok (.invokevirtual 103, 3) := by decide +kernel
theorem dX2_joined_72 : decode cX2_joined 72 = .ok (.istore 7, 2) := by decide +kernel
theorem dX2_joined_74 : decode cX2_joined 74 = .ok (.aload_n 0, 1) := by decide +kernel
theorem dX2_joined_75 : decode cX2_joined 75 = .ok (.iload_n 1, 1) := by decide +kernel
theorem dX2_joined_76 : decode cX2_joined 76 = .ok (.iload 7, 2) := by decide +kernel
theorem dX2_joined_78 : decode cX2_joined 78 = .ok (.aload_n 0, 1) := by decide +kernel
theorem dX2_joined_79 : decode cX2_joined 79 = .ok (.iload_n 1, 1) := by decide +kernel
theorem dX2_joined_80 : decode cX2_joined 80 = .ok (.iload 6, 2) := by decide +kernel
theorem dX2_joined_82 : decode cX2_joined 82 = .ok (.aload_n 0, 1) := by decide +kernel
theorem dX2_joined_83 : decode cX2_joined 83 = .ok (.iload_n 1, 1) := by decide +kernel
theorem dX2_joined_84 : decode cX2_joined 84 = .ok (.ldc2_w 106, 3) := by decide +kernel
theorem dX2_joined_87 : decode cX2_joined 87 = .ok (.iload 4, 2) := by decide +kernel
theorem dX2_joined_89 : decode cX2_joined 89 = .ok (.i2l, 1) := by decide +kernel
theorem dX2_joined_90 : decode cX2_joined 90 = .ok (.lmul, 1) := by decide +kernel
theorem dX2_joined_91 : decode cX2_joined 91 = .ok (.invokevirtual 82, 3) := by decide +kernel
theorem dX2_joined_94 : decode cX2_joined 94 = .ok (.aload_n 0, 1) := by decide +kernel
theorem dX2_joined_95 : decode cX2_joined 95 = .ok (.getfield 7, 3) := by decide +kernel
theorem dX2_joined_98 : decode cX2_joined 98 = .ok (.iload_n 1, 1) := by decide +kernel
theorem dX2_joined_99 : decode cX2_joined 99 = .ok (.iaload, 1) := by decide +kernel
theorem dX2_joined_100 : decode cX2_joined 100 = .ok (.invokevirtual 54, 3) := by decide +kernel
theorem dX2_joined_103 : decode cX2_joined 103 = .ok (.ixor, 1) := by decide +kernel
theorem dX2_joined_104 : decode cX2_joined 104 = .ok (.invokevirtual 76, 3) := by decide +kernel
theorem dX2_joined_107 : decode cX2_joined 107 = .ok (.ireturn, 1) := by decide +kernel
set_option maxRecDepth 20000 in
theorem ggX2_patched_X2_isModel : GoodIn wsX2_patched wsX2_isModel := goodIn_r _ [8, 9, 10, 11, 7, 12, 54, 55, 56, 57, 58, 59, 60, 61, 62, 63] (by decide +kernel) (by decide +kernel)
set_option maxRecDepth 20000 in
theorem gX2_patched_X2_isModel : GoodIn wsX2_patched (wsV RX2 65 RX2 yX2_isModel wsX2_isModel) := goodIn_app (goodIn_of _ (by decide +kernel)) ggX2_patched_X2_isModel
set_option maxRecDepth 20000 in
theorem ggX2_patched_X2_isNumber : GoodIn wsX2_patched wsX2_isNumber := goodIn_r _ [16, 3, 17, 18, 7, 19, 54, 55, 56, 57, 58, 59, 60, 61, 62, 63] (by decide +kernel) (by decide +kernel)
set_option maxRecDepth 20000 in
theorem gX2_patched_X2_isNumber : GoodIn wsX2_patched (wsV RX2 79 RX2 yX2_isNumber wsX2_isNumber) := goodIn_app (goodIn_of _ (by decide +kernel)) ggX2_patched_X2_isNumber
set_option maxRecDepth 20000 in
theorem ggX2_patched_X2_isByte : GoodIn wsX2_patched wsX2_isByte := goodIn_r _ [22, 10, 11, 7, 12] (by decide +kernel) (by decide +kernel)
set_option maxRecDepth 20000 in
theorem gX2_patched_X2_isByte : GoodIn wsX2_patched (va_wsS RX2 90 yX2_isByte wsX2_isByte) := goodIn_app (goodIn_of _ (by decide +kernel)) ggX2_patched_X2_isByte
set_option maxRecDepth 20000 in
theorem ggX2_patched_X2_asked_ : GoodIn wsX2_patched wsX2_asked_ := goodIn_r _ [26, 27, 54, 55, 56, 57, 58, 59, 60, 61, 62, 63] (by decide +kernel) (by decide +kernel)
set_option maxRecDepth 20000 in
theorem gX2_patched_X2_asked_ : GoodIn wsX2_patched (wsV RX2 61 RX2 yX2_asked_ wsX2_asked_) := goodIn_app (goodIn_of _ (by decide +kernel)) ggX2_patched_X2_asked_
set_option maxRecDepth 20000 in
theorem ggX2_patched_X2_reversed : GoodIn wsX2_patched wsX2_reversed := goodIn_r _ [30] (by decide +kernel) (by decide +kernel)
set_option maxRecDepth 20000 in
theorem gX2_patched_X2_reversed : GoodIn wsX2_patched (va_wsS RX2 58 yX2_reversed wsX2_reversed) := goodIn_app (goodIn_of _ (by decide +kernel)) ggX2_patched_X2_reversed
set_option maxRecDepth 20000 in
theorem ggX2_patched_X2_powerOf : GoodIn wsX2_patched wsX2_powerOf := goodIn_r _ [34, 3, 35, 36, 37, 7, 38, 39, 40, 41, 42, 43, 54, 55, 56, 57, 58, 59, 60, 61, 62, 63] (by decide +kernel) (by decide +kernel)
set_option maxRecDepth 20000 in
theorem gX2_patched_X2_powerOf : GoodIn wsX2_patched (wsV RX2 82 RX2 yX2_powerOf wsX2_powerOf) := goodIn_app (goodIn_of _ (by decide +kernel)) ggX2_patched_X2_powerOf
set_option maxRecDepth 20000 in
theorem ggX2_patched_X2_registerOf : GoodIn wsX2_patched wsX2_registerOf := goodIn_r _ [47, 48, 49, 3, 28, 29, 7, 30, 54, 55, 56, 57, 58, 59, 60, 61, 62, 63] (by decide +kernel) (by decide +kernel)
set_option maxRecDepth 20000 in
theorem gX2_patched_X2_registerOf : GoodIn wsX2_patched (wsV RX2 103 RX2 yX2_registerOf wsX2_registerOf) := goodIn_app (goodIn_of _ (by decide +kernel)) ggX2_patched_X2_registerOf
set_option maxRecDepth 20000 in
theorem ggX2_patched_X2_times : GoodIn wsX2_patched wsX2_times := goodIn_r _ [38, 39, 40, 41, 7, 42, 3, 43, 54, 55, 56, 57, 58, 59, 60, 61, 62, 63] (by decide +kernel) (by decide +kernel)
set_option maxRecDepth 20000 in
theorem gX2_patched_X2_times : GoodIn wsX2_patched (wsV RX2 54 RX2 yX2_times wsX2_times) := goodIn_app (goodIn_of _ (by decide +kernel)) ggX2_patched_X2_times
set_option maxRecDepth 20000 in
theorem ggX2_patched_X2_sumOf : GoodIn wsX2_patched wsX2_sumOf := goodIn_r _ [53, 49, 3, 48, 28, 29, 7, 30, 54, 55, 56, 57, 58, 59, 60, 61, 62, 63] (by decide +kernel) (by decide +kernel)
set_option maxRecDepth 20000 in
theorem gX2_patched_X2_sumOf : GoodIn wsX2_patched (wsV RX2 76 RX2 yX2_sumOf wsX2_sumOf) := goodIn_app (goodIn_of _ (by decide +kernel)) ggX2_patched_X2_sumOf
theorem dX2_patched_0 : decode cX2_patched 0 = .ok (.aload_n 0, 1) := by decide +kernel
theorem dX2_patched_1 : decode cX2_patched 1 = .ok (.iload_n 1, 1) := by decide +kernel
theorem dX2_patched_2 : decode cX2_patched 2 = .ok (.invokevirtual 65, 3) := by decide +kernel
theorem dX2_patched_5 : decode cX2_patched 5 = .ok (.istore 5, 2) := by decide +kernel
theorem dX2_patched_7 : decode cX2_patched 7 = .ok (.aload_n 0, 1) := by decide +kernel
theorem dX2_patched_8 : decode cX2_patched 8 = .ok (.iload 5, 2) := by decide +kernel
theorem dX2_patched_10 : decode cX2_patched 10 = .ok (.iload 5, 2) := by decide +kernel
theorem dX2_patched_12 : decode cX2_patched 12 = .ok (.ifCond .eq 28, 3) := by decide +kernel
theorem dX2_patched_15 : decode cX2_patched 15 = .ok (.aload_n 0, 1) := by decide +kernel
theorem dX2_patched_16 : decode cX2_patched 16 = .ok (.iload_n 1, 1) := by decide +kernel
theorem dX2_patched_17 : decode cX2_patched 17 = .ok (.iload_n 2, 1) := by decide +kernel
theorem dX2_patched_18 : decode cX2_patched 18 = .ok (.invokevirtual 79, 3) := by decide +kernel
theorem dX2_patched_21 : decode cX2_patched 21 = .ok (.ifCond .eq 19, 3) := by decide +kernel
theorem dX2_patched_24 : decode cX2_patched 24 = .ok (.iload_n 3, 1) := by decide +kernel
theorem dX2_patched_25 : decode cX2_patched 25 = .ok (.ifCond .lt 15, 3) := by decide +kernel
theorem dX2_patched_28 : decode cX2_patched 28 = .ok (.iload 4, 2) := by decide +kernel
theorem dX2_patched_30 : decode cX2_patched 30 = .ok (.invokestatic 90, 3) := by decide +kernel
theorem dX2_patched_33 : decode cX2_patched 33 = .ok (.ifCond .eq 7, 3) := by decide +kernel
theorem dX2_patched_36 : decode cX2_patched 36 = .ok (.iconst 1, 1) := by decide +kernel
theorem dX2_patched_37 : decode cX2_patched 37 = .ok (.goto 4, 3) := by decide +kernel
theorem dX2_patched_40 : decode cX2_patched 40 = .ok (.iconst 0, 1) := by decide +kernel
theorem dX2_patched_41 : decode cX2_patched 41 = .ok (.invokevirtual 61, 3) := by decide +kernel
theorem dX2_patched_44 : decode cX2_patched 44 = .ok (.ifCond .ne 5, 3) := by decide +kernel
theorem dX2_patched_47 : decode cX2_patched 47 = .ok (.iconst 0, 1) := by decide +kernel
theorem dX2_patched_48 : decode cX2_patched 48 = .ok (.ireturn, 1) := by decide +kernel
theorem dX2_patched_49 : decode cX2_patched 49 = .ok (.aload_n 0, 1) := by decide +kernel
theorem dX2_patched_50 : decode cX2_patched 50 = .ok (.getfield 22, 3) := by decide +kernel
theorem dX2_patched_53 : decode cX2_patched 53 = .ok (.iload_n 1, 1) := by decide +kernel
theorem dX2_patched_54 : decode cX2_patched 54 = .ok (.baload, 1) := by decide +kernel
theorem dX2_patched_55 : decode cX2_patched 55 = .ok (.ifCond .eq 13, 3) := by decide +kernel
theorem dX2_patched_58 : decode cX2_patched 58 = .ok (.iload 4, 2) := by decide +kernel
theorem dX2_patched_60 : decode cX2_patched 60 = .ok (.bipush 8, 2) := by decide +kernel
theorem dX2_patched_62 : decode cX2_patched 62 = .ok (.invokestatic 58, 3) := by decide +kernel
theorem dX2_patched_65 : decode cX2_patched 65 = .ok (.goto 5, 3) := by decide +kernel
theorem dX2_patched_68 : decode cX2_patched 68 = .ok (.iload 4, 2) := by decide +kernel
theorem dX2_patched_70 : decode cX2_patched 70 = .ok (.istore 6, 2) := by decide +kernel
theorem dX2_patched_72 : decode cX2_patched 72 = .ok (.aload_n 0, 1) := by decide +kernel
theorem dX2_patched_73 : decode cX2_patched 73 = .ok (.iload_n 1, 1) := by decide +kernel
theorem dX2_patched_74 : decode cX2_patched 74 = .ok (.ldc2_w 106, 3) := by decide +kernel
theorem dX2_patched_77 : decode cX2_patched 77 = .ok (.iload_n 3, 1) := by decide +kernel
theorem dX2_patched_78 : decode cX2_patched 78 = .ok (.i2l, 1) := by decide +kernel
theorem dX2_patched_79 : decode cX2_patched 79 = .ok (.lmul, 1) := by decide +kernel
theorem dX2_patched_80 : decode cX2_patched 80 = .ok (.aload_n 0, 1) := by decide +kernel
theorem dX2_patched_81 : decode cX2_patched 81 = .ok (.getfield 7, 3) := by decide +kernel
theorem dX2_patched_84 : decode cX2_patched 84 = .ok (.iload_n 1, 1) := by decide +kernel
theorem dX2_patched_85 : decode cX2_patched 85 = .ok (.iaload, 1) := by decide +kernel
theorem dX2_patched_86 : decode cX2_patched 86 = .ok (.i2l, 1) := by decide +kernel
theorem dX2_patched_87 : decode cX2_patched 87 = .ok (.ladd, 1) := by decide +kernel
theorem dX2_patched_88 : decode cX2_patched 88 = .ok (.invokevirtual 82, 3) := by decide +kernel
theorem dX2_patched_91 : decode cX2_patched 91 = .ok (.istore 7, 2) := by decide +kernel
theorem dX2_patched_93 : decode cX2_patched 93 = .ok (.aload_n 0, 1) := by decide +kernel
theorem dX2_patched_94 : decode cX2_patched 94 = .ok (.iload_n 1, 1) := by decide +kernel
theorem dX2_patched_95 : decode cX2_patched 95 = .ok (.aload_n 0, 1) := by decide +kernel
theorem dX2_patched_96 : decode cX2_patched 96 = .ok (.iload_n 1, 1) := by decide +kernel
theorem dX2_patched_97 : decode cX2_patched 97 = .ok (.iload_n 2, 1) := by decide +kernel
theorem dX2_patched_98 : decode cX2_patched 98 = .ok (.invokevirtual 103, 3) := by decide +kernel
theorem dX2_patched_101 : decode cX2_patched 101 = .ok (.aload_n 0, 1) := by decide +kernel
theorem dX2_patched_102 : decode cX2_patched 102 = .ok (.iload_n 1, 1) := by decide +kernel
theorem dX2_patched_103 : decode cX2_patched 103 = .ok (.iload 7, 2) := by decide +kernel
theorem dX2_patched_105 : decode cX2_patched 105 = .ok (.iload 6, 2) := by decide +kernel
theorem dX2_patched_107 : decode cX2_patched 107 = .ok (.bipush 8, 2) := by decide +kernel
theorem dX2_patched_109 : decode cX2_patched 109 = .ok (.invokevirtual 54, 3) := by decide +kernel
theorem dX2_patched_112 : decode cX2_patched 112 = .ok (.ixor, 1) := by decide +kernel
theorem dX2_patched_113 : decode cX2_patched 113 = .ok (.invokevirtual 76, 3) := by decide +kernel
theorem dX2_patched_116 : decode cX2_patched 116 = .ok (.ireturn, 1) := by decide +kernel
set_option maxRecDepth 20000 in
theorem ggX2_wrongBit_X2_isModel : GoodIn wsX2_wrongBit wsX2_isModel := goodIn_r _ [8, 9, 10, 11, 7, 12, 32, 33, 34, 35, 36, 37, 38, 39, 40, 41] (by decide +kernel) (by decide +kernel)
set_option maxRecDepth 20000 in
theorem gX2_wrongBit_X2_isModel : GoodIn wsX2_wrongBit (wsV RX2 65 RX2 yX2_isModel wsX2_isModel) := goodIn_app (goodIn_of _ (by decide +kernel)) ggX2_wrongBit_X2_isModel
set_option maxRecDepth 20000 in
theorem ggX2_wrongBit_X2_isNumber : GoodIn wsX2_wrongBit wsX2_isNumber := goodIn_r _ [16, 2, 17, 18, 7, 19, 32, 33, 34, 35, 36, 37, 38, 39, 40, 41] (by decide +kernel) (by decide +kernel)
set_option maxRecDepth 20000 in
theorem gX2_wrongBit_X2_isNumber : GoodIn wsX2_wrongBit (wsV RX2 79 RX2 yX2_isNumber wsX2_isNumber) := goodIn_app (goodIn_of _ (by decide +kernel)) ggX2_wrongBit_X2_isNumber
set_option maxRecDepth 20000 in
theorem ggX2_wrongBit_X2_in : GoodIn wsX2_wrongBit wsX2_in := goodIn_r _ [12] (by decide +kernel) (by decide +kernel)
set_option maxRecDepth 20000 in
theorem gX2_wrongBit_X2_in : GoodIn wsX2_wrongBit (va_wsS RX2 42 yX2_in wsX2_in) := goodIn_app (goodIn_of _ (by decide +kernel)) ggX2_wrongBit_X2_in
set_option maxRecDepth 20000 in
theorem ggX2_wrongBit_X2_asked_ : GoodIn wsX2_wrongBit wsX2_asked_ := goodIn_r _ [23, 24, 32, 33, 34, 35, 36, 37, 38, 39, 40, 41] (by decide +kernel) (by decide +kernel)
set_option maxRecDepth 20000 in
theorem gX2_wrongBit_X2_asked_ : GoodIn wsX2_wrongBit (wsV RX2 61 RX2 yX2_asked_ wsX2_asked_) := goodIn_app (goodIn_of _ (by decide +kernel)) ggX2_wrongBit_X2_asked_
set_option maxRecDepth 20000 in
theorem ggX2_wrongBit_X2_reversed : GoodIn wsX2_wrongBit wsX2_reversed := goodIn_r _ [27] (by decide +kernel) (by decide +kernel)
set_option maxRecDepth 20000 in
theorem gX2_wrongBit_X2_reversed : GoodIn wsX2_wrongBit (va_wsS RX2 58 yX2_reversed wsX2_reversed) := goodIn_app (goodIn_of _ (by decide +kernel)) ggX2_wrongBit_X2_reversed
set_option maxRecDepth 20000 in
theorem ggX2_wrongBit_X2_timesX : GoodIn wsX2_wrongBit wsX2_timesX := goodIn_r _ [31, 2, 3, 32, 33, 34, 35, 36, 37, 38, 39, 40, 41] (by decide +kernel) (by decide +kernel)
set_option maxRecDepth 20000 in
theorem gX2_wrongBit_X2_timesX : GoodIn wsX2_wrongBit (wsV RX2 50 RX2 yX2_timesX wsX2_timesX) := goodIn_app (goodIn_of _ (by decide +kernel)) ggX2_wrongBit_X2_timesX
theorem dX2_wrongBit_0 : decode cX2_wrongBit 0 = .ok (.aload_n 0, 1) := by decide +kernel
theorem dX2_wrongBit_1 : decode cX2_wrongBit 1 = .ok (.iload_n 1, 1) := by decide +kernel
theorem dX2_wrongBit_2 : decode cX2_wrongBit 2 = .ok (.invokevirtual 65, 3) := by decide +kernel
theorem dX2_wrongBit_5 : decode cX2_wrongBit 5 = .ok (.istore 4, 2) := by decide +kernel
theorem dX2_wrongBit_7 : decode cX2_wrongBit 7 = .ok (.aload_n 0, 1) := by decide +kernel
theorem dX2_wrongBit_8 : decode cX2_wrongBit 8 = .ok (.iload 4, 2) := by decide +kernel
theorem dX2_wrongBit_10 : decode cX2_wrongBit 10 = .ok (.iload 4, 2) := by decide +kernel
theorem dX2_wrongBit_12 : decode cX2_wrongBit 12 = .ok (.ifCond .eq 27, 3) := by decide +kernel
theorem dX2_wrongBit_15 : decode cX2_wrongBit 15 = .ok (.aload_n 0, 1) := by decide +kernel
theorem dX2_wrongBit_16 : decode cX2_wrongBit 16 = .ok (.iload_n 1, 1) := by decide +kernel
theorem dX2_wrongBit_17 : decode cX2_wrongBit 17 = .ok (.iload_n 2, 1) := by decide +kernel
theorem dX2_wrongBit_18 : decode cX2_wrongBit 18 = .ok (.invokevirtual 79, 3) := by decide +kernel
theorem dX2_wrongBit_21 : decode cX2_wrongBit 21 = .ok (.ifCond .eq 18, 3) := by decide +kernel
theorem dX2_wrongBit_24 : decode cX2_wrongBit 24 = .ok (.iload_n 3, 1) := by decide +kernel
theorem dX2_wrongBit_25 : decode cX2_wrongBit 25 = .ok (.iconst 0, 1) := by decide +kernel
theorem dX2_wrongBit_26 : decode cX2_wrongBit 26 = .ok (.sipush 4000, 3) := by decide +kernel
theorem dX2_wrongBit_29 : decode cX2_wrongBit 29 = .ok (.invokestatic 42, 3) := by decide +kernel
theorem dX2_wrongBit_32 : decode cX2_wrongBit 32 = .ok (.ifCond .eq 7, 3) := by decide +kernel
theorem dX2_wrongBit_35 : decode cX2_wrongBit 35 = .ok (.iconst 1, 1) := by decide +kernel
theorem dX2_wrongBit_36 : decode cX2_wrongBit 36 = .ok (.goto 4, 3) := by decide +kernel
theorem dX2_wrongBit_39 : decode cX2_wrongBit 39 = .ok (.iconst 0, 1) := by decide +kernel
theorem dX2_wrongBit_40 : decode cX2_wrongBit 40 = .ok (.invokevirtual 61, 3) := by decide +kernel
theorem dX2_wrongBit_43 : decode cX2_wrongBit 43 = .ok (.ifCond .ne 5, 3) := by decide +kernel
theorem dX2_wrongBit_46 : decode cX2_wrongBit 46 = .ok (.iconst 0, 1) := by decide +kernel
theorem dX2_wrongBit_47 : decode cX2_wrongBit 47 = .ok (.ireturn, 1) := by decide +kernel
theorem dX2_wrongBit_48 : decode cX2_wrongBit 48 = .ok (.aload_n 0, 1) := by decide +kernel
theorem dX2_wrongBit_49 : decode cX2_wrongBit 49 = .ok (.getfield 26, 3) := by decide +kernel
theorem dX2_wrongBit_52 : decode cX2_wrongBit 52 = .ok (.iload_n 1, 1) := by decide +kernel
theorem dX2_wrongBit_53 : decode cX2_wrongBit 53 = .ok (.baload, 1) := by decide +kernel
theorem dX2_wrongBit_54 : decode cX2_wrongBit 54 = .ok (.ifCond .eq 16, 3) := by decide +kernel
theorem dX2_wrongBit_57 : decode cX2_wrongBit 57 = .ok (.iload_n 2, 1) := by decide +kernel
theorem dX2_wrongBit_58 : decode cX2_wrongBit 58 = .ok (.aload_n 0, 1) := by decide +kernel
theorem dX2_wrongBit_59 : decode cX2_wrongBit 59 = .ok (.getfield 7, 3) := by decide +kernel
theorem dX2_wrongBit_62 : decode cX2_wrongBit 62 = .ok (.iload_n 1, 1) := by decide +kernel
theorem dX2_wrongBit_63 : decode cX2_wrongBit 63 = .ok (.iaload, 1) := by decide +kernel
theorem dX2_wrongBit_64 : decode cX2_wrongBit 64 = .ok (.invokestatic 58, 3) := by decide +kernel
theorem dX2_wrongBit_67 : decode cX2_wrongBit 67 = .ok (.goto 4, 3) := by decide +kernel
theorem dX2_wrongBit_70 : decode cX2_wrongBit 70 = .ok (.iload_n 2, 1) := by decide +kernel
theorem dX2_wrongBit_71 : decode cX2_wrongBit 71 = .ok (.istore 5, 2) := by decide +kernel
theorem dX2_wrongBit_73 : decode cX2_wrongBit 73 = .ok (.iconst (-1), 1) := by decide +kernel
theorem dX2_wrongBit_74 : decode cX2_wrongBit 74 = .ok (.istore 6, 2) := by decide +kernel
theorem dX2_wrongBit_76 : decode cX2_wrongBit 76 = .ok (.aload_n 0, 1) := by decide +kernel
theorem dX2_wrongBit_77 : decode cX2_wrongBit 77 = .ok (.getfield 13, 3) := by decide +kernel
theorem dX2_wrongBit_80 : decode cX2_wrongBit 80 = .ok (.iload_n 1, 1) := by decide +kernel
theorem dX2_wrongBit_81 : decode cX2_wrongBit 81 = .ok (.iaload, 1) := by decide +kernel
theorem dX2_wrongBit_82 : decode cX2_wrongBit 82 = .ok (.istore 7, 2) := by decide +kernel
theorem dX2_wrongBit_84 : decode cX2_wrongBit 84 = .ok (.bipush 8, 2) := by decide +kernel
theorem dX2_wrongBit_86 : decode cX2_wrongBit 86 = .ok (.iload_n 3, 1) := by decide +kernel
theorem dX2_wrongBit_87 : decode cX2_wrongBit 87 = .ok (.imul, 1) := by decide +kernel
theorem dX2_wrongBit_88 : decode cX2_wrongBit 88 = .ok (.iconst 1, 1) := by decide +kernel
theorem dX2_wrongBit_89 : decode cX2_wrongBit 89 = .ok (.isub, 1) := by decide +kernel
theorem dX2_wrongBit_90 : decode cX2_wrongBit 90 = .ok (.istore 8, 2) := by decide +kernel
theorem dX2_wrongBit_92 : decode cX2_wrongBit 92 = .ok (.iload 8, 2) := by decide +kernel
theorem dX2_wrongBit_94 : decode cX2_wrongBit 94 = .ok (.ifCond .lt 34, 3) := by decide +kernel
theorem dX2_wrongBit_97 : decode cX2_wrongBit 97 = .ok (.iload 7, 2) := by decide +kernel
theorem dX2_wrongBit_99 : decode cX2_wrongBit 99 = .ok (.iload 5, 2) := by decide +kernel
theorem dX2_wrongBit_101 : decode cX2_wrongBit 101 = .ok (.if_icmp .ne 8, 3) := by decide +kernel
theorem dX2_wrongBit_104 : decode cX2_wrongBit 104 = .ok (.iload 8, 2) := by decide +kernel
theorem dX2_wrongBit_106 : decode cX2_wrongBit 106 = .ok (.goto 5, 3) := by decide +kernel
theorem dX2_wrongBit_109 : decode cX2_wrongBit 109 = .ok (.iload 6, 2) := by decide +kernel
theorem dX2_wrongBit_111 : decode cX2_wrongBit 111 = .ok (.istore 6, 2) := by decide +kernel
theorem dX2_wrongBit_113 : decode cX2_wrongBit 113 = .ok (.aload_n 0, 1) := by decide +kernel
theorem dX2_wrongBit_114 : decode cX2_wrongBit 114 = .ok (.iload_n 1, 1) := by decide +kernel
theorem dX2_wrongBit_115 : decode cX2_wrongBit 115 = .ok (.iload 7, 2) := by decide +kernel
theorem dX2_wrongBit_117 : decode cX2_wrongBit 117 = .ok (.invokevirtual 50, 3) := by decide +kernel
theorem dX2_wrongBit_120 : decode cX2_wrongBit 120 = .ok (.istore 7, 2) := by decide +kernel
theorem dX2_wrongBit_122 : decode cX2_wrongBit 122 = .ok (.iinc 8 (-1), 3) := by decide +kernel
theorem dX2_wrongBit_125 : decode cX2_wrongBit 125 = .ok (.goto (-33), 3) := by decide +kernel
theorem dX2_wrongBit_128 : decode cX2_wrongBit 128 = .ok (.iload 6, 2) := by decide +kernel
theorem dX2_wrongBit_130 : decode cX2_wrongBit 130 = .ok (.ireturn, 1) := by decide +kernel
set_option maxRecDepth 20000 in
theorem ggX2_fletcher_X2_isRow : GoodIn wsX2_fletcher wsX2_isRow := goodIn_r _ [6, 7, 8, 5, 9] (by decide +kernel) (by decide +kernel)
set_option maxRecDepth 20000 in
theorem gX2_fletcher_X2_isRow : GoodIn wsX2_fletcher (va_wsS RX2 87 yX2_isRow wsX2_isRow) := goodIn_app (goodIn_of _ (by decide +kernel)) ggX2_fletcher_X2_isRow
set_option maxRecDepth 20000 in
theorem ggX2_fletcher_X2_asked : GoodIn wsX2_fletcher wsX2_asked := goodIn_r _ [13, 14, 15, 16, 17, 18, 19, 20, 21, 22, 23, 24] (by decide +kernel) (by decide +kernel)
set_option maxRecDepth 20000 in
theorem gX2_fletcher_X2_asked : GoodIn wsX2_fletcher (wsV RX2 69 RX2 yX2_asked wsX2_asked) := goodIn_app (goodIn_of _ (by decide +kernel)) ggX2_fletcher_X2_asked
theorem dX2_fletcher_0 : decode cX2_fletcher 0 = .ok (.iconst 0, 1) := by decide +kernel
theorem dX2_fletcher_1 : decode cX2_fletcher 1 = .ok (.istore_n 2, 1) := by decide +kernel
theorem dX2_fletcher_2 : decode cX2_fletcher 2 = .ok (.iconst 0, 1) := by decide +kernel
theorem dX2_fletcher_3 : decode cX2_fletcher 3 = .ok (.istore_n 3, 1) := by decide +kernel
theorem dX2_fletcher_4 : decode cX2_fletcher 4 = .ok (.aload_n 0, 1) := by decide +kernel
theorem dX2_fletcher_5 : decode cX2_fletcher 5 = .ok (.iload_n 1, 1) := by decide +kernel
theorem dX2_fletcher_6 : decode cX2_fletcher 6 = .ok (.invokestatic 87, 3) := by decide +kernel
theorem dX2_fletcher_9 : decode cX2_fletcher 9 = .ok (.invokevirtual 69, 3) := by decide +kernel
theorem dX2_fletcher_12 : decode cX2_fletcher 12 = .ok (.istore 4, 2) := by decide +kernel
theorem dX2_fletcher_14 : decode cX2_fletcher 14 = .ok (.iconst 0, 1) := by decide +kernel
theorem dX2_fletcher_15 : decode cX2_fletcher 15 = .ok (.istore 5, 2) := by decide +kernel
theorem dX2_fletcher_17 : decode cX2_fletcher 17 = .ok (.iload 4, 2) := by decide +kernel
theorem dX2_fletcher_19 : decode cX2_fletcher 19 = .ok (.ifCond .eq 48, 3) := by decide +kernel
theorem dX2_fletcher_22 : decode cX2_fletcher 22 = .ok (.iload 5, 2) := by decide +kernel
theorem dX2_fletcher_24 : decode cX2_fletcher 24 = .ok (.aload_n 0, 1) := by decide +kernel
theorem dX2_fletcher_25 : decode cX2_fletcher 25 = .ok (.getfield 32, 3) := by decide +kernel
theorem dX2_fletcher_28 : decode cX2_fletcher 28 = .ok (.iload_n 1, 1) := by decide +kernel
theorem dX2_fletcher_29 : decode cX2_fletcher 29 = .ok (.iaload, 1) := by decide +kernel
theorem dX2_fletcher_30 : decode cX2_fletcher 30 = .ok (.if_icmp .ge 37, 3) := by decide +kernel
theorem dX2_fletcher_33 : decode cX2_fletcher 33 = .ok (.iload_n 2, 1) := by decide +kernel
theorem dX2_fletcher_34 : decode cX2_fletcher 34 = .ok (.aload_n 0, 1) := by decide +kernel
theorem dX2_fletcher_35 : decode cX2_fletcher 35 = .ok (.getfield 29, 3) := by decide +kernel
theorem dX2_fletcher_38 : decode cX2_fletcher 38 = .ok (.sipush 256, 3) := by decide +kernel
theorem dX2_fletcher_41 : decode cX2_fletcher 41 = .ok (.iload_n 1, 1) := by decide +kernel
theorem dX2_fletcher_42 : decode cX2_fletcher 42 = .ok (.imul, 1) := by decide +kernel
theorem dX2_fletcher_43 : decode cX2_fletcher 43 = .ok (.iload 5, 2) := by decide +kernel
theorem dX2_fletcher_45 : decode cX2_fletcher 45 = .ok (.iadd, 1) := by decide +kernel
theorem dX2_fletcher_46 : decode cX2_fletcher 46 = .ok (.iaload, 1) := by decide +kernel
theorem dX2_fletcher_47 : decode cX2_fletcher 47 = .ok (.iadd, 1) := by decide +kernel
theorem dX2_fletcher_48 : decode cX2_fletcher 48 = .ok (.sipush 255, 3) := by decide +kernel
theorem dX2_fletcher_51 : decode cX2_fletcher 51 = .ok (.irem, 1) := by decide +kernel
theorem dX2_fletcher_52 : decode cX2_fletcher 52 = .ok (.istore_n 2, 1) := by decide +kernel
theorem dX2_fletcher_53 : decode cX2_fletcher 53 = .ok (.iload_n 3, 1) := by decide +kernel
theorem dX2_fletcher_54 : decode cX2_fletcher 54 = .ok (.iload_n 2, 1) := by decide +kernel
theorem dX2_fletcher_55 : decode cX2_fletcher 55 = .ok (.iadd, 1) := by decide +kernel
theorem dX2_fletcher_56 : decode cX2_fletcher 56 = .ok (.sipush 255, 3) := by decide +kernel
theorem dX2_fletcher_59 : decode cX2_fletcher 59 = .ok (.irem, 1) := by decide +kernel
theorem dX2_fletcher_60 : decode cX2_fletcher 60 = .ok (.istore_n 3, 1) := by decide +kernel
theorem dX2_fletcher_61 : decode cX2_fletcher 61 = .ok (.iinc 5 1, 3) := by decide +kernel
theorem dX2_fletcher_64 : decode cX2_fletcher 64 = .ok (.goto (-47), 3) := by decide +kernel
theorem dX2_fletcher_67 : decode cX2_fletcher 67 = .ok (.sipush 256, 3) := by decide +kernel
theorem dX2_fletcher_70 : decode cX2_fletcher 70 = .ok (.iload_n 3, 1) := by decide +kernel
theorem dX2_fletcher_71 : decode cX2_fletcher 71 = .ok (.imul, 1) := by decide +kernel
theorem dX2_fletcher_72 : decode cX2_fletcher 72 = .ok (.iload_n 2, 1) := by decide +kernel
theorem dX2_fletcher_73 : decode cX2_fletcher 73 = .ok (.iadd, 1) := by decide +kernel
theorem dX2_fletcher_74 : decode cX2_fletcher 74 = .ok (.ireturn, 1) := by decide +kernel
theorem dX2_isFletcher_0 : decode cX2_isFletcher 0 = .ok (.iload_n 0, 1) := by decide +kernel
theorem dX2_isFletcher_1 : decode cX2_isFletcher 1 = .ok (.ifCond .lt 29, 3) := by decide +kernel
theorem dX2_isFletcher_4 : decode cX2_isFletcher 4 = .ok (.iload_n 0, 1) := by decide +kernel
theorem dX2_isFletcher_5 : decode cX2_isFletcher 5 = .ok (.sipush 256, 3) := by decide +kernel
theorem dX2_isFletcher_8 : decode cX2_isFletcher 8 = .ok (.idiv, 1) := by decide +kernel
theorem dX2_isFletcher_9 : decode cX2_isFletcher 9 = .ok (.sipush 255, 3) := by decide +kernel
theorem dX2_isFletcher_12 : decode cX2_isFletcher 12 = .ok (.if_icmp .ge 18, 3) := by decide +kernel
theorem dX2_isFletcher_15 : decode cX2_isFletcher 15 = .ok (.iload_n 0, 1) := by decide +kernel
theorem dX2_isFletcher_16 : decode cX2_isFletcher 16 = .ok (.sipush 256, 3) := by decide +kernel
theorem dX2_isFletcher_19 : decode cX2_isFletcher 19 = .ok (.irem, 1) := by decide +kernel
theorem dX2_isFletcher_20 : decode cX2_isFletcher 20 = .ok (.sipush 255, 3) := by decide +kernel
theorem dX2_isFletcher_23 : decode cX2_isFletcher 23 = .ok (.if_icmp .ge 7, 3) := by decide +kernel
theorem dX2_isFletcher_26 : decode cX2_isFletcher 26 = .ok (.iconst 1, 1) := by decide +kernel
theorem dX2_isFletcher_27 : decode cX2_isFletcher 27 = .ok (.goto 4, 3) := by decide +kernel
theorem dX2_isFletcher_30 : decode cX2_isFletcher 30 = .ok (.iconst 0, 1) := by decide +kernel
theorem dX2_isFletcher_31 : decode cX2_isFletcher 31 = .ok (.ireturn, 1) := by decide +kernel
set_option maxRecDepth 20000 in
theorem ggX2_fletcherJoined_X2_isFletcher : GoodIn wsX2_fletcherJoined wsX2_isFletcher := goodIn_r _ [5] (by decide +kernel) (by decide +kernel)
set_option maxRecDepth 20000 in
theorem gX2_fletcherJoined_X2_isFletcher : GoodIn wsX2_fletcherJoined (va_wsS RX2 108 yX2_isFletcher wsX2_isFletcher) := goodIn_app (goodIn_of _ (by decide +kernel)) ggX2_fletcherJoined_X2_isFletcher
set_option maxRecDepth 20000 in
theorem ggX2_fletcherJoined_X2_asked : GoodIn wsX2_fletcherJoined wsX2_asked := goodIn_r _ [9, 10, 11, 12, 13, 14, 15, 16, 17, 18, 19, 20] (by decide +kernel) (by decide +kernel)
set_option maxRecDepth 20000 in
theorem gX2_fletcherJoined_X2_asked : GoodIn wsX2_fletcherJoined (wsV RX2 69 RX2 yX2_asked wsX2_asked) := goodIn_app (goodIn_of _ (by decide +kernel)) ggX2_fletcherJoined_X2_asked
theorem dX2_fletcherJoined_0 : decode cX2_fletcherJoined 0 = .ok (.aload_n 0, 1) := by decide +kernel
theorem dX2_fletcherJoined_1 : decode cX2_fletcherJoined 1 = .ok (.iload_n 1, 1) := by decide +kernel
theorem dX2_fletcherJoined_2 : decode cX2_fletcherJoined 2 = .ok (.invokestatic 108, 3) := by decide +kernel
theorem dX2_fletcherJoined_5 : decode cX2_fletcherJoined 5 = .ok (.ifCond .eq 18, 3) := by decide +kernel
theorem dX2_fletcherJoined_8 : decode cX2_fletcherJoined 8 = .ok (.iload_n 2, 1) := by decide +kernel
theorem dX2_fletcherJoined_9 : decode cX2_fletcherJoined 9 = .ok (.invokestatic 108, 3) := by decide +kernel
theorem dX2_fletcherJoined_12 : decode cX2_fletcherJoined 12 = .ok (.ifCond .eq 11, 3) := by decide +kernel
theorem dX2_fletcherJoined_15 : decode cX2_fletcherJoined 15 = .ok (.iload_n 3, 1) := by decide +kernel
theorem dX2_fletcherJoined_16 : decode cX2_fletcherJoined 16 = .ok (.ifCond .lt 7, 3) := by decide +kernel
theorem dX2_fletcherJoined_19 : decode cX2_fletcherJoined 19 = .ok (.iconst 1, 1) := by decide +kernel
theorem dX2_fletcherJoined_20 : decode cX2_fletcherJoined 20 = .ok (.goto 4, 3) := by decide +kernel
theorem dX2_fletcherJoined_23 : decode cX2_fletcherJoined 23 = .ok (.iconst 0, 1) := by decide +kernel
theorem dX2_fletcherJoined_24 : decode cX2_fletcherJoined 24 = .ok (.invokevirtual 69, 3) := by decide +kernel
theorem dX2_fletcherJoined_27 : decode cX2_fletcherJoined 27 = .ok (.ifCond .ne 5, 3) := by decide +kernel
theorem dX2_fletcherJoined_30 : decode cX2_fletcherJoined 30 = .ok (.iconst 0, 1) := by decide +kernel
theorem dX2_fletcherJoined_31 : decode cX2_fletcherJoined 31 = .ok (.ireturn, 1) := by decide +kernel
theorem dX2_fletcherJoined_32 : decode cX2_fletcherJoined 32 = .ok (.iload_n 1, 1) := by decide +kernel
theorem dX2_fletcherJoined_33 : decode cX2_fletcherJoined 33 = .ok (.sipush 256, 3) := by decide +kernel
theorem dX2_fletcherJoined_36 : decode cX2_fletcherJoined 36 = .ok (.irem, 1) := by decide +kernel
theorem dX2_fletcherJoined_37 : decode cX2_fletcherJoined 37 = .ok (.iload_n 2, 1) := by decide +kernel
theorem dX2_fletcherJoined_38 : decode cX2_fletcherJoined 38 = .ok (.sipush 256, 3) := by decide +kernel
theorem dX2_fletcherJoined_41 : decode cX2_fletcherJoined 41 = .ok (.irem, 1) := by decide +kernel
theorem dX2_fletcherJoined_42 : decode cX2_fletcherJoined 42 = .ok (.iadd, 1) := by decide +kernel
theorem dX2_fletcherJoined_43 : decode cX2_fletcherJoined 43 = .ok (.sipush 255, 3) := by decide +kernel
theorem dX2_fletcherJoined_46 : decode cX2_fletcherJoined 46 = .ok (.irem, 1) := by decide +kernel
theorem dX2_fletcherJoined_47 : decode cX2_fletcherJoined 47 = .ok (.istore 4, 2) := by decide +kernel
theorem dX2_fletcherJoined_49 : decode cX2_fletcherJoined 49 = .ok (.iload_n 1, 1) := by decide +kernel
theorem dX2_fletcherJoined_50 : decode cX2_fletcherJoined 50 = .ok (.sipush 256, 3) := by decide +kernel
theorem dX2_fletcherJoined_53 : decode cX2_fletcherJoined 53 = .ok (.idiv, 1) := by decide +kernel
theorem dX2_fletcherJoined_54 : decode cX2_fletcherJoined 54 = .ok (.iload_n 2, 1) := by decide +kernel
theorem dX2_fletcherJoined_55 : decode cX2_fletcherJoined 55 = .ok (.sipush 256, 3) := by decide +kernel
theorem dX2_fletcherJoined_58 : decode cX2_fletcherJoined 58 = .ok (.idiv, 1) := by decide +kernel
theorem dX2_fletcherJoined_59 : decode cX2_fletcherJoined 59 = .ok (.iadd, 1) := by decide +kernel
theorem dX2_fletcherJoined_60 : decode cX2_fletcherJoined 60 = .ok (.i2l, 1) := by decide +kernel
theorem dX2_fletcherJoined_61 : decode cX2_fletcherJoined 61 = .ok (.iload_n 3, 1) := by decide +kernel
theorem dX2_fletcherJoined_62 : decode cX2_fletcherJoined 62 = .ok (.i2l, 1) := by decide +kernel
theorem dX2_fletcherJoined_63 : decode cX2_fletcherJoined 63 = .ok (.iload_n 1, 1) := by decide +kernel
theorem dX2_fletcherJoined_64 : decode cX2_fletcherJoined 64 = .ok (.sipush 256, 3) := by decide +kernel
theorem dX2_fletcherJoined_67 : decode cX2_fletcherJoined 67 = .ok (.irem, 1) := by decide +kernel
theorem dX2_fletcherJoined_68 : decode cX2_fletcherJoined 68 = .ok (.i2l, 1) := by decide +kernel
theorem dX2_fletcherJoined_69 : decode cX2_fletcherJoined 69 = .ok (.lmul, 1) := by decide +kernel
theorem dX2_fletcherJoined_70 : decode cX2_fletcherJoined 70 = .ok (.ladd, 1) := by decide +kernel
theorem dX2_fletcherJoined_71 : decode cX2_fletcherJoined 71 = .ok (.ldc2_w 111, 3) := by decide +kernel
theorem dX2_fletcherJoined_74 : decode cX2_fletcherJoined 74 = .ok (.lrem, 1) := by decide +kernel
theorem dX2_fletcherJoined_75 : decode cX2_fletcherJoined 75 = .ok (.lstore 5, 2) := by decide +kernel
theorem dX2_fletcherJoined_77 : decode cX2_fletcherJoined 77 = .ok (.sipush 256, 3) := by decide +kernel
theorem dX2_fletcherJoined_80 : decode cX2_fletcherJoined 80 = .ok (.lload 5, 2) := by decide +kernel
theorem dX2_fletcherJoined_82 : decode cX2_fletcherJoined 82 = .ok (.l2i, 1) := by decide +kernel
theorem dX2_fletcherJoined_83 : decode cX2_fletcherJoined 83 = .ok (.imul, 1) := by decide +kernel
theorem dX2_fletcherJoined_84 : decode cX2_fletcherJoined 84 = .ok (.iload 4, 2) := by decide +kernel
theorem dX2_fletcherJoined_86 : decode cX2_fletcherJoined 86 = .ok (.iadd, 1) := by decide +kernel
theorem dX2_fletcherJoined_87 : decode cX2_fletcherJoined 87 = .ok (.ireturn, 1) := by decide +kernel
set_option maxRecDepth 20000 in
theorem ggX2_adler_X2_isRow : GoodIn wsX2_adler wsX2_isRow := goodIn_r _ [8, 9, 10, 7, 11] (by decide +kernel) (by decide +kernel)
set_option maxRecDepth 20000 in
theorem gX2_adler_X2_isRow : GoodIn wsX2_adler (va_wsS RX2 87 yX2_isRow wsX2_isRow) := goodIn_app (goodIn_of _ (by decide +kernel)) ggX2_adler_X2_isRow
set_option maxRecDepth 20000 in
theorem ggX2_adler_X2_asked : GoodIn wsX2_adler wsX2_asked := goodIn_r _ [15, 16, 17, 18, 19, 20, 21, 22, 23, 24, 25, 26] (by decide +kernel) (by decide +kernel)
set_option maxRecDepth 20000 in
theorem gX2_adler_X2_asked : GoodIn wsX2_adler (wsV RX2 69 RX2 yX2_asked wsX2_asked) := goodIn_app (goodIn_of _ (by decide +kernel)) ggX2_adler_X2_asked
theorem dX2_adler_0 : decode cX2_adler 0 = .ok (.iconst 1, 1) := by decide +kernel
theorem dX2_adler_1 : decode cX2_adler 1 = .ok (.istore_n 2, 1) := by decide +kernel
theorem dX2_adler_2 : decode cX2_adler 2 = .ok (.iconst 0, 1) := by decide +kernel
theorem dX2_adler_3 : decode cX2_adler 3 = .ok (.istore_n 3, 1) := by decide +kernel
theorem dX2_adler_4 : decode cX2_adler 4 = .ok (.aload_n 0, 1) := by decide +kernel
theorem dX2_adler_5 : decode cX2_adler 5 = .ok (.iload_n 1, 1) := by decide +kernel
theorem dX2_adler_6 : decode cX2_adler 6 = .ok (.invokestatic 87, 3) := by decide +kernel
theorem dX2_adler_9 : decode cX2_adler 9 = .ok (.invokevirtual 69, 3) := by decide +kernel
theorem dX2_adler_12 : decode cX2_adler 12 = .ok (.istore 4, 2) := by decide +kernel
theorem dX2_adler_14 : decode cX2_adler 14 = .ok (.iconst 0, 1) := by decide +kernel
theorem dX2_adler_15 : decode cX2_adler 15 = .ok (.istore 5, 2) := by decide +kernel
theorem dX2_adler_17 : decode cX2_adler 17 = .ok (.iload 4, 2) := by decide +kernel
theorem dX2_adler_19 : decode cX2_adler 19 = .ok (.ifCond .eq 46, 3) := by decide +kernel
theorem dX2_adler_22 : decode cX2_adler 22 = .ok (.iload 5, 2) := by decide +kernel
theorem dX2_adler_24 : decode cX2_adler 24 = .ok (.aload_n 0, 1) := by decide +kernel
theorem dX2_adler_25 : decode cX2_adler 25 = .ok (.getfield 32, 3) := by decide +kernel
theorem dX2_adler_28 : decode cX2_adler 28 = .ok (.iload_n 1, 1) := by decide +kernel
theorem dX2_adler_29 : decode cX2_adler 29 = .ok (.iaload, 1) := by decide +kernel
theorem dX2_adler_30 : decode cX2_adler 30 = .ok (.if_icmp .ge 35, 3) := by decide +kernel
theorem dX2_adler_33 : decode cX2_adler 33 = .ok (.iload_n 2, 1) := by decide +kernel
theorem dX2_adler_34 : decode cX2_adler 34 = .ok (.aload_n 0, 1) := by decide +kernel
theorem dX2_adler_35 : decode cX2_adler 35 = .ok (.getfield 29, 3) := by decide +kernel
theorem dX2_adler_38 : decode cX2_adler 38 = .ok (.sipush 256, 3) := by decide +kernel
theorem dX2_adler_41 : decode cX2_adler 41 = .ok (.iload_n 1, 1) := by decide +kernel
theorem dX2_adler_42 : decode cX2_adler 42 = .ok (.imul, 1) := by decide +kernel
theorem dX2_adler_43 : decode cX2_adler 43 = .ok (.iload 5, 2) := by decide +kernel
theorem dX2_adler_45 : decode cX2_adler 45 = .ok (.iadd, 1) := by decide +kernel
theorem dX2_adler_46 : decode cX2_adler 46 = .ok (.iaload, 1) := by decide +kernel
theorem dX2_adler_47 : decode cX2_adler 47 = .ok (.iadd, 1) := by decide +kernel
theorem dX2_adler_48 : decode cX2_adler 48 = .ok (.ldc 113, 2) := by decide +kernel
theorem dX2_adler_50 : decode cX2_adler 50 = .ok (.irem, 1) := by decide +kernel
theorem dX2_adler_51 : decode cX2_adler 51 = .ok (.istore_n 2, 1) := by decide +kernel
theorem dX2_adler_52 : decode cX2_adler 52 = .ok (.iload_n 3, 1) := by decide +kernel
theorem dX2_adler_53 : decode cX2_adler 53 = .ok (.iload_n 2, 1) := by decide +kernel
theorem dX2_adler_54 : decode cX2_adler 54 = .ok (.iadd, 1) := by decide +kernel
theorem dX2_adler_55 : decode cX2_adler 55 = .ok (.ldc 113, 2) := by decide +kernel
theorem dX2_adler_57 : decode cX2_adler 57 = .ok (.irem, 1) := by decide +kernel
theorem dX2_adler_58 : decode cX2_adler 58 = .ok (.istore_n 3, 1) := by decide +kernel
theorem dX2_adler_59 : decode cX2_adler 59 = .ok (.iinc 5 1, 3) := by decide +kernel
theorem dX2_adler_62 : decode cX2_adler 62 = .ok (.goto (-45), 3) := by decide +kernel
theorem dX2_adler_65 : decode cX2_adler 65 = .ok (.iload 4, 2) := by decide +kernel
theorem dX2_adler_67 : decode cX2_adler 67 = .ok (.ifCond .eq 12, 3) := by decide +kernel
theorem dX2_adler_70 : decode cX2_adler 70 = .ok (.ldc 114, 2) := by decide +kernel
theorem dX2_adler_72 : decode cX2_adler 72 = .ok (.iload_n 3, 1) := by decide +kernel
theorem dX2_adler_73 : decode cX2_adler 73 = .ok (.imul, 1) := by decide +kernel
theorem dX2_adler_74 : decode cX2_adler 74 = .ok (.iload_n 2, 1) := by decide +kernel
theorem dX2_adler_75 : decode cX2_adler 75 = .ok (.iadd, 1) := by decide +kernel
theorem dX2_adler_76 : decode cX2_adler 76 = .ok (.goto 4, 3) := by decide +kernel
theorem dX2_adler_79 : decode cX2_adler 79 = .ok (.iconst 0, 1) := by decide +kernel
theorem dX2_adler_80 : decode cX2_adler 80 = .ok (.ireturn, 1) := by decide +kernel
theorem dX2_low_0 : decode cX2_low 0 = .ok (.iload_n 0, 1) := by decide +kernel
theorem dX2_low_1 : decode cX2_low 1 = .ok (.ldc 115, 2) := by decide +kernel
theorem dX2_low_3 : decode cX2_low 3 = .ok (.iand, 1) := by decide +kernel
theorem dX2_low_4 : decode cX2_low 4 = .ok (.ireturn, 1) := by decide +kernel
theorem dX2_high_0 : decode cX2_high 0 = .ok (.iload_n 0, 1) := by decide +kernel
theorem dX2_high_1 : decode cX2_high 1 = .ok (.bipush 16, 2) := by decide +kernel
theorem dX2_high_3 : decode cX2_high 3 = .ok (.iushr, 1) := by decide +kernel
theorem dX2_high_4 : decode cX2_high 4 = .ok (.ireturn, 1) := by decide +kernel
set_option maxRecDepth 20000 in
theorem ggX2_isAdler_X2_low : GoodIn wsX2_isAdler wsX2_low := goodIn_r _ [5, 6] (by decide +kernel) (by decide +kernel)
set_option maxRecDepth 20000 in
theorem gX2_isAdler_X2_low : GoodIn wsX2_isAdler (va_wsS RX2 116 yX2_low wsX2_low) := goodIn_app (goodIn_of _ (by decide +kernel)) ggX2_isAdler_X2_low
set_option maxRecDepth 20000 in
theorem ggX2_isAdler_X2_high : GoodIn wsX2_isAdler wsX2_high := goodIn_r _ [9] (by decide +kernel) (by decide +kernel)
set_option maxRecDepth 20000 in
theorem gX2_isAdler_X2_high : GoodIn wsX2_isAdler (va_wsS RX2 120 yX2_high wsX2_high) := goodIn_app (goodIn_of _ (by decide +kernel)) ggX2_isAdler_X2_high
theorem dX2_isAdler_0 : decode cX2_isAdler 0 = .ok (.iload_n 0, 1) := by decide +kernel
theorem dX2_isAdler_1 : decode cX2_isAdler 1 = .ok (.invokestatic 116, 3) := by decide +kernel
theorem dX2_isAdler_4 : decode cX2_isAdler 4 = .ok (.ldc 113, 2) := by decide +kernel
theorem dX2_isAdler_6 : decode cX2_isAdler 6 = .ok (.if_icmp .ge 16, 3) := by decide +kernel
theorem dX2_isAdler_9 : decode cX2_isAdler 9 = .ok (.iload_n 0, 1) := by decide +kernel
theorem dX2_isAdler_10 : decode cX2_isAdler 10 = .ok (.invokestatic 120, 3) := by decide +kernel
theorem dX2_isAdler_13 : decode cX2_isAdler 13 = .ok (.ldc 113, 2) := by decide +kernel
theorem dX2_isAdler_15 : decode cX2_isAdler 15 = .ok (.if_icmp .ge 7, 3) := by decide +kernel
theorem dX2_isAdler_18 : decode cX2_isAdler 18 = .ok (.iconst 1, 1) := by decide +kernel
theorem dX2_isAdler_19 : decode cX2_isAdler 19 = .ok (.goto 4, 3) := by decide +kernel
theorem dX2_isAdler_22 : decode cX2_isAdler 22 = .ok (.iconst 0, 1) := by decide +kernel
theorem dX2_isAdler_23 : decode cX2_isAdler 23 = .ok (.ireturn, 1) := by decide +kernel
theorem dX2_reduced_0 : decode cX2_reduced 0 = .ok (.lload_n 0, 1) := by decide +kernel
theorem dX2_reduced_1 : decode cX2_reduced 1 = .ok (.ldc2_w 123, 3) := by decide +kernel
theorem dX2_reduced_4 : decode cX2_reduced 4 = .ok (.lrem, 1) := by decide +kernel
theorem dX2_reduced_5 : decode cX2_reduced 5 = .ok (.lstore_n 2, 1) := by decide +kernel
theorem dX2_reduced_6 : decode cX2_reduced 6 = .ok (.lload_n 2, 1) := by decide +kernel
theorem dX2_reduced_7 : decode cX2_reduced 7 = .ok (.lconst 0, 1) := by decide +kernel
theorem dX2_reduced_8 : decode cX2_reduced 8 = .ok (.lcmp, 1) := by decide +kernel
theorem dX2_reduced_9 : decode cX2_reduced 9 = .ok (.ifCond .ge 11, 3) := by decide +kernel
theorem dX2_reduced_12 : decode cX2_reduced 12 = .ok (.lload_n 2, 1) := by decide +kernel
theorem dX2_reduced_13 : decode cX2_reduced 13 = .ok (.ldc2_w 123, 3) := by decide +kernel
theorem dX2_reduced_16 : decode cX2_reduced 16 = .ok (.ladd, 1) := by decide +kernel
theorem dX2_reduced_17 : decode cX2_reduced 17 = .ok (.goto 4, 3) := by decide +kernel
theorem dX2_reduced_20 : decode cX2_reduced 20 = .ok (.lload_n 2, 1) := by decide +kernel
theorem dX2_reduced_21 : decode cX2_reduced 21 = .ok (.l2i, 1) := by decide +kernel
theorem dX2_reduced_22 : decode cX2_reduced 22 = .ok (.ireturn, 1) := by decide +kernel
set_option maxRecDepth 20000 in
theorem ggX2_adlerOf_X2_reduced : GoodIn wsX2_adlerOf wsX2_reduced := goodIn_r _ [5, 6] (by decide +kernel) (by decide +kernel)
set_option maxRecDepth 20000 in
theorem gX2_adlerOf_X2_reduced : GoodIn wsX2_adlerOf (va_wsS RX2 125 yX2_reduced wsX2_reduced) := goodIn_app (goodIn_of _ (by decide +kernel)) ggX2_adlerOf_X2_reduced
theorem dX2_adlerOf_0 : decode cX2_adlerOf 0 = .ok (.ldc 114, 2) := by decide +kernel
theorem dX2_adlerOf_2 : decode cX2_adlerOf 2 = .ok (.lload_n 2, 1) := by decide +kernel
theorem dX2_adlerOf_3 : decode cX2_adlerOf 3 = .ok (.invokestatic 125, 3) := by decide +kernel
theorem dX2_adlerOf_6 : decode cX2_adlerOf 6 = .ok (.imul, 1) := by decide +kernel
theorem dX2_adlerOf_7 : decode cX2_adlerOf 7 = .ok (.lload_n 0, 1) := by decide +kernel
theorem dX2_adlerOf_8 : decode cX2_adlerOf 8 = .ok (.invokestatic 125, 3) := by decide +kernel
theorem dX2_adlerOf_11 : decode cX2_adlerOf 11 = .ok (.iadd, 1) := by decide +kernel
theorem dX2_adlerOf_12 : decode cX2_adlerOf 12 = .ok (.ireturn, 1) := by decide +kernel
set_option maxRecDepth 20000 in
theorem ggX2_adlerJoined_X2_isAdler : GoodIn wsX2_adlerJoined wsX2_isAdler := goodIn_r _ [4, 5, 6, 7, 3, 8, 9, 10, 11, 12] (by decide +kernel) (by decide +kernel)
set_option maxRecDepth 20000 in
theorem gX2_adlerJoined_X2_isAdler : GoodIn wsX2_adlerJoined (va_wsS RX2 129 yX2_isAdler wsX2_isAdler) := goodIn_app (goodIn_of _ (by decide +kernel)) ggX2_adlerJoined_X2_isAdler
set_option maxRecDepth 20000 in
theorem ggX2_adlerJoined_X2_asked : GoodIn wsX2_adlerJoined wsX2_asked := goodIn_r _ [16, 17, 26, 27, 28, 29, 30, 31, 32, 33, 34, 35] (by decide +kernel) (by decide +kernel)
set_option maxRecDepth 20000 in
theorem gX2_adlerJoined_X2_asked : GoodIn wsX2_adlerJoined (wsV RX2 69 RX2 yX2_asked wsX2_asked) := goodIn_app (goodIn_of _ (by decide +kernel)) ggX2_adlerJoined_X2_asked
set_option maxRecDepth 20000 in
theorem ggX2_adlerJoined_X2_low : GoodIn wsX2_adlerJoined wsX2_low := goodIn_r _ [8, 9] (by decide +kernel) (by decide +kernel)
set_option maxRecDepth 20000 in
theorem gX2_adlerJoined_X2_low : GoodIn wsX2_adlerJoined (va_wsS RX2 116 yX2_low wsX2_low) := goodIn_app (goodIn_of _ (by decide +kernel)) ggX2_adlerJoined_X2_low
set_option maxRecDepth 20000 in
theorem ggX2_adlerJoined_X2_high : GoodIn wsX2_adlerJoined wsX2_high := goodIn_r _ [12] (by decide +kernel) (by decide +kernel)
set_option maxRecDepth 20000 in
theorem gX2_adlerJoined_X2_high : GoodIn wsX2_adlerJoined (va_wsS RX2 120 yX2_high wsX2_high) := goodIn_app (goodIn_of _ (by decide +kernel)) ggX2_adlerJoined_X2_high
set_option maxRecDepth 20000 in
theorem ggX2_adlerJoined_X2_adlerOf : GoodIn wsX2_adlerJoined wsX2_adlerOf := goodIn_r _ [20, 21, 22, 23, 3, 24, 25] (by decide +kernel) (by decide +kernel)
set_option maxRecDepth 20000 in
theorem gX2_adlerJoined_X2_adlerOf : GoodIn wsX2_adlerJoined (va_wsS RX2 132 yX2_adlerOf wsX2_adlerOf) := goodIn_app (goodIn_of _ (by decide +kernel)) ggX2_adlerJoined_X2_adlerOf
theorem dX2_adlerJoined_0 : decode cX2_adlerJoined 0 = .ok (.aload_n 0, 1) := by decide +kernel
theorem dX2_adlerJoined_1 : decode cX2_adlerJoined 1 = .ok (.iload_n 1, 1) := by decide +kernel
theorem dX2_adlerJoined_2 : decode cX2_adlerJoined 2 = .ok (.invokestatic 129, 3) := by decide +kernel
theorem dX2_adlerJoined_5 : decode cX2_adlerJoined 5 = .ok (.ifCond .eq 18, 3) := by decide +kernel
theorem dX2_adlerJoined_8 : decode cX2_adlerJoined 8 = .ok (.iload_n 2, 1) := by decide +kernel
theorem dX2_adlerJoined_9 : decode cX2_adlerJoined 9 = .ok (.invokestatic 129, 3) := by decide +kernel
theorem dX2_adlerJoined_12 : decode cX2_adlerJoined 12 = .ok (.ifCond .eq 11, 3) := by decide +kernel
theorem dX2_adlerJoined_15 : decode cX2_adlerJoined 15 = .ok (.iload_n 3, 1) := by decide +kernel
theorem dX2_adlerJoined_16 : decode cX2_adlerJoined 16 = .ok (.ifCond .lt 7, 3) := by decide +kernel
theorem dX2_adlerJoined_19 : decode cX2_adlerJoined 19 = .ok (.iconst 1, 1) := by decide +kernel
theorem dX2_adlerJoined_20 : decode cX2_adlerJoined 20 = .ok (.goto 4, 3) := by decide +kernel
theorem dX2_adlerJoined_23 : decode cX2_adlerJoined 23 = .ok (.iconst 0, 1) := by decide +kernel
theorem dX2_adlerJoined_24 : decode cX2_adlerJoined 24 = .ok (.invokevirtual 69, 3) := by decide +kernel
theorem dX2_adlerJoined_27 : decode cX2_adlerJoined 27 = .ok (.ifCond .ne 5, 3) := by decide +kernel
theorem dX2_adlerJoined_30 : decode cX2_adlerJoined 30 = .ok (.iconst 0, 1) := by decide +kernel
theorem dX2_adlerJoined_31 : decode cX2_adlerJoined 31 = .ok (.ireturn, 1) := by decide +kernel
theorem dX2_adlerJoined_32 : decode cX2_adlerJoined 32 = .ok (.iload_n 1, 1) := by decide +kernel
theorem dX2_adlerJoined_33 : decode cX2_adlerJoined 33 = .ok (.invokestatic 116, 3) := by decide +kernel
theorem dX2_adlerJoined_36 : decode cX2_adlerJoined 36 = .ok (.iload_n 2, 1) := by decide +kernel
theorem dX2_adlerJoined_37 : decode cX2_adlerJoined 37 = .ok (.invokestatic 116, 3) := by decide +kernel
theorem dX2_adlerJoined_40 : decode cX2_adlerJoined 40 = .ok (.iadd, 1) := by decide +kernel
theorem dX2_adlerJoined_41 : decode cX2_adlerJoined 41 = .ok (.iconst 1, 1) := by decide +kernel
theorem dX2_adlerJoined_42 : decode cX2_adlerJoined 42 = .ok (.isub, 1) := by decide +kernel
theorem dX2_adlerJoined_43 : decode cX2_adlerJoined 43 = .ok (.i2l, 1) := by decide +kernel
theorem dX2_adlerJoined_44 : decode cX2_adlerJoined 44 = .ok (.lstore 4, 2) := by decide +kernel
theorem dX2_adlerJoined_46 : decode cX2_adlerJoined 46 = .ok (.iload_n 1, 1) := by decide +kernel
theorem dX2_adlerJoined_47 : decode cX2_adlerJoined 47 = .ok (.invokestatic 120, 3) := by decide +kernel
theorem dX2_adlerJoined_50 : decode cX2_adlerJoined 50 = .ok (.iload_n 2, 1) := by decide +kernel
theorem dX2_adlerJoined_51 : decode cX2_adlerJoined 51 = .ok (.invokestatic 120, 3) := by decide +kernel
theorem dX2_adlerJoined_54 : decode cX2_adlerJoined 54 = .ok (.iadd, 1) := by decide +kernel
theorem dX2_adlerJoined_55 : decode cX2_adlerJoined 55 = .ok (.i2l, 1) := by decide +kernel
theorem dX2_adlerJoined_56 : decode cX2_adlerJoined 56 = .ok (.iload_n 3, 1) := by decide +kernel
theorem dX2_adlerJoined_57 : decode cX2_adlerJoined 57 = .ok (.i2l, 1) := by decide +kernel
theorem dX2_adlerJoined_58 : decode cX2_adlerJoined 58 = .ok (.iload_n 1, 1) := by decide +kernel
theorem dX2_adlerJoined_59 : decode cX2_adlerJoined 59 = .ok (.invokestatic 116, 3) := by decide +kernel
theorem dX2_adlerJoined_62 : decode cX2_adlerJoined 62 = .ok (.iconst 1, 1) := by decide +kernel
theorem dX2_adlerJoined_63 : decode cX2_adlerJoined 63 = .ok (.isub, 1) := by decide +kernel
theorem dX2_adlerJoined_64 : decode cX2_adlerJoined 64 = .ok (.i2l, 1) := by decide +kernel
theorem dX2_adlerJoined_65 : decode cX2_adlerJoined 65 = .ok (.lmul, 1) := by decide +kernel
theorem dX2_adlerJoined_66 : decode cX2_adlerJoined 66 = .ok (.ladd, 1) := by decide +kernel
theorem dX2_adlerJoined_67 : decode cX2_adlerJoined 67 = .ok (.lstore 6, 2) := by decide +kernel
theorem dX2_adlerJoined_69 : decode cX2_adlerJoined 69 = .ok (.lload 4, 2) := by decide +kernel
theorem dX2_adlerJoined_71 : decode cX2_adlerJoined 71 = .ok (.lload 6, 2) := by decide +kernel
theorem dX2_adlerJoined_73 : decode cX2_adlerJoined 73 = .ok (.invokestatic 132, 3) := by decide +kernel
theorem dX2_adlerJoined_76 : decode cX2_adlerJoined 76 = .ok (.ireturn, 1) := by decide +kernel
set_option maxRecDepth 20000 in
theorem ggX2_adlerRolled_X2_isAdler : GoodIn wsX2_adlerRolled wsX2_isAdler := goodIn_r _ [4, 5, 6, 7, 3, 8, 9, 10, 11, 12] (by decide +kernel) (by decide +kernel)
set_option maxRecDepth 20000 in
theorem gX2_adlerRolled_X2_isAdler : GoodIn wsX2_adlerRolled (va_wsS RX2 129 yX2_isAdler wsX2_isAdler) := goodIn_app (goodIn_of _ (by decide +kernel)) ggX2_adlerRolled_X2_isAdler
set_option maxRecDepth 20000 in
theorem ggX2_adlerRolled_X2_isByte : GoodIn wsX2_adlerRolled wsX2_isByte := goodIn_r _ [15, 16, 17, 3, 18] (by decide +kernel) (by decide +kernel)
set_option maxRecDepth 20000 in
theorem gX2_adlerRolled_X2_isByte : GoodIn wsX2_adlerRolled (va_wsS RX2 90 yX2_isByte wsX2_isByte) := goodIn_app (goodIn_of _ (by decide +kernel)) ggX2_adlerRolled_X2_isByte
set_option maxRecDepth 20000 in
theorem ggX2_adlerRolled_X2_asked : GoodIn wsX2_adlerRolled wsX2_asked := goodIn_r _ [22, 23, 32, 33, 34, 35, 36, 37, 38, 39, 40, 41] (by decide +kernel) (by decide +kernel)
set_option maxRecDepth 20000 in
theorem gX2_adlerRolled_X2_asked : GoodIn wsX2_adlerRolled (wsV RX2 69 RX2 yX2_asked wsX2_asked) := goodIn_app (goodIn_of _ (by decide +kernel)) ggX2_adlerRolled_X2_asked
set_option maxRecDepth 20000 in
theorem ggX2_adlerRolled_X2_low : GoodIn wsX2_adlerRolled wsX2_low := goodIn_r _ [8, 9] (by decide +kernel) (by decide +kernel)
set_option maxRecDepth 20000 in
theorem gX2_adlerRolled_X2_low : GoodIn wsX2_adlerRolled (va_wsS RX2 116 yX2_low wsX2_low) := goodIn_app (goodIn_of _ (by decide +kernel)) ggX2_adlerRolled_X2_low
set_option maxRecDepth 20000 in
theorem ggX2_adlerRolled_X2_high : GoodIn wsX2_adlerRolled wsX2_high := goodIn_r _ [12] (by decide +kernel) (by decide +kernel)
set_option maxRecDepth 20000 in
theorem gX2_adlerRolled_X2_high : GoodIn wsX2_adlerRolled (va_wsS RX2 120 yX2_high wsX2_high) := goodIn_app (goodIn_of _ (by decide +kernel)) ggX2_adlerRolled_X2_high
set_option maxRecDepth 20000 in
theorem ggX2_adlerRolled_X2_adlerOf : GoodIn wsX2_adlerRolled wsX2_adlerOf := goodIn_r _ [26, 27, 28, 29, 3, 30, 31] (by decide +kernel) (by decide +kernel)
set_option maxRecDepth 20000 in
theorem gX2_adlerRolled_X2_adlerOf : GoodIn wsX2_adlerRolled (va_wsS RX2 132 yX2_adlerOf wsX2_adlerOf) := goodIn_app (goodIn_of _ (by decide +kernel)) ggX2_adlerRolled_X2_adlerOf
theorem dX2_adlerRolled_0 : decode cX2_adlerRolled 0 = .ok (.aload_n 0, 1) := by decide +kernel
theorem dX2_adlerRolled_1 : decode cX2_adlerRolled 1 = .ok (.iload_n 1, 1) := by decide +kernel
theorem dX2_adlerRolled_2 : decode cX2_adlerRolled 2 = .ok (.invokestatic 129, 3) := by decide +kernel
theorem dX2_adlerRolled_5 : decode cX2_adlerRolled 5 = .ok (.ifCond .eq 27, 3) := by decide +kernel
theorem dX2_adlerRolled_8 : decode cX2_adlerRolled 8 = .ok (.iload_n 2, 1) := by decide +kernel
theorem dX2_adlerRolled_9 : decode cX2_adlerRolled 9 = .ok (.iconst 1, 1) := by decide +kernel
theorem dX2_adlerRolled_10 : decode cX2_adlerRolled 10 = .ok (.if_icmp .lt 22, 3) := by decide +kernel
theorem dX2_adlerRolled_13 : decode cX2_adlerRolled 13 = .ok (.iload_n 3, 1) := by decide +kernel
theorem dX2_adlerRolled_14 : decode cX2_adlerRolled 14 = .ok (.invokestatic 90, 3) := by decide +kernel
theorem dX2_adlerRolled_17 : decode cX2_adlerRolled 17 = .ok (.ifCond .eq 15, 3) := by decide +kernel
theorem dX2_adlerRolled_20 : decode cX2_adlerRolled 20 = .ok (.iload 4, 2) := by decide +kernel
theorem dX2_adlerRolled_22 : decode cX2_adlerRolled 22 = .ok (.invokestatic 90, 3) := by decide +kernel
theorem dX2_adlerRolled_25 : decode cX2_adlerRolled 25 = .ok (.ifCond .eq 7, 3) := by decide +kernel
theorem dX2_adlerRolled_28 : decode cX2_adlerRolled 28 = .ok (.iconst 1, 1) := by decide +kernel
theorem dX2_adlerRolled_29 : decode cX2_adlerRolled 29 = .ok (.goto 4, 3) := by decide +kernel
theorem dX2_adlerRolled_32 : decode cX2_adlerRolled 32 = .ok (.iconst 0, 1) := by decide +kernel
theorem dX2_adlerRolled_33 : decode cX2_adlerRolled 33 = .ok (.invokevirtual 69, 3) := by decide +kernel
theorem dX2_adlerRolled_36 : decode cX2_adlerRolled 36 = .ok (.ifCond .ne 5, 3) := by decide +kernel
theorem dX2_adlerRolled_39 : decode cX2_adlerRolled 39 = .ok (.iconst 0, 1) := by decide +kernel
theorem dX2_adlerRolled_40 : decode cX2_adlerRolled 40 = .ok (.ireturn, 1) := by decide +kernel
theorem dX2_adlerRolled_41 : decode cX2_adlerRolled 41 = .ok (.iload_n 1, 1) := by decide +kernel
theorem dX2_adlerRolled_42 : decode cX2_adlerRolled 42 = .ok (.invokestatic 116, 3) := by decide +kernel
theorem dX2_adlerRolled_45 : decode cX2_adlerRolled 45 = .ok (.iload 4, 2) := by decide +kernel
theorem dX2_adlerRolled_47 : decode cX2_adlerRolled 47 = .ok (.iadd, 1) := by decide +kernel
theorem dX2_adlerRolled_48 : decode cX2_adlerRolled 48 = .ok (.iload_n 3, 1) := by decide +kernel
theorem dX2_adlerRolled_49 : decode cX2_adlerRolled 49 = .ok (.isub, 1) := by decide +kernel
theorem dX2_adlerRolled_50 : decode cX2_adlerRolled 50 = .ok (.i2l, 1) := by decide +kernel
theorem dX2_adlerRolled_51 : decode cX2_adlerRolled 51 = .ok (.lstore 5, 2) := by decide +kernel
theorem dX2_adlerRolled_53 : decode cX2_adlerRolled 53 = .ok (.iload_n 1, 1) := by decide +kernel
theorem dX2_adlerRolled_54 : decode cX2_adlerRolled 54 = .ok (.invokestatic 120, 3) := by decide +kernel
theorem dX2_adlerRolled_57 : decode cX2_adlerRolled 57 = .ok (.i2l, 1) := by decide +kernel
theorem dX2_adlerRolled_58 : decode cX2_adlerRolled 58 = .ok (.iload_n 2, 1) := by decide +kernel
theorem dX2_adlerRolled_59 : decode cX2_adlerRolled 59 = .ok (.i2l, 1) := by decide +kernel
theorem dX2_adlerRolled_60 : decode cX2_adlerRolled 60 = .ok (.iload_n 3, 1) := by decide +kernel
theorem dX2_adlerRolled_61 : decode cX2_adlerRolled 61 = .ok (.i2l, 1) := by decide +kernel
theorem dX2_adlerRolled_62 : decode cX2_adlerRolled 62 = .ok (.lmul, 1) := by decide +kernel
theorem dX2_adlerRolled_63 : decode cX2_adlerRolled 63 = .ok (.lsub, 1) := by decide +kernel
theorem dX2_adlerRolled_64 : decode cX2_adlerRolled 64 = .ok (.lload 5, 2) := by decide +kernel
theorem dX2_adlerRolled_66 : decode cX2_adlerRolled 66 = .ok (.ladd, 1) := by decide +kernel
theorem dX2_adlerRolled_67 : decode cX2_adlerRolled 67 = .ok (.lconst 1, 1) := by decide +kernel
theorem dX2_adlerRolled_68 : decode cX2_adlerRolled 68 = .ok (.lsub, 1) := by decide +kernel
theorem dX2_adlerRolled_69 : decode cX2_adlerRolled 69 = .ok (.lstore 7, 2) := by decide +kernel
theorem dX2_adlerRolled_71 : decode cX2_adlerRolled 71 = .ok (.lload 5, 2) := by decide +kernel
theorem dX2_adlerRolled_73 : decode cX2_adlerRolled 73 = .ok (.lload 7, 2) := by decide +kernel
theorem dX2_adlerRolled_75 : decode cX2_adlerRolled 75 = .ok (.invokestatic 132, 3) := by decide +kernel
theorem dX2_adlerRolled_78 : decode cX2_adlerRolled 78 = .ok (.ireturn, 1) := by decide +kernel
end
section
theorem cs_lt32 {w : Nat} (h : w ≤ 32) (c : ¬ nI w = 32) : w < 32 := by
  have : w ≠ 32 := fun z => c (by rw [z]; rfl)
  omega
set_option maxHeartbeats 4000000 in
set_option maxRecDepth 100000 in
theorem k_X2_thrown (l : Launch) (D : va_G) (S : cs_St) (th : Int32) (bd : Nat → Nat) (cy : Nat → ClassId)  : cs_Mi l yX2_thrown wsX2_thrown ({ frames := 0, cells := 0, slots := 0, locals := 0 }) D (cs_tys cy) (cs_R S th bd cy) [.ref (bd 0)] (th) := by
  refine Met.ofW (cc := cX2_thrown) (maxL := 1) (ret := (some .int)) (by decide) rfl ?_
  intro pg e s m args below meth c s₁ B hml hv
  obtain ⟨rfl, hE, hP, hK⟩ := hv
  have hx := B.exec
  have hb := B.bytes
  have hr := B.returns
  have hts := atoms_spec (ws := wsX2_thrown) B.pre
  have hown : s.vm.findClass RX2 = some m.cls := findClass_of_methodNamed B.named
  have hlocks := B.notSynchronized
  have hl := lv_entry ([.ref (bd 0)]) (n := 1) (Nat.le_of_ble_eq_true rfl)
  rw [lg_entry_eq]
  generalize (lg_sl ([.ref (bd 0)]) ++ List.replicate (1 - (lg_sl ([.ref (bd 0)])).length) Slot.unset).toArray = ls at hl ⊢
  have hl : lv_has ls 1 [(0, .ref (bd 0))] := hl
  have hinX2 : ∀ w ∈ wsX20, w ∈ wsX2_thrown := fun _ h => by unfold wsX2_thrown; exact List.mem_cons_of_mem _ (List.mem_append_right _ h)
  refine lv_aload_n hx hb dX2_thrown_0 rfl (lv_at hl 0 rfl) ?_
  refine va_get (D := D) (ci := 2) (v := .int th) (C := RX2) (T := TX2) (N := 10) hx hb hts hinX2 hown hK hP 0 cs_R0 rfl 9 (by decide) (hts (.fieldLink RX2 35 "ChecksumLabModel" "thrown" "I") (by decide +kernel)) (fun _ h9 => h9) rfl dX2_thrown_1 ?_
  exact W.iret (v := th) hx hb hr (fun t ht _ => ⟨th, rfl, rfl, ht⟩) (fun q h => by cases h) dX2_thrown_4
set_option maxHeartbeats 4000000 in
set_option maxRecDepth 100000 in
theorem k_X2_in (l : Launch) (D : va_G) (S : cs_St) (th : Int32) (bd : Nat → Nat) (cy : Nat → ClassId) (v lo hi : Int32) : cs_Mi l yX2_in wsX2_in ({ frames := 0, cells := 0, slots := 0, locals := 0 }) D (cs_tys cy) [] [.int v, .int lo, .int hi] (cs_z (cs_in v lo hi)) := by
  refine Met.ofW (cc := cX2_in) (maxL := 3) (ret := (some .boolean)) (by decide) rfl ?_
  intro pg e s m args below meth c s₁ B hml hv
  obtain ⟨rfl, hE, hP, hK⟩ := hv
  have hx := B.exec
  have hb := B.bytes
  have hr := B.returns
  have hts := atoms_spec (ws := wsX2_in) B.pre
  have hown : s.vm.findClass RX2 = some m.cls := findClass_of_methodNamed B.named
  have hlocks := B.notSynchronized
  have hl := lv_entry ([.int v, .int lo, .int hi]) (n := 3) (Nat.le_of_ble_eq_true rfl)
  rw [lg_entry_eq]
  generalize (lg_sl ([.int v, .int lo, .int hi]) ++ List.replicate (3 - (lg_sl ([.int v, .int lo, .int hi])).length) Slot.unset).toArray = ls at hl ⊢
  have hl : lv_has ls 3 [(0, .int v), (1, .int lo), (2, .int hi)] := hl
  refine lv_iload_n hx hb dX2_in_0 rfl (lv_at hl 0 rfl) ?_
  refine lv_iload_n hx hb dX2_in_1 rfl (lv_at hl 1 rfl) ?_
  refine lv_icmp_lt (tgt := 14) hx hb dX2_in_2 (by decide) (fun c_2 => ?_) (fun c_2 => ?_)
  · refine lv_iconst (v := 0) hx hb dX2_in_14 (by decide) ?_
    exact W.zret (ty := .boolean) (v := 0) hx hb hr (rfl) (fun t ht _ => ⟨0, rfl, by rw [cs_inF1 (Int32.not_le.mpr c_2)]; rfl, ht⟩) (fun q h => by cases h) dX2_in_15
  · refine lv_iload_n hx hb dX2_in_5 rfl (lv_at hl 0 rfl) ?_
    refine lv_iload_n hx hb dX2_in_6 rfl (lv_at hl 2 rfl) ?_
    refine lv_icmp_gt (tgt := 14) hx hb dX2_in_7 (by decide) (fun c_7 => ?_) (fun c_7 => ?_)
    · refine lv_iconst (v := 0) hx hb dX2_in_14 (by decide) ?_
      exact W.zret (ty := .boolean) (v := 0) hx hb hr (rfl) (fun t ht _ => ⟨0, rfl, by rw [cs_inF2 (Int32.not_le.mpr c_7)]; rfl, ht⟩) (fun q h => by cases h) dX2_in_15
    · refine lv_iconst (v := 1) hx hb dX2_in_10 (by decide) ?_
      refine lv_goto (tgt := 15) hx hb dX2_in_11 (by decide) ?_
      exact W.zret (ty := .boolean) (v := 1) hx hb hr (rfl) (fun t ht _ => ⟨1, rfl, by rw [cs_inT (Int32.not_lt.mp c_2) (Int32.not_lt.mp c_7)]; rfl, ht⟩) (fun q h => by cases h) dX2_in_15
set_option maxHeartbeats 4000000 in
set_option maxRecDepth 100000 in
theorem k_X2_isModel (l : Launch) (D : va_G) (S : cs_St) (th : Int32) (bd : Nat → Nat) (cy : Nat → ClassId) (v : Int32) : cs_Mi l yX2_isModel wsX2_isModel ({ frames := 1, cells := 0, slots := 0, locals := 22 }) D (cs_tys cy) (cs_R S th bd cy) [.ref (bd 0), .int v] (cs_z (cs_in v 0 (nI (cs_n S) - 1))) := by
  refine Met.ofW (cc := cX2_isModel) (maxL := 2) (ret := (some .boolean)) (by decide) rfl ?_
  intro pg e s m args below meth c s₁ B hml hv
  obtain ⟨rfl, hE, hP, hK⟩ := hv
  have hx := B.exec
  have hb := B.bytes
  have hr := B.returns
  have hts := atoms_spec (ws := wsX2_isModel) B.pre
  have hown : s.vm.findClass RX2 = some m.cls := findClass_of_methodNamed B.named
  have hlocks := B.notSynchronized
  have hl := lv_entry ([.ref (bd 0), .int v]) (n := 2) (Nat.le_of_ble_eq_true rfl)
  rw [lg_entry_eq]
  generalize (lg_sl ([.ref (bd 0), .int v]) ++ List.replicate (2 - (lg_sl ([.ref (bd 0), .int v])).length) Slot.unset).toArray = ls at hl ⊢
  have hl : lv_has ls 2 [(0, .ref (bd 0)), (1, .int v)] := hl
  have hinX2 : ∀ w ∈ wsX20, w ∈ wsX2_isModel := fun _ h => by unfold wsX2_isModel; exact List.mem_cons_of_mem _ (List.mem_append_right _ h)
  refine lv_iload_n hx hb dX2_isModel_0 rfl (lv_at hl 1 rfl) ?_
  refine lv_iconst (v := 0) hx hb dX2_isModel_1 (by decide) ?_
  refine lv_aload_n hx hb dX2_isModel_2 rfl (lv_at hl 0 rfl) ?_
  refine va_get (D := D) (ci := 2) (v := .int (nI (cs_n S))) (C := RX2) (T := TX2) (N := 10) hx hb hts hinX2 hown hK hP 0 cs_R0 rfl 6 (by decide) (hts (.fieldLink RX2 39 "ChecksumLabModel" "models" "I") (by decide +kernel)) (fun _ h9 => h9) rfl dX2_isModel_3 ?_
  refine lv_iconst (v := 1) hx hb dX2_isModel_6 (by decide) ?_
  refine lv_isub hx hb dX2_isModel_7 ?_
  refine vp_callSi (W.runS (As := [.int v, .int 0, .int ((nI (cs_n S)) - 1)]) (rest := []) ⟨hx, hb, hml, hown, hts⟩ (k_X2_in l D S th bd cy  v 0 ((nI (cs_n S)) - 1)) (va_cwS 3 hts gX2_isModel_X2_in rfl rfl rfl (by decide +kernel) ⟨Nat.le_of_ble_eq_true rfl, Nat.le_of_ble_eq_true rfl⟩) ⟨cs_B.blind, cs_B.at hE cs_none hK⟩ rfl rfl hl.1 rfl (lv_room (Nat.le_of_ble_eq_true rfl)) dX2_isModel_8 ⟨Nat.le_of_ble_eq_true rfl, Nat.le_of_ble_eq_true rfl⟩) (fun r_8 e_8 => ?_)
  subst e_8
  exact W.zret (ty := .boolean) (v := cs_z (cs_in v 0 ((nI (cs_n S)) - 1))) hx hb hr (cs_z_nar (cs_in v 0 ((nI (cs_n S)) - 1))) (fun t ht _ => ⟨cs_z (cs_in v 0 ((nI (cs_n S)) - 1)), rfl, rfl, ht⟩) (fun q h => by cases h) dX2_isModel_11
set_option maxHeartbeats 4000000 in
set_option maxRecDepth 100000 in
theorem k_X2_isRow (l : Launch) (D : va_G) (S : cs_St) (th : Int32) (bd : Nat → Nat) (cy : Nat → ClassId) (v : Int32) : cs_Mi l yX2_isRow wsX2_isRow ({ frames := 1, cells := 0, slots := 0, locals := 22 }) D (cs_tys cy) [] [.int v] (cs_z (cs_in v 0 3)) := by
  refine Met.ofW (cc := cX2_isRow) (maxL := 1) (ret := (some .boolean)) (by decide) rfl ?_
  intro pg e s m args below meth c s₁ B hml hv
  obtain ⟨rfl, hE, hP, hK⟩ := hv
  have hx := B.exec
  have hb := B.bytes
  have hr := B.returns
  have hts := atoms_spec (ws := wsX2_isRow) B.pre
  have hown : s.vm.findClass RX2 = some m.cls := findClass_of_methodNamed B.named
  have hlocks := B.notSynchronized
  have hl := lv_entry ([.int v]) (n := 1) (Nat.le_of_ble_eq_true rfl)
  rw [lg_entry_eq]
  generalize (lg_sl ([.int v]) ++ List.replicate (1 - (lg_sl ([.int v])).length) Slot.unset).toArray = ls at hl ⊢
  have hl : lv_has ls 1 [(0, .int v)] := hl
  refine lv_iload_n hx hb dX2_isRow_0 rfl (lv_at hl 0 rfl) ?_
  refine lv_iconst (v := 0) hx hb dX2_isRow_1 (by decide) ?_
  refine lv_iconst (v := 3) hx hb dX2_isRow_2 (by decide) ?_
  refine vp_callSi (W.runS (As := [.int v, .int 0, .int 3]) (rest := []) ⟨hx, hb, hml, hown, hts⟩ (k_X2_in l D S th bd cy  v 0 3) (va_cwS 3 hts gX2_isRow_X2_in rfl rfl rfl (by decide +kernel) ⟨Nat.le_of_ble_eq_true rfl, Nat.le_of_ble_eq_true rfl⟩) ⟨cs_B.blind, cs_B.at hE cs_none hK⟩ rfl rfl hl.1 rfl (lv_room (Nat.le_of_ble_eq_true rfl)) dX2_isRow_3 ⟨Nat.le_of_ble_eq_true rfl, Nat.le_of_ble_eq_true rfl⟩) (fun r_3 e_3 => ?_)
  subst e_3
  exact W.zret (ty := .boolean) (v := cs_z (cs_in v 0 3)) hx hb hr (cs_z_nar (cs_in v 0 3)) (fun t ht _ => ⟨cs_z (cs_in v 0 3), rfl, rfl, ht⟩) (fun q h => by cases h) dX2_isRow_6
set_option maxHeartbeats 4000000 in
set_option maxRecDepth 100000 in
theorem k_X2_isByte (l : Launch) (D : va_G) (S : cs_St) (th : Int32) (bd : Nat → Nat) (cy : Nat → ClassId) (v : Int32) : cs_Mi l yX2_isByte wsX2_isByte ({ frames := 1, cells := 0, slots := 0, locals := 22 }) D (cs_tys cy) [] [.int v] (cs_z (cs_in v 0 255)) := by
  refine Met.ofW (cc := cX2_isByte) (maxL := 1) (ret := (some .boolean)) (by decide) rfl ?_
  intro pg e s m args below meth c s₁ B hml hv
  obtain ⟨rfl, hE, hP, hK⟩ := hv
  have hx := B.exec
  have hb := B.bytes
  have hr := B.returns
  have hts := atoms_spec (ws := wsX2_isByte) B.pre
  have hown : s.vm.findClass RX2 = some m.cls := findClass_of_methodNamed B.named
  have hlocks := B.notSynchronized
  have hl := lv_entry ([.int v]) (n := 1) (Nat.le_of_ble_eq_true rfl)
  rw [lg_entry_eq]
  generalize (lg_sl ([.int v]) ++ List.replicate (1 - (lg_sl ([.int v])).length) Slot.unset).toArray = ls at hl ⊢
  have hl : lv_has ls 1 [(0, .int v)] := hl
  refine lv_iload_n hx hb dX2_isByte_0 rfl (lv_at hl 0 rfl) ?_
  refine lv_iconst (v := 0) hx hb dX2_isByte_1 (by decide) ?_
  refine lv_sipush (v := 255) hx hb dX2_isByte_2 (by decide) ?_
  refine vp_callSi (W.runS (As := [.int v, .int 0, .int 255]) (rest := []) ⟨hx, hb, hml, hown, hts⟩ (k_X2_in l D S th bd cy  v 0 255) (va_cwS 3 hts gX2_isByte_X2_in rfl rfl rfl (by decide +kernel) ⟨Nat.le_of_ble_eq_true rfl, Nat.le_of_ble_eq_true rfl⟩) ⟨cs_B.blind, cs_B.at hE cs_none hK⟩ rfl rfl hl.1 rfl (lv_room (Nat.le_of_ble_eq_true rfl)) dX2_isByte_5 ⟨Nat.le_of_ble_eq_true rfl, Nat.le_of_ble_eq_true rfl⟩) (fun r_5 e_5 => ?_)
  subst e_5
  exact W.zret (ty := .boolean) (v := cs_z (cs_in v 0 255)) hx hb hr (cs_z_nar (cs_in v 0 255)) (fun t ht _ => ⟨cs_z (cs_in v 0 255), rfl, rfl, ht⟩) (fun q h => by cases h) dX2_isByte_8
set_option maxHeartbeats 4000000 in
set_option maxRecDepth 100000 in
theorem k_X2_hasBits (l : Launch) (D : va_G) (S : cs_St) (th : Int32) (bd : Nat → Nat) (cy : Nat → ClassId) (v u : Int32) : cs_Mi l yX2_hasBits wsX2_hasBits ({ frames := 0, cells := 0, slots := 0, locals := 0 }) D (cs_tys cy) [] [.int v, .int u] (cs_z (cs_nb v u)) := by
  refine Met.ofW (cc := cX2_hasBits) (maxL := 2) (ret := (some .boolean)) (by decide) rfl ?_
  intro pg e s m args below meth c s₁ B hml hv
  obtain ⟨rfl, hE, hP, hK⟩ := hv
  have hx := B.exec
  have hb := B.bytes
  have hr := B.returns
  have hts := atoms_spec (ws := wsX2_hasBits) B.pre
  have hown : s.vm.findClass RX2 = some m.cls := findClass_of_methodNamed B.named
  have hlocks := B.notSynchronized
  have hl := lv_entry ([.int v, .int u]) (n := 2) (Nat.le_of_ble_eq_true rfl)
  rw [lg_entry_eq]
  generalize (lg_sl ([.int v, .int u]) ++ List.replicate (2 - (lg_sl ([.int v, .int u])).length) Slot.unset).toArray = ls at hl ⊢
  have hl : lv_has ls 2 [(0, .int v), (1, .int u)] := hl
  refine lv_iload_n hx hb dX2_hasBits_0 rfl (lv_at hl 1 rfl) ?_
  refine lv_bipush (v := 32) hx hb dX2_hasBits_1 (by decide) ?_
  refine lv_icmp_eq (tgt := 12) hx hb dX2_hasBits_3 (by decide) (fun c_3 => ?_) (fun c_3 => ?_)
  · refine lv_iconst (v := 1) hx hb dX2_hasBits_12 (by decide) ?_
    refine lv_goto (tgt := 17) hx hb dX2_hasBits_13 (by decide) ?_
    exact W.zret (ty := .boolean) (v := 1) hx hb hr (rfl) (fun t ht _ => ⟨1, rfl, by unfold cs_nb; rw [decide_eq_true c_3]; rfl, ht⟩) (fun q h => by cases h) dX2_hasBits_17
  · refine lv_iload_n hx hb dX2_hasBits_6 rfl (lv_at hl 0 rfl) ?_
    refine lv_iload_n hx hb dX2_hasBits_7 rfl (lv_at hl 1 rfl) ?_
    refine lv_iushr (v := cs_ur v u) hx hb dX2_hasBits_8 rfl ?_
    refine lv_if_ne (tgt := 16) hx hb dX2_hasBits_9 (by decide) (fun c_9 => ?_) (fun c_9 => ?_)
    · refine lv_iconst (v := 0) hx hb dX2_hasBits_16 (by decide) ?_
      exact W.zret (ty := .boolean) (v := 0) hx hb hr (rfl) (fun t ht _ => ⟨0, rfl, by unfold cs_nb; rw [decide_eq_false c_3, decide_eq_false c_9]; rfl, ht⟩) (fun q h => by cases h) dX2_hasBits_17
    · refine lv_iconst (v := 1) hx hb dX2_hasBits_12 (by decide) ?_
      refine lv_goto (tgt := 17) hx hb dX2_hasBits_13 (by decide) ?_
      exact W.zret (ty := .boolean) (v := 1) hx hb hr (rfl) (fun t ht _ => ⟨1, rfl, by unfold cs_nb; rw [decide_eq_true c_9, Bool.or_true]; rfl, ht⟩) (fun q h => by cases h) dX2_hasBits_17
set_option maxHeartbeats 4000000 in
set_option maxRecDepth 100000 in
theorem k_X2_isNumber (l : Launch) (D : va_G) (S : cs_St) (th : Int32) (bd : Nat → Nat) (cy : Nat → ClassId) (hS : cs_ok S) (k : Nat) (hk : k < cs_n S) (v : Int32) : cs_Mi l yX2_isNumber wsX2_isNumber ({ frames := 1, cells := 0, slots := 0, locals := 21 }) D (cs_tys cy) (cs_R S th bd cy) [.ref (bd 0), .int (nI k), .int v] (cs_z (cs_nb v (nI (cs_w S k)))) := by
  refine Met.ofW (cc := cX2_isNumber) (maxL := 3) (ret := (some .boolean)) (by decide) rfl ?_
  intro pg e s m args below meth c s₁ B hml hv
  obtain ⟨rfl, hE, hP, hK⟩ := hv
  have hx := B.exec
  have hb := B.bytes
  have hr := B.returns
  have hts := atoms_spec (ws := wsX2_isNumber) B.pre
  have hown : s.vm.findClass RX2 = some m.cls := findClass_of_methodNamed B.named
  have hlocks := B.notSynchronized
  have hl := lv_entry ([.ref (bd 0), .int (nI k), .int v]) (n := 3) (Nat.le_of_ble_eq_true rfl)
  rw [lg_entry_eq]
  generalize (lg_sl ([.ref (bd 0), .int (nI k), .int v]) ++ List.replicate (3 - (lg_sl ([.ref (bd 0), .int (nI k), .int v])).length) Slot.unset).toArray = ls at hl ⊢
  have hl : lv_has ls 3 [(0, .ref (bd 0)), (1, .int (nI k)), (2, .int v)] := hl
  have hinX2 : ∀ w ∈ wsX20, w ∈ wsX2_isNumber := fun _ h => by unfold wsX2_isNumber; exact List.mem_cons_of_mem _ (List.mem_append_right _ h)
  have h6 := hS.1
  refine lv_iload_n hx hb dX2_isNumber_0 rfl (lv_at hl 2 rfl) ?_
  refine lv_aload_n hx hb dX2_isNumber_1 rfl (lv_at hl 0 rfl) ?_
  refine va_get (D := D) (ci := 2) (v := .ref (bd 1)) (C := RX2) (T := TX2) (N := 10) hx hb hts hinX2 hown hK hP 0 cs_R0 rfl 0 (by decide) (hts (.fieldLink RX2 7 "ChecksumLabModel" "width" "[I") (by decide +kernel)) (fun _ h9 => h9) rfl dX2_isNumber_2 ?_
  refine lv_iload_n hx hb dX2_isNumber_5 rfl (lv_at hl 1 rfl) ?_
  refine cs_iald hx hb hK hP 1 0 cs_R1 rfl (k := k) (by omega) (by decide) dX2_isNumber_6 ?_
  refine vp_callSi (W.runS (As := [.int v, .int (nI (cs_w S k))]) (rest := []) ⟨hx, hb, hml, hown, hts⟩ (k_X2_hasBits l D S th bd cy  v (nI (cs_w S k))) (va_cwS 2 hts gX2_isNumber_X2_hasBits rfl rfl rfl (by decide +kernel) ⟨Nat.le_of_ble_eq_true rfl, Nat.le_of_ble_eq_true rfl⟩) ⟨cs_B.blind, cs_B.at hE cs_none hK⟩ rfl rfl hl.1 rfl (lv_room (Nat.le_of_ble_eq_true rfl)) dX2_isNumber_7 ⟨Nat.le_of_ble_eq_true rfl, Nat.le_of_ble_eq_true rfl⟩) (fun r_7 e_7 => ?_)
  subst e_7
  exact W.zret (ty := .boolean) (v := cs_z (cs_nb v (nI (cs_w S k)))) hx hb hr (cs_z_nar (cs_nb v (nI (cs_w S k)))) (fun t ht _ => ⟨cs_z (cs_nb v (nI (cs_w S k))), rfl, rfl, ht⟩) (fun q h => by cases h) dX2_isNumber_10
set_option maxHeartbeats 4000000 in
set_option maxRecDepth 100000 in
theorem k_X2_timesX (l : Launch) (D : va_G) (S : cs_St) (th : Int32) (bd : Nat → Nat) (cy : Nat → ClassId) (hS : cs_ok S) (k : Nat) (hk : k < cs_n S) (v : Int32) : cs_Mi l yX2_timesX wsX2_timesX ({ frames := 0, cells := 0, slots := 0, locals := 0 }) D (cs_tys cy) (cs_R S th bd cy) [.ref (bd 0), .int (nI k), .int v] (cs_T (cs_w S k) (cs_p S k) v) := by
  refine Met.ofW (cc := cX2_timesX) (maxL := 5) (ret := (some .int)) (by decide) rfl ?_
  intro pg e s m args below meth c s₁ B hml hv
  obtain ⟨rfl, hE, hP, hK⟩ := hv
  have hx := B.exec
  have hb := B.bytes
  have hr := B.returns
  have hts := atoms_spec (ws := wsX2_timesX) B.pre
  have hown : s.vm.findClass RX2 = some m.cls := findClass_of_methodNamed B.named
  have hlocks := B.notSynchronized
  have hl := lv_entry ([.ref (bd 0), .int (nI k), .int v]) (n := 5) (Nat.le_of_ble_eq_true rfl)
  rw [lg_entry_eq]
  generalize (lg_sl ([.ref (bd 0), .int (nI k), .int v]) ++ List.replicate (5 - (lg_sl ([.ref (bd 0), .int (nI k), .int v])).length) Slot.unset).toArray = ls at hl ⊢
  have hl : lv_has ls 5 [(0, .ref (bd 0)), (1, .int (nI k)), (2, .int v)] := hl
  have hinX2 : ∀ w ∈ wsX20, w ∈ wsX2_timesX := fun _ h => by unfold wsX2_timesX; exact List.mem_cons_of_mem _ (List.mem_append_right _ h)
  have h6 := hS.1
  obtain ⟨hw1, hw2⟩ := hS.2.1 k hk
  have j21 : ∀ b : Bool, (b = true ↔ cs_ur v (nI (cs_w S k) - 1) &&& 1 = 1) → W pg l e (headSpec wsX2_timesX ({ frames := 0, cells := 0, slots := 0, locals := 0 })).room s m [Value.ref (bd 0), Value.int (nI k), Value.int v].toArray below meth c s.heap [] 0 0 (MQ below (vp_Si (fun rr => rr = cs_T (cs_w S k) (cs_p S k) v)) [Value.ref (bd 0), Value.int (nI k), Value.int v].toArray s 0 0 (fun _ => False)) (F0 m 21 ls [.int (cs_z b)]) := by
    intro b hbt
    refine lv_istore_n (lv' := [(3, .int (cs_z b)), (0, .ref (bd 0)), (1, .int (nI k)), (2, .int v)]) hx hb dX2_timesX_21 rfl hl (by decide) rfl (fun ls hl => ?_)
    refine lv_aload_n hx hb dX2_timesX_22 rfl (lv_at hl 1 rfl) ?_
    refine va_get (D := D) (ci := 2) (v := .ref (bd 1)) (C := RX2) (T := TX2) (N := 10) hx hb hts hinX2 hown hK hP 0 cs_R0 rfl 0 (by decide) (hts (.fieldLink RX2 7 "ChecksumLabModel" "width" "[I") (by decide +kernel)) (fun _ h9 => h9) rfl dX2_timesX_23 ?_
    refine lv_iload_n hx hb dX2_timesX_26 rfl (lv_at hl 2 rfl) ?_
    refine cs_iald hx hb hK hP 1 0 cs_R1 rfl (k := k) (by omega) (by decide) dX2_timesX_27 ?_
    refine lv_bipush (v := 32) hx hb dX2_timesX_28 (by decide) ?_
    refine lv_icmp_ne (tgt := 39) hx hb dX2_timesX_30 (by decide) (fun c_30 => ?_) (fun c_30 => ?_)
    · refine lv_iload_n hx hb dX2_timesX_39 rfl (lv_at hl 3 rfl) ?_
      refine lv_iconst (v := 1) hx hb dX2_timesX_40 (by decide) ?_
      refine lv_ishl hx hb dX2_timesX_41 ?_
      refine lv_iconst (v := 1) hx hb dX2_timesX_42 (by decide) ?_
      refine lv_aload_n hx hb dX2_timesX_43 rfl (lv_at hl 1 rfl) ?_
      refine va_get (D := D) (ci := 2) (v := .ref (bd 1)) (C := RX2) (T := TX2) (N := 10) hx hb hts hinX2 hown hK hP 0 cs_R0 rfl 0 (by decide) (hts (.fieldLink RX2 7 "ChecksumLabModel" "width" "[I") (by decide +kernel)) (fun _ h9 => h9) rfl dX2_timesX_44 ?_
      refine lv_iload_n hx hb dX2_timesX_47 rfl (lv_at hl 2 rfl) ?_
      refine cs_iald hx hb hK hP 1 0 cs_R1 rfl (k := k) (by omega) (by decide) dX2_timesX_48 ?_
      refine lv_ishl hx hb dX2_timesX_49 ?_
      refine lv_iconst (v := 1) hx hb dX2_timesX_50 (by decide) ?_
      refine lv_isub hx hb dX2_timesX_51 ?_
      refine lv_iand hx hb dX2_timesX_52 ?_
      refine lv_istore (lv' := [(4, .int ((v <<< (1 &&& 31)) &&& ((1 <<< ((nI (cs_w S k)) &&& 31)) - 1))), (3, .int (cs_z b)), (0, .ref (bd 0)), (1, .int (nI k)), (2, .int v)]) hx hb dX2_timesX_53 hl (by decide) rfl (fun ls hl => ?_)
      refine lv_iload_n hx hb dX2_timesX_55 rfl (lv_at hl 1 rfl) ?_
      refine cs_ifeq (tgt := 71) hx hb dX2_timesX_56 (by decide) (fun c_56 => ?_) (fun c_56 => ?_)
      · refine lv_iload hx hb dX2_timesX_71 (lv_at hl 0 rfl) ?_
        exact W.iret (v := (v <<< (1 &&& 31)) &&& ((1 <<< ((nI (cs_w S k)) &&& 31)) - 1)) hx hb hr (fun t ht _ => ⟨(v <<< (1 &&& 31)) &&& ((1 <<< ((nI (cs_w S k)) &&& 31)) - 1), rfl, by have h := cs_T_r (p := cs_p S k) hw1 hw2 (t := (v <<< (1 &&& 31)) &&& ((1 <<< ((nI (cs_w S k)) &&& 31)) - 1)) (by rw [cs_mkR _ (cs_lt32 hw2 c_30) hw1]) b hbt; rw [if_neg (by rw [c_56]; decide)] at h; exact h, ht⟩) (fun q h => by cases h) dX2_timesX_73
      · refine lv_iload hx hb dX2_timesX_59 (lv_at hl 0 rfl) ?_
        refine lv_aload_n hx hb dX2_timesX_61 rfl (lv_at hl 2 rfl) ?_
        refine va_get (D := D) (ci := 2) (v := .ref (bd 2)) (C := RX2) (T := TX2) (N := 10) hx hb hts hinX2 hown hK hP 0 cs_R0 rfl 1 (by decide) (hts (.fieldLink RX2 13 "ChecksumLabModel" "poly" "[I") (by decide +kernel)) (fun _ h9 => h9) rfl dX2_timesX_62 ?_
        refine lv_iload_n hx hb dX2_timesX_65 rfl (lv_at hl 3 rfl) ?_
        refine cs_iald hx hb hK hP 2 0 cs_R2 rfl (k := k) (by omega) (by decide) dX2_timesX_66 ?_
        refine lv_ixor hx hb dX2_timesX_67 ?_
        refine lv_goto (tgt := 73) hx hb dX2_timesX_68 (by decide) ?_
        exact W.iret (v := ((v <<< (1 &&& 31)) &&& ((1 <<< ((nI (cs_w S k)) &&& 31)) - 1)) ^^^ (cs_p S k)) hx hb hr (fun t ht _ => ⟨((v <<< (1 &&& 31)) &&& ((1 <<< ((nI (cs_w S k)) &&& 31)) - 1)) ^^^ (cs_p S k), rfl, by have h := cs_T_r (p := cs_p S k) hw1 hw2 (t := (v <<< (1 &&& 31)) &&& ((1 <<< ((nI (cs_w S k)) &&& 31)) - 1)) (by rw [cs_mkR _ (cs_lt32 hw2 c_30) hw1]) b hbt; rw [if_pos c_56] at h; exact h, ht⟩) (fun q h => by cases h) dX2_timesX_73
    · refine lv_iload_n hx hb dX2_timesX_33 rfl (lv_at hl 3 rfl) ?_
      refine lv_iconst (v := 1) hx hb dX2_timesX_34 (by decide) ?_
      refine lv_ishl hx hb dX2_timesX_35 ?_
      refine lv_goto (tgt := 53) hx hb dX2_timesX_36 (by decide) ?_
      refine lv_istore (lv' := [(4, .int (v <<< (1 &&& 31))), (3, .int (cs_z b)), (0, .ref (bd 0)), (1, .int (nI k)), (2, .int v)]) hx hb dX2_timesX_53 hl (by decide) rfl (fun ls hl => ?_)
      refine lv_iload_n hx hb dX2_timesX_55 rfl (lv_at hl 1 rfl) ?_
      refine cs_ifeq (tgt := 71) hx hb dX2_timesX_56 (by decide) (fun c_56 => ?_) (fun c_56 => ?_)
      · refine lv_iload hx hb dX2_timesX_71 (lv_at hl 0 rfl) ?_
        exact W.iret (v := v <<< (1 &&& 31)) hx hb hr (fun t ht _ => ⟨v <<< (1 &&& 31), rfl, by have h := cs_T_r (p := cs_p S k) hw1 hw2 (t := v <<< (1 &&& 31)) (by have e := (nI_eq (b := 32) (by omega) (by decide)).mp c_30; rw [e, cs_mk32]) b hbt; rw [if_neg (by rw [c_56]; decide)] at h; exact h, ht⟩) (fun q h => by cases h) dX2_timesX_73
      · refine lv_iload hx hb dX2_timesX_59 (lv_at hl 0 rfl) ?_
        refine lv_aload_n hx hb dX2_timesX_61 rfl (lv_at hl 2 rfl) ?_
        refine va_get (D := D) (ci := 2) (v := .ref (bd 2)) (C := RX2) (T := TX2) (N := 10) hx hb hts hinX2 hown hK hP 0 cs_R0 rfl 1 (by decide) (hts (.fieldLink RX2 13 "ChecksumLabModel" "poly" "[I") (by decide +kernel)) (fun _ h9 => h9) rfl dX2_timesX_62 ?_
        refine lv_iload_n hx hb dX2_timesX_65 rfl (lv_at hl 3 rfl) ?_
        refine cs_iald hx hb hK hP 2 0 cs_R2 rfl (k := k) (by omega) (by decide) dX2_timesX_66 ?_
        refine lv_ixor hx hb dX2_timesX_67 ?_
        refine lv_goto (tgt := 73) hx hb dX2_timesX_68 (by decide) ?_
        exact W.iret (v := (v <<< (1 &&& 31)) ^^^ (cs_p S k)) hx hb hr (fun t ht _ => ⟨(v <<< (1 &&& 31)) ^^^ (cs_p S k), rfl, by have h := cs_T_r (p := cs_p S k) hw1 hw2 (t := v <<< (1 &&& 31)) (by have e := (nI_eq (b := 32) (by omega) (by decide)).mp c_30; rw [e, cs_mk32]) b hbt; rw [if_pos c_56] at h; exact h, ht⟩) (fun q h => by cases h) dX2_timesX_73
  refine lv_iload_n hx hb dX2_timesX_0 rfl (lv_at hl 2 rfl) ?_
  refine lv_aload_n hx hb dX2_timesX_1 rfl (lv_at hl 0 rfl) ?_
  refine va_get (D := D) (ci := 2) (v := .ref (bd 1)) (C := RX2) (T := TX2) (N := 10) hx hb hts hinX2 hown hK hP 0 cs_R0 rfl 0 (by decide) (hts (.fieldLink RX2 7 "ChecksumLabModel" "width" "[I") (by decide +kernel)) (fun _ h9 => h9) rfl dX2_timesX_2 ?_
  refine lv_iload_n hx hb dX2_timesX_5 rfl (lv_at hl 1 rfl) ?_
  refine cs_iald hx hb hK hP 1 0 cs_R1 rfl (k := k) (by omega) (by decide) dX2_timesX_6 ?_
  refine lv_iconst (v := 1) hx hb dX2_timesX_7 (by decide) ?_
  refine lv_isub hx hb dX2_timesX_8 ?_
  refine lv_iushr (v := cs_ur v ((nI (cs_w S k)) - 1)) hx hb dX2_timesX_9 rfl ?_
  refine lv_iconst (v := 1) hx hb dX2_timesX_10 (by decide) ?_
  refine lv_iand hx hb dX2_timesX_11 ?_
  refine lv_iconst (v := 1) hx hb dX2_timesX_12 (by decide) ?_
  refine lv_icmp_ne (tgt := 20) hx hb dX2_timesX_13 (by decide) (fun c_13 => ?_) (fun c_13 => ?_)
  · refine lv_iconst (v := 0) hx hb dX2_timesX_20 (by decide) ?_
    exact j21 false ⟨(fun z => by cases z), (fun z => absurd z c_13)⟩ 
  · refine lv_iconst (v := 1) hx hb dX2_timesX_16 (by decide) ?_
    refine lv_goto (tgt := 21) hx hb dX2_timesX_17 (by decide) ?_
    exact j21 true ⟨fun _ => c_13, fun _ => rfl⟩ 
set_option maxHeartbeats 4000000 in
set_option maxRecDepth 100000 in
theorem k_X2_times (l : Launch) (D : va_G) (S : cs_St) (th : Int32) (bd : Nat → Nat) (cy : Nat → ClassId) (hS : cs_ok S) (k : Nat) (hk : k < cs_n S) (v u : Int32) (bi : Nat) (hbi : bi ≤ 32) : cs_Mi l yX2_times wsX2_times ({ frames := 1, cells := 0, slots := 0, locals := 24 }) D (cs_tys cy) (cs_R S th bd cy) [.ref (bd 0), .int (nI k), .int v, .int u, .int (nI bi)] (cs_mul (cs_w S k) (cs_p S k) v u bi) := by
  refine Met.ofW (cc := cX2_times) (maxL := 7) (ret := (some .int)) (by decide) rfl ?_
  intro pg e s m args below meth c s₁ B hml hv
  obtain ⟨rfl, hE, hP, hK⟩ := hv
  have hx := B.exec
  have hb := B.bytes
  have hr := B.returns
  have hts := atoms_spec (ws := wsX2_times) B.pre
  have hown : s.vm.findClass RX2 = some m.cls := findClass_of_methodNamed B.named
  have hlocks := B.notSynchronized
  have hl := lv_entry ([.ref (bd 0), .int (nI k), .int v, .int u, .int (nI bi)]) (n := 7) (Nat.le_of_ble_eq_true rfl)
  rw [lg_entry_eq]
  generalize (lg_sl ([.ref (bd 0), .int (nI k), .int v, .int u, .int (nI bi)]) ++ List.replicate (7 - (lg_sl ([.ref (bd 0), .int (nI k), .int v, .int u, .int (nI bi)])).length) Slot.unset).toArray = ls at hl ⊢
  have hl : lv_has ls 7 [(0, .ref (bd 0)), (1, .int (nI k)), (2, .int v), (3, .int u), (4, .int (nI bi))] := hl
  have hinX2 : ∀ w ∈ wsX20, w ∈ wsX2_times := fun _ h => by unfold wsX2_times; exact List.mem_cons_of_mem _ (List.mem_append_right _ h)
  have h6 := hS.1
  have loop : ∀ (n : Nat) (r : Int32) (b : Int32), b = nI n - 1 → n ≤ 32 → cs_mul (cs_w S k) (cs_p S k) v u bi = cs_pd (cs_w S k) (cs_p S k) v u n r → ∀ ls : Array Slot, lv_has ls 7 [(0, .ref (bd 0)), (1, .int (nI k)), (2, .int v), (3, .int u), (5, .int r), (6, .int b)] → W pg l e (headSpec wsX2_times ({ frames := 1, cells := 0, slots := 0, locals := 24 })).room s m [Value.ref (bd 0), Value.int (nI k), Value.int v, Value.int u, Value.int (nI bi)].toArray below meth c s.heap [] 0 0 (MQ below (vp_Si (fun rr => rr = cs_mul (cs_w S k) (cs_p S k) v u bi)) [Value.ref (bd 0), Value.int (nI k), Value.int v, Value.int u, Value.int (nI bi)].toArray s 0 0 (fun _ => False)) (F0 m 9 ls []) := by
    intro n
    induction n with
    | zero =>
      intro r b eb hn h0 ls hl
      subst eb
      refine lv_iload hx hb dX2_times_9 (lv_at hl 5 rfl) ?_
      refine lv_if_lt (tgt := 50) hx hb dX2_times_11 (by decide) (fun c_11 => ?_) (fun c_11 => ?_)
      · refine lv_iload hx hb dX2_times_50 (lv_at hl 4 rfl) ?_
        exact W.iret (v := r) hx hb hr (fun t ht _ => ⟨r, rfl, h0.symm, ht⟩) (fun q h => by cases h) dX2_times_52
      · exact absurd cs_m1 c_11
    | succ n ih =>
      intro r b eb hn h0 ls hl
      rw [nI_pred] at eb
      subst eb
      refine lv_iload hx hb dX2_times_9 (lv_at hl 5 rfl) ?_
      refine lv_if_lt (tgt := 50) hx hb dX2_times_11 (by decide) (fun c_11 => ?_) (fun c_11 => ?_)
      · exact absurd c_11 (nI_pos (by omega))
      · refine lv_aload_n hx hb dX2_times_14 rfl (lv_at hl 0 rfl) ?_
        refine lv_iload_n hx hb dX2_times_15 rfl (lv_at hl 1 rfl) ?_
        refine lv_iload hx hb dX2_times_16 (lv_at hl 4 rfl) ?_
        refine vp_callSi (W.runV (As := [.int (nI k), .int r]) (rest := []) ⟨hx, hb, hml, hown, hts⟩ (k_X2_timesX l D S th bd cy hS k hk r) (cwV 2 hts gX2_times_X2_timesX rfl rfl rfl (by decide +kernel) ⟨Nat.le_of_ble_eq_true rfl, Nat.le_of_ble_eq_true rfl⟩) ⟨cs_B.blind, va_recv hK hP (ci := 2) (q0 := 0) rfl rfl, cs_B.at hE hP hK⟩ rfl rfl hl.1 rfl (lv_room (Nat.le_of_ble_eq_true rfl)) dX2_times_18 ⟨Nat.le_of_ble_eq_true rfl, Nat.le_of_ble_eq_true rfl⟩) (fun r_18 e_18 => ?_)
        subst e_18
        refine lv_istore (lv' := [(5, .int (cs_T (cs_w S k) (cs_p S k) r)), (0, .ref (bd 0)), (1, .int (nI k)), (2, .int v), (3, .int u), (6, .int (nI n))]) hx hb dX2_times_21 hl (by decide) rfl (fun ls hl => ?_)
        refine lv_iload_n hx hb dX2_times_23 rfl (lv_at hl 4 rfl) ?_
        refine lv_iload hx hb dX2_times_24 (lv_at hl 5 rfl) ?_
        refine lv_iushr (v := cs_ur u (nI n)) hx hb dX2_times_26 rfl ?_
        refine lv_iconst (v := 1) hx hb dX2_times_27 (by decide) ?_
        refine lv_iand hx hb dX2_times_28 ?_
        refine lv_iconst (v := 1) hx hb dX2_times_29 (by decide) ?_
        refine lv_icmp_ne (tgt := 40) hx hb dX2_times_30 (by decide) (fun c_30 => ?_) (fun c_30 => ?_)
        · refine lv_iload hx hb dX2_times_40 (lv_at hl 0 rfl) ?_
          refine lv_istore (lv' := [(5, .int (cs_T (cs_w S k) (cs_p S k) r)), (0, .ref (bd 0)), (1, .int (nI k)), (2, .int v), (3, .int u), (6, .int (nI n))]) hx hb dX2_times_42 hl (by decide) rfl (fun ls hl => ?_)
          refine lv_iinc (v := (nI n) - 1) (lv' := [(6, .int ((nI n) - 1)), (5, .int (cs_T (cs_w S k) (cs_p S k) r)), (0, .ref (bd 0)), (1, .int (nI k)), (2, .int v), (3, .int u)]) hx hb dX2_times_44 hl (k := 5) rfl (cs_dec (nI n)) (by decide) rfl (fun ls hl => ?_)
          refine lv_goto (tgt := 9) hx hb dX2_times_47 (by decide) ?_
          exact ih _ _ rfl (by omega) (h0.trans (cs_pd_0 c_30)) ls (lv_sub hl [2, 3, 4, 5, 1, 0] rfl)
        · refine lv_iload hx hb dX2_times_33 (lv_at hl 0 rfl) ?_
          refine lv_iload_n hx hb dX2_times_35 rfl (lv_at hl 3 rfl) ?_
          refine lv_ixor hx hb dX2_times_36 ?_
          refine lv_goto (tgt := 42) hx hb dX2_times_37 (by decide) ?_
          refine lv_istore (lv' := [(5, .int ((cs_T (cs_w S k) (cs_p S k) r) ^^^ v)), (0, .ref (bd 0)), (1, .int (nI k)), (2, .int v), (3, .int u), (6, .int (nI n))]) hx hb dX2_times_42 hl (by decide) rfl (fun ls hl => ?_)
          refine lv_iinc (v := (nI n) - 1) (lv' := [(6, .int ((nI n) - 1)), (5, .int ((cs_T (cs_w S k) (cs_p S k) r) ^^^ v)), (0, .ref (bd 0)), (1, .int (nI k)), (2, .int v), (3, .int u)]) hx hb dX2_times_44 hl (k := 5) rfl (cs_dec (nI n)) (by decide) rfl (fun ls hl => ?_)
          refine lv_goto (tgt := 9) hx hb dX2_times_47 (by decide) ?_
          exact ih _ _ rfl (by omega) (h0.trans (cs_pd_1 c_30)) ls (lv_sub hl [2, 3, 4, 5, 1, 0] rfl)
  refine lv_iconst (v := 0) hx hb dX2_times_0 (by decide) ?_
  refine lv_istore (lv' := [(5, .int 0), (0, .ref (bd 0)), (1, .int (nI k)), (2, .int v), (3, .int u), (4, .int (nI bi))]) hx hb dX2_times_1 hl (by decide) rfl (fun ls hl => ?_)
  refine lv_iload hx hb dX2_times_3 (lv_at hl 5 rfl) ?_
  refine lv_iconst (v := 1) hx hb dX2_times_5 (by decide) ?_
  refine lv_isub hx hb dX2_times_6 ?_
  refine lv_istore (lv' := [(6, .int ((nI bi) - 1)), (5, .int 0), (0, .ref (bd 0)), (1, .int (nI k)), (2, .int v), (3, .int u), (4, .int (nI bi))]) hx hb dX2_times_7 hl (by decide) rfl (fun ls hl => ?_)
  exact loop bi 0 _ rfl hbi rfl ls (lv_sub hl [2, 3, 4, 5, 1, 0] rfl)
set_option maxHeartbeats 4000000 in
set_option maxRecDepth 100000 in
theorem k_X2_powerOf (l : Launch) (D : va_G) (S : cs_St) (th : Int32) (bd : Nat → Nat) (cy : Nat → ClassId) (hS : cs_ok S) (k : Nat) (hk : k < cs_n S) (v : Int64) : cs_Mi l yX2_powerOf wsX2_powerOf ({ frames := 2, cells := 0, slots := 0, locals := 50 }) D (cs_tys cy) (cs_R S th bd cy) [.ref (bd 0), .int (nI k), .long v] (cs_pow (cs_w S k) (cs_p S k) v) := by
  refine Met.ofW (cc := cX2_powerOf) (maxL := 6) (ret := (some .int)) (by decide) rfl ?_
  intro pg e s m args below meth c s₁ B hml hv
  obtain ⟨rfl, hE, hP, hK⟩ := hv
  have hx := B.exec
  have hb := B.bytes
  have hr := B.returns
  have hts := atoms_spec (ws := wsX2_powerOf) B.pre
  have hown : s.vm.findClass RX2 = some m.cls := findClass_of_methodNamed B.named
  have hlocks := B.notSynchronized
  have hl := lv_entry ([.ref (bd 0), .int (nI k), .long v]) (n := 6) (Nat.le_of_ble_eq_true rfl)
  rw [lg_entry_eq]
  generalize (lg_sl ([.ref (bd 0), .int (nI k), .long v]) ++ List.replicate (6 - (lg_sl ([.ref (bd 0), .int (nI k), .long v])).length) Slot.unset).toArray = ls at hl ⊢
  have hl : lv_has ls 6 [(0, .ref (bd 0)), (1, .int (nI k)), (2, .long v)] := hl
  have hinX2 : ∀ w ∈ wsX20, w ∈ wsX2_powerOf := fun _ h => by unfold wsX2_powerOf; exact List.mem_cons_of_mem _ (List.mem_append_right _ h)
  have h6 := hS.1
  obtain ⟨hw1, hw2⟩ := hS.2.1 k hk
  have loop : ∀ (n : Nat) (r : Int32) (b : Int32), b = nI n - 1 → n ≤ 63 → cs_pow (cs_w S k) (cs_p S k) v = cs_pq (cs_w S k) (cs_p S k) v n r → ∀ ls : Array Slot, lv_has ls 6 [(0, .ref (bd 0)), (1, .int (nI k)), (2, .long v), (4, .int r), (5, .int b)] → W pg l e (headSpec wsX2_powerOf ({ frames := 2, cells := 0, slots := 0, locals := 50 })).room s m [Value.ref (bd 0), Value.int (nI k), Value.long v].toArray below meth c s.heap [] 0 0 (MQ below (vp_Si (fun rr => rr = cs_pow (cs_w S k) (cs_p S k) v)) [Value.ref (bd 0), Value.int (nI k), Value.long v].toArray s 0 0 (fun _ => False)) (F0 m 7 ls []) := by
    intro n
    induction n with
    | zero =>
      intro r b eb hn h0 ls hl
      subst eb
      refine lv_iload hx hb dX2_powerOf_7 (lv_at hl 4 rfl) ?_
      refine lv_if_lt (tgt := 60) hx hb dX2_powerOf_9 (by decide) (fun c_9 => ?_) (fun c_9 => ?_)
      · refine lv_iload hx hb dX2_powerOf_60 (lv_at hl 3 rfl) ?_
        exact W.iret (v := r) hx hb hr (fun t ht _ => ⟨r, rfl, h0.symm, ht⟩) (fun q h => by cases h) dX2_powerOf_62
      · exact absurd cs_m1 c_9
    | succ n ih =>
      intro r b eb hn h0 ls hl
      rw [nI_pred] at eb
      subst eb
      refine lv_iload hx hb dX2_powerOf_7 (lv_at hl 4 rfl) ?_
      refine lv_if_lt (tgt := 60) hx hb dX2_powerOf_9 (by decide) (fun c_9 => ?_) (fun c_9 => ?_)
      · exact absurd c_9 (nI_pos (by omega))
      · refine lv_aload_n hx hb dX2_powerOf_12 rfl (lv_at hl 0 rfl) ?_
        refine lv_iload_n hx hb dX2_powerOf_13 rfl (lv_at hl 1 rfl) ?_
        refine lv_iload hx hb dX2_powerOf_14 (lv_at hl 3 rfl) ?_
        refine lv_iload hx hb dX2_powerOf_16 (lv_at hl 3 rfl) ?_
        refine lv_aload_n hx hb dX2_powerOf_18 rfl (lv_at hl 0 rfl) ?_
        refine va_get (D := D) (ci := 2) (v := .ref (bd 1)) (C := RX2) (T := TX2) (N := 10) hx hb hts hinX2 hown hK hP 0 cs_R0 rfl 0 (by decide) (hts (.fieldLink RX2 7 "ChecksumLabModel" "width" "[I") (by decide +kernel)) (fun _ h9 => h9) rfl dX2_powerOf_19 ?_
        refine lv_iload_n hx hb dX2_powerOf_22 rfl (lv_at hl 1 rfl) ?_
        refine cs_iald hx hb hK hP 1 0 cs_R1 rfl (k := k) (by omega) (by decide) dX2_powerOf_23 ?_
        refine vp_callSi (W.runV (As := [.int (nI k), .int r, .int r, .int (nI (cs_w S k))]) (rest := []) ⟨hx, hb, hml, hown, hts⟩ (k_X2_times l D S th bd cy hS k hk r r (cs_w S k) hw2) (cwV 4 hts gX2_powerOf_X2_times rfl rfl rfl (by decide +kernel) ⟨Nat.le_of_ble_eq_true rfl, Nat.le_of_ble_eq_true rfl⟩) ⟨cs_B.blind, va_recv hK hP (ci := 2) (q0 := 0) rfl rfl, cs_B.at hE hP hK⟩ rfl rfl hl.1 rfl (lv_room (Nat.le_of_ble_eq_true rfl)) dX2_powerOf_24 ⟨Nat.le_of_ble_eq_true rfl, Nat.le_of_ble_eq_true rfl⟩) (fun r_24 e_24 => ?_)
        subst e_24
        refine lv_istore (lv' := [(4, .int (cs_mul (cs_w S k) (cs_p S k) r r (cs_w S k))), (0, .ref (bd 0)), (1, .int (nI k)), (2, .long v), (5, .int (nI n))]) hx hb dX2_powerOf_27 hl (by decide) rfl (fun ls hl => ?_)
        refine lv_lload_n hx hb dX2_powerOf_29 rfl (lv_at hl 3 rfl) ?_
        refine lv_iload hx hb dX2_powerOf_30 (lv_at hl 4 rfl) ?_
        refine lv_lshr (v := v >>> ((nI n).toInt64 &&& 63)) hx hb dX2_powerOf_32 rfl ?_
        refine lv_lconst (v := 1) hx hb dX2_powerOf_33 (by decide) ?_
        refine lv_land hx hb dX2_powerOf_34 ?_
        refine lv_lconst (v := 1) hx hb dX2_powerOf_35 (by decide) ?_
        refine W.lcmp hx hb dX2_powerOf_36 ?_
        refine lv_if_ne (tgt := 50) hx hb dX2_powerOf_37 (by decide) (fun c_37 => ?_) (fun c_37 => ?_)
        · refine lv_iload hx hb dX2_powerOf_50 (lv_at hl 0 rfl) ?_
          refine lv_istore (lv' := [(4, .int (cs_mul (cs_w S k) (cs_p S k) r r (cs_w S k))), (0, .ref (bd 0)), (1, .int (nI k)), (2, .long v), (5, .int (nI n))]) hx hb dX2_powerOf_52 hl (by decide) rfl (fun ls hl => ?_)
          refine lv_iinc (v := (nI n) - 1) (lv' := [(5, .int ((nI n) - 1)), (4, .int (cs_mul (cs_w S k) (cs_p S k) r r (cs_w S k))), (0, .ref (bd 0)), (1, .int (nI k)), (2, .long v)]) hx hb dX2_powerOf_54 hl (k := 4) rfl (cs_dec (nI n)) (by decide) rfl (fun ls hl => ?_)
          refine lv_goto (tgt := 7) hx hb dX2_powerOf_57 (by decide) ?_
          exact ih _ _ rfl (by omega) (h0.trans (cs_pq_0 (fun z => c_37 ((lg_cmp_eq _ _).mpr ((cs_lbR v n (by omega)).trans z))))) ls (lv_sub hl [2, 3, 4, 1, 0] rfl)
        · refine lv_aload_n hx hb dX2_powerOf_40 rfl (lv_at hl 1 rfl) ?_
          refine lv_iload_n hx hb dX2_powerOf_41 rfl (lv_at hl 2 rfl) ?_
          refine lv_iload hx hb dX2_powerOf_42 (lv_at hl 0 rfl) ?_
          refine vp_callSi (W.runV (As := [.int (nI k), .int (cs_mul (cs_w S k) (cs_p S k) r r (cs_w S k))]) (rest := []) ⟨hx, hb, hml, hown, hts⟩ (k_X2_timesX l D S th bd cy hS k hk (cs_mul (cs_w S k) (cs_p S k) r r (cs_w S k))) (cwV 2 hts gX2_powerOf_X2_timesX rfl rfl rfl (by decide +kernel) ⟨Nat.le_of_ble_eq_true rfl, Nat.le_of_ble_eq_true rfl⟩) ⟨cs_B.blind, va_recv hK hP (ci := 2) (q0 := 0) rfl rfl, cs_B.at hE hP hK⟩ rfl rfl hl.1 rfl (lv_room (Nat.le_of_ble_eq_true rfl)) dX2_powerOf_44 ⟨Nat.le_of_ble_eq_true rfl, Nat.le_of_ble_eq_true rfl⟩) (fun r_44 e_44 => ?_)
          subst e_44
          refine lv_goto (tgt := 52) hx hb dX2_powerOf_47 (by decide) ?_
          refine lv_istore (lv' := [(4, .int (cs_T (cs_w S k) (cs_p S k) (cs_mul (cs_w S k) (cs_p S k) r r (cs_w S k)))), (0, .ref (bd 0)), (1, .int (nI k)), (2, .long v), (5, .int (nI n))]) hx hb dX2_powerOf_52 hl (by decide) rfl (fun ls hl => ?_)
          refine lv_iinc (v := (nI n) - 1) (lv' := [(5, .int ((nI n) - 1)), (4, .int (cs_T (cs_w S k) (cs_p S k) (cs_mul (cs_w S k) (cs_p S k) r r (cs_w S k)))), (0, .ref (bd 0)), (1, .int (nI k)), (2, .long v)]) hx hb dX2_powerOf_54 hl (k := 4) rfl (cs_dec (nI n)) (by decide) rfl (fun ls hl => ?_)
          refine lv_goto (tgt := 7) hx hb dX2_powerOf_57 (by decide) ?_
          exact ih _ _ rfl (by omega) (h0.trans (cs_pq_1 ((cs_lbR v n (by omega)).symm.trans ((lg_cmp_eq _ _).mp c_37)))) ls (lv_sub hl [2, 3, 4, 1, 0] rfl)
  refine lv_iconst (v := 1) hx hb dX2_powerOf_0 (by decide) ?_
  refine lv_istore (lv' := [(4, .int 1), (0, .ref (bd 0)), (1, .int (nI k)), (2, .long v)]) hx hb dX2_powerOf_1 hl (by decide) rfl (fun ls hl => ?_)
  refine lv_bipush (v := 62) hx hb dX2_powerOf_3 (by decide) ?_
  refine lv_istore (lv' := [(5, .int 62), (4, .int 1), (0, .ref (bd 0)), (1, .int (nI k)), (2, .long v)]) hx hb dX2_powerOf_5 hl (by decide) rfl (fun ls hl => ?_)
  exact loop 63 1 _ (by decide) (by decide) rfl ls (lv_sub hl [2, 3, 4, 1, 0] rfl)
set_option maxHeartbeats 4000000 in
set_option maxRecDepth 100000 in
theorem k_X2_reversed (l : Launch) (D : va_G) (S : cs_St) (th : Int32) (bd : Nat → Nat) (cy : Nat → ClassId) (v : Int32) (b0 : Nat) (hb0 : b0 ≤ 32) : cs_Mi l yX2_reversed wsX2_reversed ({ frames := 0, cells := 0, slots := 0, locals := 0 }) D (cs_tys cy) [] [.int v, .int (nI b0)] (cs_rv v b0) := by
  refine Met.ofW (cc := cX2_reversed) (maxL := 4) (ret := (some .int)) (by decide) rfl ?_
  intro pg e s m args below meth c s₁ B hml hv
  obtain ⟨rfl, hE, hP, hK⟩ := hv
  have hx := B.exec
  have hb := B.bytes
  have hr := B.returns
  have hts := atoms_spec (ws := wsX2_reversed) B.pre
  have hown : s.vm.findClass RX2 = some m.cls := findClass_of_methodNamed B.named
  have hlocks := B.notSynchronized
  have hl := lv_entry ([.int v, .int (nI b0)]) (n := 4) (Nat.le_of_ble_eq_true rfl)
  rw [lg_entry_eq]
  generalize (lg_sl ([.int v, .int (nI b0)]) ++ List.replicate (4 - (lg_sl ([.int v, .int (nI b0)])).length) Slot.unset).toArray = ls at hl ⊢
  have hl : lv_has ls 4 [(0, .int v), (1, .int (nI b0))] := hl
  have loop : ∀ (n i : Nat), i + n = b0 → ∀ ls : Array Slot, lv_has ls 4 [(0, .int v), (1, .int (nI b0)), (2, .int (cs_rw v (nI b0) i)), (3, .int (nI i))] → W pg l e (headSpec wsX2_reversed ({ frames := 0, cells := 0, slots := 0, locals := 0 })).room s m [Value.int v, Value.int (nI b0)].toArray below meth c s.heap [] 0 0 (MQ below (vp_Si (fun rr => rr = cs_rv v b0)) [Value.int v, Value.int (nI b0)].toArray s 0 0 (fun _ => False)) (F0 m 4 ls []) := by
    intro n
    induction n with
    | zero =>
      intro i hi   ls hl
      rw [Nat.add_zero] at hi
      subst hi
      refine lv_iload_n hx hb dX2_reversed_4 rfl (lv_at hl 3 rfl) ?_
      refine lv_iload_n hx hb dX2_reversed_5 rfl (lv_at hl 1 rfl) ?_
      refine lv_icmp_ge (tgt := 29) hx hb dX2_reversed_6 (by decide) (fun c_6 => ?_) (fun c_6 => ?_)
      · refine lv_iload_n hx hb dX2_reversed_29 rfl (lv_at hl 2 rfl) ?_
        exact W.iret (v := cs_rw v (nI i) i) hx hb hr (fun t ht _ => ⟨cs_rw v (nI i) i, rfl, cs_rw_rv v _ hb0, ht⟩) (fun q h => by cases h) dX2_reversed_30
      · exact absurd (nI_le (a := _) (b := _) (Nat.le_refl _) (by omega)) c_6
    | succ n ih =>
      intro i hi   ls hl
      refine lv_iload_n hx hb dX2_reversed_4 rfl (lv_at hl 3 rfl) ?_
      refine lv_iload_n hx hb dX2_reversed_5 rfl (lv_at hl 1 rfl) ?_
      refine lv_icmp_ge (tgt := 29) hx hb dX2_reversed_6 (by decide) (fun c_6 => ?_) (fun c_6 => ?_)
      · exact absurd c_6 (nI_ge (a := i) (b := b0) (by omega) (by omega))
      · refine lv_iload_n hx hb dX2_reversed_9 rfl (lv_at hl 2 rfl) ?_
        refine lv_iload_n hx hb dX2_reversed_10 rfl (lv_at hl 0 rfl) ?_
        refine lv_iload_n hx hb dX2_reversed_11 rfl (lv_at hl 3 rfl) ?_
        refine lv_iushr (v := cs_ur v (nI i)) hx hb dX2_reversed_12 rfl ?_
        refine lv_iconst (v := 1) hx hb dX2_reversed_13 (by decide) ?_
        refine lv_iand hx hb dX2_reversed_14 ?_
        refine lv_iload_n hx hb dX2_reversed_15 rfl (lv_at hl 1 rfl) ?_
        refine lv_iconst (v := 1) hx hb dX2_reversed_16 (by decide) ?_
        refine lv_isub hx hb dX2_reversed_17 ?_
        refine lv_iload_n hx hb dX2_reversed_18 rfl (lv_at hl 3 rfl) ?_
        refine lv_isub hx hb dX2_reversed_19 ?_
        refine lv_ishl hx hb dX2_reversed_20 ?_
        refine lv_ior hx hb dX2_reversed_21 ?_
        refine lv_istore_n (lv' := [(2, .int ((cs_rw v (nI b0) i) ||| (((cs_ur v (nI i)) &&& 1) <<< ((((nI b0) - 1) - (nI i)) &&& 31)))), (0, .int v), (1, .int (nI b0)), (3, .int (nI i))]) hx hb dX2_reversed_22 rfl hl (by decide) rfl (fun ls hl => ?_)
        refine lv_iinc (v := nI (i + 1)) (lv' := [(3, .int (nI (i + 1))), (2, .int ((cs_rw v (nI b0) i) ||| (((cs_ur v (nI i)) &&& 1) <<< ((((nI b0) - 1) - (nI i)) &&& 31)))), (0, .int v), (1, .int (nI b0))]) hx hb dX2_reversed_23 hl (k := 3) rfl (cs_inc1 i) (by decide) rfl (fun ls hl => ?_)
        refine lv_goto (tgt := 4) hx hb dX2_reversed_26 (by decide) ?_
        exact ih (i + 1) (by omega) ls (lv_sub hl [2, 3, 1, 0] rfl)
  refine lv_iconst (v := 0) hx hb dX2_reversed_0 (by decide) ?_
  refine lv_istore_n (lv' := [(2, .int 0), (0, .int v), (1, .int (nI b0))]) hx hb dX2_reversed_1 rfl hl (by decide) rfl (fun ls hl => ?_)
  refine lv_iconst (v := 0) hx hb dX2_reversed_2 (by decide) ?_
  refine lv_istore_n (lv' := [(3, .int 0), (2, .int 0), (0, .int v), (1, .int (nI b0))]) hx hb dX2_reversed_3 rfl hl (by decide) rfl (fun ls hl => ?_)
  exact loop b0 0 (by omega) ls (lv_sub hl [2, 3, 1, 0] rfl)
set_option maxHeartbeats 4000000 in
set_option maxRecDepth 100000 in
theorem k_X2_registerOf (l : Launch) (D : va_G) (S : cs_St) (th : Int32) (bd : Nat → Nat) (cy : Nat → ClassId) (hS : cs_ok S) (k : Nat) (hk : k < cs_n S) (v : Int32) : cs_Mi l yX2_registerOf wsX2_registerOf ({ frames := 1, cells := 0, slots := 0, locals := 23 }) D (cs_tys cy) (cs_R S th bd cy) [.ref (bd 0), .int (nI k), .int v] (cs_so (cs_ro S k) (cs_w S k) (v ^^^ cs_x S k)) := by
  refine Met.ofW (cc := cX2_registerOf) (maxL := 4) (ret := (some .int)) (by decide) rfl ?_
  intro pg e s m args below meth c s₁ B hml hv
  obtain ⟨rfl, hE, hP, hK⟩ := hv
  have hx := B.exec
  have hb := B.bytes
  have hr := B.returns
  have hts := atoms_spec (ws := wsX2_registerOf) B.pre
  have hown : s.vm.findClass RX2 = some m.cls := findClass_of_methodNamed B.named
  have hlocks := B.notSynchronized
  have hl := lv_entry ([.ref (bd 0), .int (nI k), .int v]) (n := 4) (Nat.le_of_ble_eq_true rfl)
  rw [lg_entry_eq]
  generalize (lg_sl ([.ref (bd 0), .int (nI k), .int v]) ++ List.replicate (4 - (lg_sl ([.ref (bd 0), .int (nI k), .int v])).length) Slot.unset).toArray = ls at hl ⊢
  have hl : lv_has ls 4 [(0, .ref (bd 0)), (1, .int (nI k)), (2, .int v)] := hl
  have hinX2 : ∀ w ∈ wsX20, w ∈ wsX2_registerOf := fun _ h => by unfold wsX2_registerOf; exact List.mem_cons_of_mem _ (List.mem_append_right _ h)
  have h6 := hS.1
  obtain ⟨hw1, hw2⟩ := hS.2.1 k hk
  refine lv_iload_n hx hb dX2_registerOf_0 rfl (lv_at hl 2 rfl) ?_
  refine lv_aload_n hx hb dX2_registerOf_1 rfl (lv_at hl 0 rfl) ?_
  refine va_get (D := D) (ci := 2) (v := .ref (bd 4)) (C := RX2) (T := TX2) (N := 10) hx hb hts hinX2 hown hK hP 0 cs_R0 rfl 3 (by decide) (hts (.fieldLink RX2 19 "ChecksumLabModel" "xorOut" "[I") (by decide +kernel)) (fun _ h9 => h9) rfl dX2_registerOf_2 ?_
  refine lv_iload_n hx hb dX2_registerOf_5 rfl (lv_at hl 1 rfl) ?_
  refine cs_iald hx hb hK hP 4 0 cs_R4 rfl (k := k) (by omega) (by decide) dX2_registerOf_6 ?_
  refine lv_ixor hx hb dX2_registerOf_7 ?_
  refine lv_istore_n (lv' := [(3, .int (v ^^^ (cs_x S k))), (0, .ref (bd 0)), (1, .int (nI k)), (2, .int v)]) hx hb dX2_registerOf_8 rfl hl (by decide) rfl (fun ls hl => ?_)
  refine lv_aload_n hx hb dX2_registerOf_9 rfl (lv_at hl 1 rfl) ?_
  refine va_get (D := D) (ci := 2) (v := .ref (bd 6)) (C := RX2) (T := TX2) (N := 10) hx hb hts hinX2 hown hK hP 0 cs_R0 rfl 5 (by decide) (hts (.fieldLink RX2 26 "ChecksumLabModel" "reflectOut" "[Z") (by decide +kernel)) (fun _ h9 => h9) rfl dX2_registerOf_10 ?_
  refine lv_iload_n hx hb dX2_registerOf_13 rfl (lv_at hl 2 rfl) ?_
  refine cs_zald hx hb hK hP 6 1 cs_R6 rfl (k := k) (by omega) (by decide) dX2_registerOf_14 ?_
  refine cs_ifeq (tgt := 31) hx hb dX2_registerOf_15 (by decide) (fun c_15 => ?_) (fun c_15 => ?_)
  · refine lv_iload_n hx hb dX2_registerOf_31 rfl (lv_at hl 0 rfl) ?_
    exact W.iret (v := v ^^^ (cs_x S k)) hx hb hr (fun t ht _ => ⟨v ^^^ (cs_x S k), rfl, (if_neg (by rw [c_15]; decide)).symm, ht⟩) (fun q h => by cases h) dX2_registerOf_32
  · refine lv_iload_n hx hb dX2_registerOf_18 rfl (lv_at hl 0 rfl) ?_
    refine lv_aload_n hx hb dX2_registerOf_19 rfl (lv_at hl 1 rfl) ?_
    refine va_get (D := D) (ci := 2) (v := .ref (bd 1)) (C := RX2) (T := TX2) (N := 10) hx hb hts hinX2 hown hK hP 0 cs_R0 rfl 0 (by decide) (hts (.fieldLink RX2 7 "ChecksumLabModel" "width" "[I") (by decide +kernel)) (fun _ h9 => h9) rfl dX2_registerOf_20 ?_
    refine lv_iload_n hx hb dX2_registerOf_23 rfl (lv_at hl 2 rfl) ?_
    refine cs_iald hx hb hK hP 1 0 cs_R1 rfl (k := k) (by omega) (by decide) dX2_registerOf_24 ?_
    refine vp_callSi (W.runS (As := [.int (v ^^^ (cs_x S k)), .int (nI (cs_w S k))]) (rest := []) ⟨hx, hb, hml, hown, hts⟩ (k_X2_reversed l D S th bd cy (v ^^^ (cs_x S k)) (cs_w S k) hw2) (va_cwS 2 hts gX2_registerOf_X2_reversed rfl rfl rfl (by decide +kernel) ⟨Nat.le_of_ble_eq_true rfl, Nat.le_of_ble_eq_true rfl⟩) ⟨cs_B.blind, cs_B.at hE cs_none hK⟩ rfl rfl hl.1 rfl (lv_room (Nat.le_of_ble_eq_true rfl)) dX2_registerOf_25 ⟨Nat.le_of_ble_eq_true rfl, Nat.le_of_ble_eq_true rfl⟩) (fun r_25 e_25 => ?_)
    subst e_25
    refine lv_goto (tgt := 32) hx hb dX2_registerOf_28 (by decide) ?_
    exact W.iret (v := cs_rv (v ^^^ (cs_x S k)) (cs_w S k)) hx hb hr (fun t ht _ => ⟨cs_rv (v ^^^ (cs_x S k)) (cs_w S k), rfl, (if_pos c_15).symm, ht⟩) (fun q h => by cases h) dX2_registerOf_32
set_option maxHeartbeats 4000000 in
set_option maxRecDepth 100000 in
theorem k_X2_sumOf (l : Launch) (D : va_G) (S : cs_St) (th : Int32) (bd : Nat → Nat) (cy : Nat → ClassId) (hS : cs_ok S) (k : Nat) (hk : k < cs_n S) (v : Int32) : cs_Mi l yX2_sumOf wsX2_sumOf ({ frames := 1, cells := 0, slots := 0, locals := 23 }) D (cs_tys cy) (cs_R S th bd cy) [.ref (bd 0), .int (nI k), .int v] (cs_so (cs_ro S k) (cs_w S k) v ^^^ cs_x S k) := by
  refine Met.ofW (cc := cX2_sumOf) (maxL := 4) (ret := (some .int)) (by decide) rfl ?_
  intro pg e s m args below meth c s₁ B hml hv
  obtain ⟨rfl, hE, hP, hK⟩ := hv
  have hx := B.exec
  have hb := B.bytes
  have hr := B.returns
  have hts := atoms_spec (ws := wsX2_sumOf) B.pre
  have hown : s.vm.findClass RX2 = some m.cls := findClass_of_methodNamed B.named
  have hlocks := B.notSynchronized
  have hl := lv_entry ([.ref (bd 0), .int (nI k), .int v]) (n := 4) (Nat.le_of_ble_eq_true rfl)
  rw [lg_entry_eq]
  generalize (lg_sl ([.ref (bd 0), .int (nI k), .int v]) ++ List.replicate (4 - (lg_sl ([.ref (bd 0), .int (nI k), .int v])).length) Slot.unset).toArray = ls at hl ⊢
  have hl : lv_has ls 4 [(0, .ref (bd 0)), (1, .int (nI k)), (2, .int v)] := hl
  have hinX2 : ∀ w ∈ wsX20, w ∈ wsX2_sumOf := fun _ h => by unfold wsX2_sumOf; exact List.mem_cons_of_mem _ (List.mem_append_right _ h)
  have h6 := hS.1
  obtain ⟨hw1, hw2⟩ := hS.2.1 k hk
  refine lv_aload_n hx hb dX2_sumOf_0 rfl (lv_at hl 0 rfl) ?_
  refine va_get (D := D) (ci := 2) (v := .ref (bd 6)) (C := RX2) (T := TX2) (N := 10) hx hb hts hinX2 hown hK hP 0 cs_R0 rfl 5 (by decide) (hts (.fieldLink RX2 26 "ChecksumLabModel" "reflectOut" "[Z") (by decide +kernel)) (fun _ h9 => h9) rfl dX2_sumOf_1 ?_
  refine lv_iload_n hx hb dX2_sumOf_4 rfl (lv_at hl 1 rfl) ?_
  refine cs_zald hx hb hK hP 6 1 cs_R6 rfl (k := k) (by omega) (by decide) dX2_sumOf_5 ?_
  refine cs_ifeq (tgt := 22) hx hb dX2_sumOf_6 (by decide) (fun c_6 => ?_) (fun c_6 => ?_)
  · refine lv_iload_n hx hb dX2_sumOf_22 rfl (lv_at hl 2 rfl) ?_
    refine lv_istore_n (lv' := [(3, .int v), (0, .ref (bd 0)), (1, .int (nI k)), (2, .int v)]) hx hb dX2_sumOf_23 rfl hl (by decide) rfl (fun ls hl => ?_)
    refine lv_iload_n hx hb dX2_sumOf_24 rfl (lv_at hl 0 rfl) ?_
    refine lv_aload_n hx hb dX2_sumOf_25 rfl (lv_at hl 1 rfl) ?_
    refine va_get (D := D) (ci := 2) (v := .ref (bd 4)) (C := RX2) (T := TX2) (N := 10) hx hb hts hinX2 hown hK hP 0 cs_R0 rfl 3 (by decide) (hts (.fieldLink RX2 19 "ChecksumLabModel" "xorOut" "[I") (by decide +kernel)) (fun _ h9 => h9) rfl dX2_sumOf_26 ?_
    refine lv_iload_n hx hb dX2_sumOf_29 rfl (lv_at hl 2 rfl) ?_
    refine cs_iald hx hb hK hP 4 0 cs_R4 rfl (k := k) (by omega) (by decide) dX2_sumOf_30 ?_
    refine lv_ixor hx hb dX2_sumOf_31 ?_
    exact W.iret (v := v ^^^ (cs_x S k)) hx hb hr (fun t ht _ => ⟨v ^^^ (cs_x S k), rfl, by unfold cs_so; rw [if_neg (by rw [c_6]; decide)], ht⟩) (fun q h => by cases h) dX2_sumOf_32
  · refine lv_iload_n hx hb dX2_sumOf_9 rfl (lv_at hl 2 rfl) ?_
    refine lv_aload_n hx hb dX2_sumOf_10 rfl (lv_at hl 0 rfl) ?_
    refine va_get (D := D) (ci := 2) (v := .ref (bd 1)) (C := RX2) (T := TX2) (N := 10) hx hb hts hinX2 hown hK hP 0 cs_R0 rfl 0 (by decide) (hts (.fieldLink RX2 7 "ChecksumLabModel" "width" "[I") (by decide +kernel)) (fun _ h9 => h9) rfl dX2_sumOf_11 ?_
    refine lv_iload_n hx hb dX2_sumOf_14 rfl (lv_at hl 1 rfl) ?_
    refine cs_iald hx hb hK hP 1 0 cs_R1 rfl (k := k) (by omega) (by decide) dX2_sumOf_15 ?_
    refine vp_callSi (W.runS (As := [.int v, .int (nI (cs_w S k))]) (rest := []) ⟨hx, hb, hml, hown, hts⟩ (k_X2_reversed l D S th bd cy v (cs_w S k) hw2) (va_cwS 2 hts gX2_sumOf_X2_reversed rfl rfl rfl (by decide +kernel) ⟨Nat.le_of_ble_eq_true rfl, Nat.le_of_ble_eq_true rfl⟩) ⟨cs_B.blind, cs_B.at hE cs_none hK⟩ rfl rfl hl.1 rfl (lv_room (Nat.le_of_ble_eq_true rfl)) dX2_sumOf_16 ⟨Nat.le_of_ble_eq_true rfl, Nat.le_of_ble_eq_true rfl⟩) (fun r_16 e_16 => ?_)
    subst e_16
    refine lv_goto (tgt := 23) hx hb dX2_sumOf_19 (by decide) ?_
    refine lv_istore_n (lv' := [(3, .int (cs_rv v (cs_w S k))), (0, .ref (bd 0)), (1, .int (nI k)), (2, .int v)]) hx hb dX2_sumOf_23 rfl hl (by decide) rfl (fun ls hl => ?_)
    refine lv_iload_n hx hb dX2_sumOf_24 rfl (lv_at hl 0 rfl) ?_
    refine lv_aload_n hx hb dX2_sumOf_25 rfl (lv_at hl 1 rfl) ?_
    refine va_get (D := D) (ci := 2) (v := .ref (bd 4)) (C := RX2) (T := TX2) (N := 10) hx hb hts hinX2 hown hK hP 0 cs_R0 rfl 3 (by decide) (hts (.fieldLink RX2 19 "ChecksumLabModel" "xorOut" "[I") (by decide +kernel)) (fun _ h9 => h9) rfl dX2_sumOf_26 ?_
    refine lv_iload_n hx hb dX2_sumOf_29 rfl (lv_at hl 2 rfl) ?_
    refine cs_iald hx hb hK hP 4 0 cs_R4 rfl (k := k) (by omega) (by decide) dX2_sumOf_30 ?_
    refine lv_ixor hx hb dX2_sumOf_31 ?_
    exact W.iret (v := (cs_rv v (cs_w S k)) ^^^ (cs_x S k)) hx hb hr (fun t ht _ => ⟨(cs_rv v (cs_w S k)) ^^^ (cs_x S k), rfl, by unfold cs_so; rw [if_pos c_6], ht⟩) (fun q h => by cases h) dX2_sumOf_32
set_option maxHeartbeats 4000000 in
set_option maxRecDepth 100000 in
theorem k_X2_takes (l : Launch) (D : va_G) (S : cs_St) (th : Int32) (bd : Nat → Nat) (cy : Nat → ClassId) (hS : cs_ok S) (k : Nat) (hk : k < cs_n S) (v : Int32) (bb : Nat) (hbb : bb < 256) : cs_Mi l yX2_takes wsX2_takes ({ frames := 1, cells := 0, slots := 0, locals := 24 }) D (cs_tys cy) (cs_R S th bd cy) [.ref (bd 0), .int (nI k), .int v, .int (nI bb)] (cs_tk (cs_w S k) (cs_p S k) (cs_ri S k) v (nI bb)) := by
  refine Met.ofW (cc := cX2_takes) (maxL := 7) (ret := (some .int)) (by decide) rfl ?_
  intro pg e s m args below meth c s₁ B hml hv
  obtain ⟨rfl, hE, hP, hK⟩ := hv
  have hx := B.exec
  have hb := B.bytes
  have hr := B.returns
  have hts := atoms_spec (ws := wsX2_takes) B.pre
  have hown : s.vm.findClass RX2 = some m.cls := findClass_of_methodNamed B.named
  have hlocks := B.notSynchronized
  have hl := lv_entry ([.ref (bd 0), .int (nI k), .int v, .int (nI bb)]) (n := 7) (Nat.le_of_ble_eq_true rfl)
  rw [lg_entry_eq]
  generalize (lg_sl ([.ref (bd 0), .int (nI k), .int v, .int (nI bb)]) ++ List.replicate (7 - (lg_sl ([.ref (bd 0), .int (nI k), .int v, .int (nI bb)])).length) Slot.unset).toArray = ls at hl ⊢
  have hl : lv_has ls 7 [(0, .ref (bd 0)), (1, .int (nI k)), (2, .int v), (3, .int (nI bb))] := hl
  have hinX2 : ∀ w ∈ wsX20, w ∈ wsX2_takes := fun _ h => by unfold wsX2_takes; exact List.mem_cons_of_mem _ (List.mem_append_right _ h)
  have h6 := hS.1
  have loop : ∀ (n i : Nat), i + n = 8 → ∀ ls : Array Slot, lv_has ls 7 [(0, .ref (bd 0)), (1, .int (nI k)), (3, .int (nI bb)), (4, .int (cs_tz (cs_w S k) (cs_p S k) (cs_ri S k) (nI bb) v i)), (5, .int (nI i))] → W pg l e (headSpec wsX2_takes ({ frames := 1, cells := 0, slots := 0, locals := 24 })).room s m [Value.ref (bd 0), Value.int (nI k), Value.int v, Value.int (nI bb)].toArray below meth c s.heap [] 0 0 (MQ below (vp_Si (fun rr => rr = cs_tk (cs_w S k) (cs_p S k) (cs_ri S k) v (nI bb))) [Value.ref (bd 0), Value.int (nI k), Value.int v, Value.int (nI bb)].toArray s 0 0 (fun _ => False)) (F0 m 6 ls []) := by
    intro n
    induction n with
    | zero =>
      intro i hi   ls hl
      rw [Nat.add_zero] at hi
      subst hi
      refine lv_iload hx hb dX2_takes_6 (lv_at hl 4 rfl) ?_
      refine lv_bipush (v := 8) hx hb dX2_takes_8 (by decide) ?_
      refine lv_icmp_ge (tgt := 65) hx hb dX2_takes_10 (by decide) (fun c_10 => ?_) (fun c_10 => ?_)
      · refine lv_iload hx hb dX2_takes_65 (lv_at hl 3 rfl) ?_
        exact W.iret (v := cs_tz (cs_w S k) (cs_p S k) (cs_ri S k) (nI bb) v 8) hx hb hr (fun t ht _ => ⟨cs_tz (cs_w S k) (cs_p S k) (cs_ri S k) (nI bb) v 8, rfl, cs_tz8 hbb, ht⟩) (fun q h => by cases h) dX2_takes_67
      · exact absurd (nI_le (a := 8) (b := 8) (Nat.le_refl _) (by omega)) c_10
    | succ n ih =>
      intro i hi   ls hl
      refine lv_iload hx hb dX2_takes_6 (lv_at hl 4 rfl) ?_
      refine lv_bipush (v := 8) hx hb dX2_takes_8 (by decide) ?_
      refine lv_icmp_ge (tgt := 65) hx hb dX2_takes_10 (by decide) (fun c_10 => ?_) (fun c_10 => ?_)
      · exact absurd c_10 (nI_ge (a := i) (b := 8) (by omega) (by omega))
      · refine lv_iload_n hx hb dX2_takes_13 rfl (lv_at hl 2 rfl) ?_
        refine lv_aload_n hx hb dX2_takes_14 rfl (lv_at hl 0 rfl) ?_
        refine va_get (D := D) (ci := 2) (v := .ref (bd 5)) (C := RX2) (T := TX2) (N := 10) hx hb hts hinX2 hown hK hP 0 cs_R0 rfl 4 (by decide) (hts (.fieldLink RX2 22 "ChecksumLabModel" "reflectIn" "[Z") (by decide +kernel)) (fun _ h9 => h9) rfl dX2_takes_15 ?_
        refine lv_iload_n hx hb dX2_takes_18 rfl (lv_at hl 1 rfl) ?_
        refine cs_zald hx hb hK hP 5 1 cs_R5 rfl (k := k) (by omega) (by decide) dX2_takes_19 ?_
        refine cs_ifeq (tgt := 28) hx hb dX2_takes_20 (by decide) (fun c_20 => ?_) (fun c_20 => ?_)
        · refine lv_bipush (v := 7) hx hb dX2_takes_28 (by decide) ?_
          refine lv_iload hx hb dX2_takes_30 (lv_at hl 4 rfl) ?_
          refine lv_isub hx hb dX2_takes_32 ?_
          refine cs_top (y := cs_tq (cs_ri S k) i) (by unfold cs_tq; rw [if_neg (by rw [c_20]; decide)]) ?_
          refine lv_ishr hx hb dX2_takes_33 ?_
          refine lv_iconst (v := 1) hx hb dX2_takes_34 (by decide) ?_
          refine lv_iand hx hb dX2_takes_35 ?_
          refine lv_istore (lv' := [(6, .int (((nI bb) >>> ((cs_tq (cs_ri S k) i) &&& 31)) &&& 1)), (0, .ref (bd 0)), (1, .int (nI k)), (3, .int (nI bb)), (4, .int (cs_tz (cs_w S k) (cs_p S k) (cs_ri S k) (nI bb) v i)), (5, .int (nI i))]) hx hb dX2_takes_36 hl (by decide) rfl (fun ls hl => ?_)
          refine lv_aload_n hx hb dX2_takes_38 rfl (lv_at hl 1 rfl) ?_
          refine lv_iload_n hx hb dX2_takes_39 rfl (lv_at hl 2 rfl) ?_
          refine lv_iload hx hb dX2_takes_40 (lv_at hl 4 rfl) ?_
          refine lv_iload hx hb dX2_takes_42 (lv_at hl 0 rfl) ?_
          refine lv_aload_n hx hb dX2_takes_44 rfl (lv_at hl 1 rfl) ?_
          refine va_get (D := D) (ci := 2) (v := .ref (bd 1)) (C := RX2) (T := TX2) (N := 10) hx hb hts hinX2 hown hK hP 0 cs_R0 rfl 0 (by decide) (hts (.fieldLink RX2 7 "ChecksumLabModel" "width" "[I") (by decide +kernel)) (fun _ h9 => h9) rfl dX2_takes_45 ?_
          refine lv_iload_n hx hb dX2_takes_48 rfl (lv_at hl 2 rfl) ?_
          refine cs_iald hx hb hK hP 1 0 cs_R1 rfl (k := k) (by omega) (by decide) dX2_takes_49 ?_
          refine lv_iconst (v := 1) hx hb dX2_takes_50 (by decide) ?_
          refine lv_isub hx hb dX2_takes_51 ?_
          refine lv_ishl hx hb dX2_takes_52 ?_
          refine lv_ixor hx hb dX2_takes_53 ?_
          refine vp_callSi (W.runV (As := [.int (nI k), .int ((cs_tz (cs_w S k) (cs_p S k) (cs_ri S k) (nI bb) v i) ^^^ ((((nI bb) >>> ((cs_tq (cs_ri S k) i) &&& 31)) &&& 1) <<< (((nI (cs_w S k)) - 1) &&& 31)))]) (rest := []) ⟨hx, hb, hml, hown, hts⟩ (k_X2_timesX l D S th bd cy hS k hk ((cs_tz (cs_w S k) (cs_p S k) (cs_ri S k) (nI bb) v i) ^^^ ((((nI bb) >>> ((cs_tq (cs_ri S k) i) &&& 31)) &&& 1) <<< (((nI (cs_w S k)) - 1) &&& 31)))) (cwV 2 hts gX2_takes_X2_timesX rfl rfl rfl (by decide +kernel) ⟨Nat.le_of_ble_eq_true rfl, Nat.le_of_ble_eq_true rfl⟩) ⟨cs_B.blind, va_recv hK hP (ci := 2) (q0 := 0) rfl rfl, cs_B.at hE hP hK⟩ rfl rfl hl.1 rfl (lv_room (Nat.le_of_ble_eq_true rfl)) dX2_takes_54 ⟨Nat.le_of_ble_eq_true rfl, Nat.le_of_ble_eq_true rfl⟩) (fun r_54 e_54 => ?_)
          subst e_54
          refine lv_istore (lv' := [(4, .int (cs_T (cs_w S k) (cs_p S k) ((cs_tz (cs_w S k) (cs_p S k) (cs_ri S k) (nI bb) v i) ^^^ ((((nI bb) >>> ((cs_tq (cs_ri S k) i) &&& 31)) &&& 1) <<< (((nI (cs_w S k)) - 1) &&& 31))))), (6, .int (((nI bb) >>> ((cs_tq (cs_ri S k) i) &&& 31)) &&& 1)), (0, .ref (bd 0)), (1, .int (nI k)), (3, .int (nI bb)), (5, .int (nI i))]) hx hb dX2_takes_57 hl (by decide) rfl (fun ls hl => ?_)
          refine lv_iinc (v := nI (i + 1)) (lv' := [(5, .int (nI (i + 1))), (4, .int (cs_T (cs_w S k) (cs_p S k) ((cs_tz (cs_w S k) (cs_p S k) (cs_ri S k) (nI bb) v i) ^^^ ((((nI bb) >>> ((cs_tq (cs_ri S k) i) &&& 31)) &&& 1) <<< (((nI (cs_w S k)) - 1) &&& 31))))), (6, .int (((nI bb) >>> ((cs_tq (cs_ri S k) i) &&& 31)) &&& 1)), (0, .ref (bd 0)), (1, .int (nI k)), (3, .int (nI bb))]) hx hb dX2_takes_59 hl (k := 5) rfl (cs_inc1 i) (by decide) rfl (fun ls hl => ?_)
          refine lv_goto (tgt := 6) hx hb dX2_takes_62 (by decide) ?_
          exact ih (i + 1) (by omega) ls (lv_sub hl [3, 4, 5, 1, 0] rfl)
        · refine lv_iload hx hb dX2_takes_23 (lv_at hl 4 rfl) ?_
          refine lv_goto (tgt := 33) hx hb dX2_takes_25 (by decide) ?_
          refine cs_top (y := cs_tq (cs_ri S k) i) (by unfold cs_tq; rw [if_pos c_20]) ?_
          refine lv_ishr hx hb dX2_takes_33 ?_
          refine lv_iconst (v := 1) hx hb dX2_takes_34 (by decide) ?_
          refine lv_iand hx hb dX2_takes_35 ?_
          refine lv_istore (lv' := [(6, .int (((nI bb) >>> ((cs_tq (cs_ri S k) i) &&& 31)) &&& 1)), (0, .ref (bd 0)), (1, .int (nI k)), (3, .int (nI bb)), (4, .int (cs_tz (cs_w S k) (cs_p S k) (cs_ri S k) (nI bb) v i)), (5, .int (nI i))]) hx hb dX2_takes_36 hl (by decide) rfl (fun ls hl => ?_)
          refine lv_aload_n hx hb dX2_takes_38 rfl (lv_at hl 1 rfl) ?_
          refine lv_iload_n hx hb dX2_takes_39 rfl (lv_at hl 2 rfl) ?_
          refine lv_iload hx hb dX2_takes_40 (lv_at hl 4 rfl) ?_
          refine lv_iload hx hb dX2_takes_42 (lv_at hl 0 rfl) ?_
          refine lv_aload_n hx hb dX2_takes_44 rfl (lv_at hl 1 rfl) ?_
          refine va_get (D := D) (ci := 2) (v := .ref (bd 1)) (C := RX2) (T := TX2) (N := 10) hx hb hts hinX2 hown hK hP 0 cs_R0 rfl 0 (by decide) (hts (.fieldLink RX2 7 "ChecksumLabModel" "width" "[I") (by decide +kernel)) (fun _ h9 => h9) rfl dX2_takes_45 ?_
          refine lv_iload_n hx hb dX2_takes_48 rfl (lv_at hl 2 rfl) ?_
          refine cs_iald hx hb hK hP 1 0 cs_R1 rfl (k := k) (by omega) (by decide) dX2_takes_49 ?_
          refine lv_iconst (v := 1) hx hb dX2_takes_50 (by decide) ?_
          refine lv_isub hx hb dX2_takes_51 ?_
          refine lv_ishl hx hb dX2_takes_52 ?_
          refine lv_ixor hx hb dX2_takes_53 ?_
          refine vp_callSi (W.runV (As := [.int (nI k), .int ((cs_tz (cs_w S k) (cs_p S k) (cs_ri S k) (nI bb) v i) ^^^ ((((nI bb) >>> ((cs_tq (cs_ri S k) i) &&& 31)) &&& 1) <<< (((nI (cs_w S k)) - 1) &&& 31)))]) (rest := []) ⟨hx, hb, hml, hown, hts⟩ (k_X2_timesX l D S th bd cy hS k hk ((cs_tz (cs_w S k) (cs_p S k) (cs_ri S k) (nI bb) v i) ^^^ ((((nI bb) >>> ((cs_tq (cs_ri S k) i) &&& 31)) &&& 1) <<< (((nI (cs_w S k)) - 1) &&& 31)))) (cwV 2 hts gX2_takes_X2_timesX rfl rfl rfl (by decide +kernel) ⟨Nat.le_of_ble_eq_true rfl, Nat.le_of_ble_eq_true rfl⟩) ⟨cs_B.blind, va_recv hK hP (ci := 2) (q0 := 0) rfl rfl, cs_B.at hE hP hK⟩ rfl rfl hl.1 rfl (lv_room (Nat.le_of_ble_eq_true rfl)) dX2_takes_54 ⟨Nat.le_of_ble_eq_true rfl, Nat.le_of_ble_eq_true rfl⟩) (fun r_54 e_54 => ?_)
          subst e_54
          refine lv_istore (lv' := [(4, .int (cs_T (cs_w S k) (cs_p S k) ((cs_tz (cs_w S k) (cs_p S k) (cs_ri S k) (nI bb) v i) ^^^ ((((nI bb) >>> ((cs_tq (cs_ri S k) i) &&& 31)) &&& 1) <<< (((nI (cs_w S k)) - 1) &&& 31))))), (6, .int (((nI bb) >>> ((cs_tq (cs_ri S k) i) &&& 31)) &&& 1)), (0, .ref (bd 0)), (1, .int (nI k)), (3, .int (nI bb)), (5, .int (nI i))]) hx hb dX2_takes_57 hl (by decide) rfl (fun ls hl => ?_)
          refine lv_iinc (v := nI (i + 1)) (lv' := [(5, .int (nI (i + 1))), (4, .int (cs_T (cs_w S k) (cs_p S k) ((cs_tz (cs_w S k) (cs_p S k) (cs_ri S k) (nI bb) v i) ^^^ ((((nI bb) >>> ((cs_tq (cs_ri S k) i) &&& 31)) &&& 1) <<< (((nI (cs_w S k)) - 1) &&& 31))))), (6, .int (((nI bb) >>> ((cs_tq (cs_ri S k) i) &&& 31)) &&& 1)), (0, .ref (bd 0)), (1, .int (nI k)), (3, .int (nI bb))]) hx hb dX2_takes_59 hl (k := 5) rfl (cs_inc1 i) (by decide) rfl (fun ls hl => ?_)
          refine lv_goto (tgt := 6) hx hb dX2_takes_62 (by decide) ?_
          exact ih (i + 1) (by omega) ls (lv_sub hl [3, 4, 5, 1, 0] rfl)
  refine lv_iload_n hx hb dX2_takes_0 rfl (lv_at hl 2 rfl) ?_
  refine lv_istore (lv' := [(4, .int v), (0, .ref (bd 0)), (1, .int (nI k)), (2, .int v), (3, .int (nI bb))]) hx hb dX2_takes_1 hl (by decide) rfl (fun ls hl => ?_)
  refine lv_iconst (v := 0) hx hb dX2_takes_3 (by decide) ?_
  refine lv_istore (lv' := [(5, .int 0), (4, .int v), (0, .ref (bd 0)), (1, .int (nI k)), (2, .int v), (3, .int (nI bb))]) hx hb dX2_takes_4 hl (by decide) rfl (fun ls hl => ?_)
  exact loop 8 0 (by omega) ls (lv_sub hl [2, 3, 5, 1, 0] rfl)
set_option maxHeartbeats 4000000 in
set_option maxRecDepth 100000 in
theorem k_X2_isPlace (l : Launch) (D : va_G) (S : cs_St) (th : Int32) (bd : Nat → Nat) (cy : Nat → ClassId) (v u : Int32) : cs_Mi l yX2_isPlace wsX2_isPlace ({ frames := 2, cells := 0, slots := 0, locals := 42 }) D (cs_tys cy) (cs_R S th bd cy) [.ref (bd 0), .int v, .int u] (cs_z (cs_pl S v u)) := by
  refine Met.ofW (cc := cX2_isPlace) (maxL := 3) (ret := (some .boolean)) (by decide) rfl ?_
  intro pg e s m args below meth c s₁ B hml hv
  obtain ⟨rfl, hE, hP, hK⟩ := hv
  have hx := B.exec
  have hb := B.bytes
  have hr := B.returns
  have hts := atoms_spec (ws := wsX2_isPlace) B.pre
  have hown : s.vm.findClass RX2 = some m.cls := findClass_of_methodNamed B.named
  have hlocks := B.notSynchronized
  have hl := lv_entry ([.ref (bd 0), .int v, .int u]) (n := 3) (Nat.le_of_ble_eq_true rfl)
  rw [lg_entry_eq]
  generalize (lg_sl ([.ref (bd 0), .int v, .int u]) ++ List.replicate (3 - (lg_sl ([.ref (bd 0), .int v, .int u])).length) Slot.unset).toArray = ls at hl ⊢
  have hl : lv_has ls 3 [(0, .ref (bd 0)), (1, .int v), (2, .int u)] := hl
  have hinX2 : ∀ w ∈ wsX20, w ∈ wsX2_isPlace := fun _ h => by unfold wsX2_isPlace; exact List.mem_cons_of_mem _ (List.mem_append_right _ h)
  refine lv_iload_n hx hb dX2_isPlace_0 rfl (lv_at hl 1 rfl) ?_
  refine vp_callSi (W.runS (As := [.int v]) (rest := []) ⟨hx, hb, hml, hown, hts⟩ (k_X2_isRow l D S th bd cy  v) (va_cwS 1 hts gX2_isPlace_X2_isRow rfl rfl rfl (by decide +kernel) ⟨Nat.le_of_ble_eq_true rfl, Nat.le_of_ble_eq_true rfl⟩) ⟨cs_B.blind, cs_B.at hE cs_none hK⟩ rfl rfl hl.1 rfl (lv_room (Nat.le_of_ble_eq_true rfl)) dX2_isPlace_1 ⟨Nat.le_of_ble_eq_true rfl, Nat.le_of_ble_eq_true rfl⟩) (fun r_1 e_1 => ?_)
  subst e_1
  refine cs_ifeq (tgt := 27) hx hb dX2_isPlace_4 (by decide) (fun c_4 => ?_) (fun c_4 => ?_)
  · refine lv_iconst (v := 0) hx hb dX2_isPlace_27 (by decide) ?_
    exact W.zret (ty := .boolean) (v := 0) hx hb hr (rfl) (fun t ht _ => ⟨0, rfl, by unfold cs_pl; rw [c_4]; rfl, ht⟩) (fun q h => by cases h) dX2_isPlace_28
  · obtain ⟨r, hr4, rfl⟩ := cs_row_of c_4
    refine lv_iload_n hx hb dX2_isPlace_7 rfl (lv_at hl 2 rfl) ?_
    refine lv_iconst (v := 0) hx hb dX2_isPlace_8 (by decide) ?_
    refine lv_aload_n hx hb dX2_isPlace_9 rfl (lv_at hl 0 rfl) ?_
    refine va_get (D := D) (ci := 2) (v := .ref (bd 8)) (C := RX2) (T := TX2) (N := 10) hx hb hts hinX2 hown hK hP 0 cs_R0 rfl 8 (by decide) (hts (.fieldLink RX2 32 "ChecksumLabModel" "length" "[I") (by decide +kernel)) (fun _ h9 => h9) rfl dX2_isPlace_10 ?_
    refine lv_iload_n hx hb dX2_isPlace_13 rfl (lv_at hl 1 rfl) ?_
    refine cs_iald hx hb hK hP 8 0 cs_R8 rfl (k := r) (hr4) (by decide) dX2_isPlace_14 ?_
    refine lv_iconst (v := 1) hx hb dX2_isPlace_15 (by decide) ?_
    refine lv_isub hx hb dX2_isPlace_16 ?_
    refine vp_callSi (W.runS (As := [.int u, .int 0, .int ((nI (cs_ln S r)) - 1)]) (rest := []) ⟨hx, hb, hml, hown, hts⟩ (k_X2_in l D S th bd cy  u 0 ((nI (cs_ln S r)) - 1)) (va_cwS 3 hts gX2_isPlace_X2_in rfl rfl rfl (by decide +kernel) ⟨Nat.le_of_ble_eq_true rfl, Nat.le_of_ble_eq_true rfl⟩) ⟨cs_B.blind, cs_B.at hE cs_none hK⟩ rfl rfl hl.1 rfl (lv_room (Nat.le_of_ble_eq_true rfl)) dX2_isPlace_17 ⟨Nat.le_of_ble_eq_true rfl, Nat.le_of_ble_eq_true rfl⟩) (fun r_17 e_17 => ?_)
    subst e_17
    refine cs_ifeq (tgt := 27) hx hb dX2_isPlace_20 (by decide) (fun c_20 => ?_) (fun c_20 => ?_)
    · refine lv_iconst (v := 0) hx hb dX2_isPlace_27 (by decide) ?_
      exact W.zret (ty := .boolean) (v := 0) hx hb hr (rfl) (fun t ht _ => ⟨0, rfl, by rw [cs_pl_r hr4, c_20]; rfl, ht⟩) (fun q h => by cases h) dX2_isPlace_28
    · refine lv_iconst (v := 1) hx hb dX2_isPlace_23 (by decide) ?_
      refine lv_goto (tgt := 28) hx hb dX2_isPlace_24 (by decide) ?_
      exact W.zret (ty := .boolean) (v := 1) hx hb hr (rfl) (fun t ht _ => ⟨1, rfl, by rw [cs_pl_r hr4, c_20]; rfl, ht⟩) (fun q h => by cases h) dX2_isPlace_28
set_option maxHeartbeats 4000000 in
set_option maxRecDepth 100000 in
theorem k_X2_part (l : Launch) (D : va_G) (S : cs_St) (th : Int32) (bd : Nat → Nat) (cy : Nat → ClassId) (hS : cs_ok S) (k : Nat) (hk : k < cs_n S) (r fr to : Nat) (hr4 : r < 4) (hft : fr ≤ to) (hto : to ≤ 256) : cs_Mi l yX2_part wsX2_part ({ frames := 2, cells := 0, slots := 0, locals := 50 }) D (cs_tys cy) (cs_R S th bd cy) [.ref (bd 0), .int (nI k), .int (nI r), .int (nI fr), .int (nI to)] (cs_so (cs_ro S k) (cs_w S k) (cs_ps (cs_w S k) (cs_p S k) (cs_ri S k) (cs_i S k) (cs_by S r) fr (to - fr)) ^^^ cs_x S k) := by
  refine Met.ofW (cc := cX2_part) (maxL := 7) (ret := (some .int)) (by decide) rfl ?_
  intro pg e s m args below meth c s₁ B hml hv
  obtain ⟨rfl, hE, hP, hK⟩ := hv
  have hx := B.exec
  have hb := B.bytes
  have hr := B.returns
  have hts := atoms_spec (ws := wsX2_part) B.pre
  have hown : s.vm.findClass RX2 = some m.cls := findClass_of_methodNamed B.named
  have hlocks := B.notSynchronized
  have hl := lv_entry ([.ref (bd 0), .int (nI k), .int (nI r), .int (nI fr), .int (nI to)]) (n := 7) (Nat.le_of_ble_eq_true rfl)
  rw [lg_entry_eq]
  generalize (lg_sl ([.ref (bd 0), .int (nI k), .int (nI r), .int (nI fr), .int (nI to)]) ++ List.replicate (7 - (lg_sl ([.ref (bd 0), .int (nI k), .int (nI r), .int (nI fr), .int (nI to)])).length) Slot.unset).toArray = ls at hl ⊢
  have hl : lv_has ls 7 [(0, .ref (bd 0)), (1, .int (nI k)), (2, .int (nI r)), (3, .int (nI fr)), (4, .int (nI to))] := hl
  have hinX2 : ∀ w ∈ wsX20, w ∈ wsX2_part := fun _ h => by unfold wsX2_part; exact List.mem_cons_of_mem _ (List.mem_append_right _ h)
  have h6 := hS.1
  have loop : ∀ (n j : Nat), fr + j + n = to → ∀ ls : Array Slot, lv_has ls 7 [(0, .ref (bd 0)), (1, .int (nI k)), (2, .int (nI r)), (4, .int (nI to)), (5, .int (cs_ps (cs_w S k) (cs_p S k) (cs_ri S k) (cs_i S k) (cs_by S r) fr j)), (6, .int (nI (fr + j)))] → W pg l e (headSpec wsX2_part ({ frames := 2, cells := 0, slots := 0, locals := 50 })).room s m [Value.ref (bd 0), Value.int (nI k), Value.int (nI r), Value.int (nI fr), Value.int (nI to)].toArray below meth c s.heap [] 0 0 (MQ below (vp_Si (fun rr => rr = cs_so (cs_ro S k) (cs_w S k) (cs_ps (cs_w S k) (cs_p S k) (cs_ri S k) (cs_i S k) (cs_by S r) fr (to - fr)) ^^^ cs_x S k)) [Value.ref (bd 0), Value.int (nI k), Value.int (nI r), Value.int (nI fr), Value.int (nI to)].toArray s 0 0 (fun _ => False)) (F0 m 11 ls []) := by
    intro n
    induction n with
    | zero =>
      intro j hj ls hl
      refine lv_iload hx hb dX2_part_11 (lv_at hl 5 rfl) ?_
      refine lv_iload hx hb dX2_part_13 (lv_at hl 3 rfl) ?_
      refine lv_icmp_ge (tgt := 46) hx hb dX2_part_15 (by decide) (fun c_15 => ?_) (fun c_15 => ?_)
      · refine lv_aload_n hx hb dX2_part_46 rfl (lv_at hl 0 rfl) ?_
        refine lv_iload_n hx hb dX2_part_47 rfl (lv_at hl 1 rfl) ?_
        refine lv_iload hx hb dX2_part_48 (lv_at hl 4 rfl) ?_
        refine vp_callSi (W.runV (As := [.int (nI k), .int (cs_ps (cs_w S k) (cs_p S k) (cs_ri S k) (cs_i S k) (cs_by S r) fr j)]) (rest := []) ⟨hx, hb, hml, hown, hts⟩ (k_X2_sumOf l D S th bd cy hS k hk (cs_ps (cs_w S k) (cs_p S k) (cs_ri S k) (cs_i S k) (cs_by S r) fr j)) (cwV 2 hts gX2_part_X2_sumOf rfl rfl rfl (by decide +kernel) ⟨Nat.le_of_ble_eq_true rfl, Nat.le_of_ble_eq_true rfl⟩) ⟨cs_B.blind, va_recv hK hP (ci := 2) (q0 := 0) rfl rfl, cs_B.at hE hP hK⟩ rfl rfl hl.1 rfl (lv_room (Nat.le_of_ble_eq_true rfl)) dX2_part_50 ⟨Nat.le_of_ble_eq_true rfl, Nat.le_of_ble_eq_true rfl⟩) (fun r_50 e_50 => ?_)
        subst e_50
        exact W.iret (v := cs_so (cs_ro S k) (cs_w S k) (cs_ps (cs_w S k) (cs_p S k) (cs_ri S k) (cs_i S k) (cs_by S r) fr j) ^^^ cs_x S k) hx hb hr (fun t ht _ => ⟨cs_so (cs_ro S k) (cs_w S k) (cs_ps (cs_w S k) (cs_p S k) (cs_ri S k) (cs_i S k) (cs_by S r) fr j) ^^^ cs_x S k, rfl, by rw [show to - fr = j by omega], ht⟩) (fun q h => by cases h) dX2_part_53
      · exact absurd (nI_le (by omega) (by omega)) c_15
    | succ n ih =>
      intro j hj ls hl
      refine lv_iload hx hb dX2_part_11 (lv_at hl 5 rfl) ?_
      refine lv_iload hx hb dX2_part_13 (lv_at hl 3 rfl) ?_
      refine lv_icmp_ge (tgt := 46) hx hb dX2_part_15 (by decide) (fun c_15 => ?_) (fun c_15 => ?_)
      · exact absurd c_15 (nI_ge (by omega) (by omega))
      · refine lv_aload_n hx hb dX2_part_18 rfl (lv_at hl 0 rfl) ?_
        refine lv_iload_n hx hb dX2_part_19 rfl (lv_at hl 1 rfl) ?_
        refine lv_iload hx hb dX2_part_20 (lv_at hl 4 rfl) ?_
        refine lv_aload_n hx hb dX2_part_22 rfl (lv_at hl 0 rfl) ?_
        refine va_get (D := D) (ci := 2) (v := .ref (bd 7)) (C := RX2) (T := TX2) (N := 10) hx hb hts hinX2 hown hK hP 0 cs_R0 rfl 7 (by decide) (hts (.fieldLink RX2 29 "ChecksumLabModel" "bytes" "[I") (by decide +kernel)) (fun _ h9 => h9) rfl dX2_part_23 ?_
        refine lv_sipush (v := 256) hx hb dX2_part_26 (by decide) ?_
        refine lv_iload_n hx hb dX2_part_29 rfl (lv_at hl 2 rfl) ?_
        refine lv_imul hx hb dX2_part_30 ?_
        refine lv_iload hx hb dX2_part_31 (lv_at hl 5 rfl) ?_
        refine lv_iadd hx hb dX2_part_33 ?_
        refine cs_top (y := nI (256 * r + (fr + j))) (cs_256 r (fr + j)) ?_
        refine cs_iald hx hb hK hP 7 0 cs_R7 rfl (k := 256 * r + (fr + j)) (by omega) (by decide) dX2_part_34 ?_
        refine cs_top (y := nI (cs_by S r (fr + j))) (congrArg nI (cs_byE (by omega))) ?_
        refine vp_callSi (W.runV (As := [.int (nI k), .int (cs_ps (cs_w S k) (cs_p S k) (cs_ri S k) (cs_i S k) (cs_by S r) fr j), .int (nI (cs_by S r (fr + j)))]) (rest := []) ⟨hx, hb, hml, hown, hts⟩ (k_X2_takes l D S th bd cy hS k hk (cs_ps (cs_w S k) (cs_p S k) (cs_ri S k) (cs_i S k) (cs_by S r) fr j) (cs_by S r (fr + j)) (hS.2.2.2 r _)) (cwV 3 hts gX2_part_X2_takes rfl rfl rfl (by decide +kernel) ⟨Nat.le_of_ble_eq_true rfl, Nat.le_of_ble_eq_true rfl⟩) ⟨cs_B.blind, va_recv hK hP (ci := 2) (q0 := 0) rfl rfl, cs_B.at hE hP hK⟩ rfl rfl hl.1 rfl (lv_room (Nat.le_of_ble_eq_true rfl)) dX2_part_35 ⟨Nat.le_of_ble_eq_true rfl, Nat.le_of_ble_eq_true rfl⟩) (fun r_35 e_35 => ?_)
        subst e_35
        refine lv_istore (lv' := [(5, .int (cs_tk (cs_w S k) (cs_p S k) (cs_ri S k) (cs_ps (cs_w S k) (cs_p S k) (cs_ri S k) (cs_i S k) (cs_by S r) fr j) (nI (cs_by S r (fr + j))))), (0, .ref (bd 0)), (1, .int (nI k)), (2, .int (nI r)), (4, .int (nI to)), (6, .int (nI (fr + j)))]) hx hb dX2_part_38 hl (by decide) rfl (fun ls hl => ?_)
        refine lv_iinc (v := nI (fr + (j + 1))) (lv' := [(6, .int (nI (fr + (j + 1)))), (5, .int (cs_tk (cs_w S k) (cs_p S k) (cs_ri S k) (cs_ps (cs_w S k) (cs_p S k) (cs_ri S k) (cs_i S k) (cs_by S r) fr j) (nI (cs_by S r (fr + j))))), (0, .ref (bd 0)), (1, .int (nI k)), (2, .int (nI r)), (4, .int (nI to))]) hx hb dX2_part_40 hl (k := 5) rfl (cs_inc1 (fr + j)) (by decide) rfl (fun ls hl => ?_)
        refine lv_goto (tgt := 11) hx hb dX2_part_43 (by decide) ?_
        exact ih (j + 1) (by omega) ls (lv_sub hl [2, 3, 4, 5, 1, 0] rfl)
  refine lv_aload_n hx hb dX2_part_0 rfl (lv_at hl 0 rfl) ?_
  refine va_get (D := D) (ci := 2) (v := .ref (bd 3)) (C := RX2) (T := TX2) (N := 10) hx hb hts hinX2 hown hK hP 0 cs_R0 rfl 2 (by decide) (hts (.fieldLink RX2 16 "ChecksumLabModel" "init" "[I") (by decide +kernel)) (fun _ h9 => h9) rfl dX2_part_1 ?_
  refine lv_iload_n hx hb dX2_part_4 rfl (lv_at hl 1 rfl) ?_
  refine cs_iald hx hb hK hP 3 0 cs_R3 rfl (k := k) (by omega) (by decide) dX2_part_5 ?_
  refine lv_istore (lv' := [(5, .int (cs_i S k)), (0, .ref (bd 0)), (1, .int (nI k)), (2, .int (nI r)), (3, .int (nI fr)), (4, .int (nI to))]) hx hb dX2_part_6 hl (by decide) rfl (fun ls hl => ?_)
  refine lv_iload_n hx hb dX2_part_8 rfl (lv_at hl 4 rfl) ?_
  refine lv_istore (lv' := [(6, .int (nI fr)), (5, .int (cs_i S k)), (0, .ref (bd 0)), (1, .int (nI k)), (2, .int (nI r)), (3, .int (nI fr)), (4, .int (nI to))]) hx hb dX2_part_9 hl (by decide) rfl (fun ls hl => ?_)
  exact loop (to - fr) 0 (by omega) ls (lv_sub hl [2, 3, 4, 6, 1, 0] rfl)
set_option maxHeartbeats 4000000 in
set_option maxRecDepth 100000 in
theorem k_X2_isFletcher (l : Launch) (D : va_G) (S : cs_St) (th : Int32) (bd : Nat → Nat) (cy : Nat → ClassId) (v : Int32) : cs_Mi l yX2_isFletcher wsX2_isFletcher ({ frames := 0, cells := 0, slots := 0, locals := 0 }) D (cs_tys cy) [] [.int v] (cs_z (cs_fk v)) := by
  refine Met.ofW (cc := cX2_isFletcher) (maxL := 1) (ret := (some .boolean)) (by decide) rfl ?_
  intro pg e s m args below meth c s₁ B hml hv
  obtain ⟨rfl, hE, hP, hK⟩ := hv
  have hx := B.exec
  have hb := B.bytes
  have hr := B.returns
  have hts := atoms_spec (ws := wsX2_isFletcher) B.pre
  have hown : s.vm.findClass RX2 = some m.cls := findClass_of_methodNamed B.named
  have hlocks := B.notSynchronized
  have hl := lv_entry ([.int v]) (n := 1) (Nat.le_of_ble_eq_true rfl)
  rw [lg_entry_eq]
  generalize (lg_sl ([.int v]) ++ List.replicate (1 - (lg_sl ([.int v])).length) Slot.unset).toArray = ls at hl ⊢
  have hl : lv_has ls 1 [(0, .int v)] := hl
  refine lv_iload_n hx hb dX2_isFletcher_0 rfl (lv_at hl 0 rfl) ?_
  refine lv_if_lt (tgt := 30) hx hb dX2_isFletcher_1 (by decide) (fun c_1 => ?_) (fun c_1 => ?_)
  · refine lv_iconst (v := 0) hx hb dX2_isFletcher_30 (by decide) ?_
    exact W.zret (ty := .boolean) (v := 0) hx hb hr (rfl) (fun t ht _ => ⟨0, rfl, by unfold cs_fk; rw [decide_eq_false (Int32.not_le.mpr c_1)]; rfl, ht⟩) (fun q h => by cases h) dX2_isFletcher_31
  · refine lv_iload_n hx hb dX2_isFletcher_4 rfl (lv_at hl 0 rfl) ?_
    refine lv_sipush (v := 256) hx hb dX2_isFletcher_5 (by decide) ?_
    refine lv_idiv hx hb dX2_isFletcher_8 (by decide) ?_
    refine lv_sipush (v := 255) hx hb dX2_isFletcher_9 (by decide) ?_
    refine lv_icmp_ge (tgt := 30) hx hb dX2_isFletcher_12 (by decide) (fun c_12 => ?_) (fun c_12 => ?_)
    · refine lv_iconst (v := 0) hx hb dX2_isFletcher_30 (by decide) ?_
      exact W.zret (ty := .boolean) (v := 0) hx hb hr (rfl) (fun t ht _ => ⟨0, rfl, by unfold cs_fk; rw [decide_eq_false (Int32.not_lt.mpr c_12), Bool.and_false]; rfl, ht⟩) (fun q h => by cases h) dX2_isFletcher_31
    · refine lv_iload_n hx hb dX2_isFletcher_15 rfl (lv_at hl 0 rfl) ?_
      refine lv_sipush (v := 256) hx hb dX2_isFletcher_16 (by decide) ?_
      refine lv_irem hx hb dX2_isFletcher_19 (by decide) ?_
      refine cs_top (y := cs_rem v 256) (rfl) ?_
      refine lv_sipush (v := 255) hx hb dX2_isFletcher_20 (by decide) ?_
      refine lv_icmp_ge (tgt := 30) hx hb dX2_isFletcher_23 (by decide) (fun c_23 => ?_) (fun c_23 => ?_)
      · refine lv_iconst (v := 0) hx hb dX2_isFletcher_30 (by decide) ?_
        exact W.zret (ty := .boolean) (v := 0) hx hb hr (rfl) (fun t ht _ => ⟨0, rfl, by unfold cs_fk; rw [decide_eq_false (Int32.not_lt.mpr c_23), Bool.and_false]; rfl, ht⟩) (fun q h => by cases h) dX2_isFletcher_31
      · refine lv_iconst (v := 1) hx hb dX2_isFletcher_26 (by decide) ?_
        refine lv_goto (tgt := 31) hx hb dX2_isFletcher_27 (by decide) ?_
        exact W.zret (ty := .boolean) (v := 1) hx hb hr (rfl) (fun t ht _ => ⟨1, rfl, by unfold cs_fk; rw [decide_eq_true (Int32.not_lt.mp c_1), decide_eq_true (Int32.not_le.mp c_12), decide_eq_true (Int32.not_le.mp c_23)]; rfl, ht⟩) (fun q h => by cases h) dX2_isFletcher_31
set_option maxHeartbeats 4000000 in
set_option maxRecDepth 100000 in
theorem k_X2_low (l : Launch) (D : va_G) (S : cs_St) (th : Int32) (bd : Nat → Nat) (cy : Nat → ClassId) (v : Int32) : cs_Mi l yX2_low wsX2_low ({ frames := 0, cells := 0, slots := 0, locals := 0 }) D (cs_tys cy) [] [.int v] (v &&& 65535) := by
  refine Met.ofW (cc := cX2_low) (maxL := 1) (ret := (some .int)) (by decide) rfl ?_
  intro pg e s m args below meth c s₁ B hml hv
  obtain ⟨rfl, hE, hP, hK⟩ := hv
  have hx := B.exec
  have hb := B.bytes
  have hr := B.returns
  have hts := atoms_spec (ws := wsX2_low) B.pre
  have hown : s.vm.findClass RX2 = some m.cls := findClass_of_methodNamed B.named
  have hlocks := B.notSynchronized
  have hl := lv_entry ([.int v]) (n := 1) (Nat.le_of_ble_eq_true rfl)
  rw [lg_entry_eq]
  generalize (lg_sl ([.int v]) ++ List.replicate (1 - (lg_sl ([.int v])).length) Slot.unset).toArray = ls at hl ⊢
  have hl : lv_has ls 1 [(0, .int v)] := hl
  refine lv_iload_n hx hb dX2_low_0 rfl (lv_at hl 0 rfl) ?_
  refine lv_ldc (v := 65535) hx hb hown (hts (.constant RX2 115 65535) (by decide +kernel)) dX2_low_1 ?_
  refine lv_iand hx hb dX2_low_3 ?_
  exact W.iret (v := v &&& 65535) hx hb hr (fun t ht _ => ⟨v &&& 65535, rfl, rfl, ht⟩) (fun q h => by cases h) dX2_low_4
set_option maxHeartbeats 4000000 in
set_option maxRecDepth 100000 in
theorem k_X2_high (l : Launch) (D : va_G) (S : cs_St) (th : Int32) (bd : Nat → Nat) (cy : Nat → ClassId) (v : Int32) : cs_Mi l yX2_high wsX2_high ({ frames := 0, cells := 0, slots := 0, locals := 0 }) D (cs_tys cy) [] [.int v] (cs_ur v 16) := by
  refine Met.ofW (cc := cX2_high) (maxL := 1) (ret := (some .int)) (by decide) rfl ?_
  intro pg e s m args below meth c s₁ B hml hv
  obtain ⟨rfl, hE, hP, hK⟩ := hv
  have hx := B.exec
  have hb := B.bytes
  have hr := B.returns
  have hts := atoms_spec (ws := wsX2_high) B.pre
  have hown : s.vm.findClass RX2 = some m.cls := findClass_of_methodNamed B.named
  have hlocks := B.notSynchronized
  have hl := lv_entry ([.int v]) (n := 1) (Nat.le_of_ble_eq_true rfl)
  rw [lg_entry_eq]
  generalize (lg_sl ([.int v]) ++ List.replicate (1 - (lg_sl ([.int v])).length) Slot.unset).toArray = ls at hl ⊢
  have hl : lv_has ls 1 [(0, .int v)] := hl
  refine lv_iload_n hx hb dX2_high_0 rfl (lv_at hl 0 rfl) ?_
  refine lv_bipush (v := 16) hx hb dX2_high_1 (by decide) ?_
  refine lv_iushr (v := cs_ur v 16) hx hb dX2_high_3 rfl ?_
  exact W.iret (v := cs_ur v 16) hx hb hr (fun t ht _ => ⟨cs_ur v 16, rfl, rfl, ht⟩) (fun q h => by cases h) dX2_high_4
set_option maxHeartbeats 4000000 in
set_option maxRecDepth 100000 in
theorem k_X2_isAdler (l : Launch) (D : va_G) (S : cs_St) (th : Int32) (bd : Nat → Nat) (cy : Nat → ClassId) (v : Int32) : cs_Mi l yX2_isAdler wsX2_isAdler ({ frames := 1, cells := 0, slots := 0, locals := 20 }) D (cs_tys cy) [] [.int v] (cs_z (cs_ak v)) := by
  refine Met.ofW (cc := cX2_isAdler) (maxL := 1) (ret := (some .boolean)) (by decide) rfl ?_
  intro pg e s m args below meth c s₁ B hml hv
  obtain ⟨rfl, hE, hP, hK⟩ := hv
  have hx := B.exec
  have hb := B.bytes
  have hr := B.returns
  have hts := atoms_spec (ws := wsX2_isAdler) B.pre
  have hown : s.vm.findClass RX2 = some m.cls := findClass_of_methodNamed B.named
  have hlocks := B.notSynchronized
  have hl := lv_entry ([.int v]) (n := 1) (Nat.le_of_ble_eq_true rfl)
  rw [lg_entry_eq]
  generalize (lg_sl ([.int v]) ++ List.replicate (1 - (lg_sl ([.int v])).length) Slot.unset).toArray = ls at hl ⊢
  have hl : lv_has ls 1 [(0, .int v)] := hl
  refine lv_iload_n hx hb dX2_isAdler_0 rfl (lv_at hl 0 rfl) ?_
  refine vp_callSi (W.runS (As := [.int v]) (rest := []) ⟨hx, hb, hml, hown, hts⟩ (k_X2_low l D S th bd cy  v) (va_cwS 1 hts gX2_isAdler_X2_low rfl rfl rfl (by decide +kernel) ⟨Nat.le_of_ble_eq_true rfl, Nat.le_of_ble_eq_true rfl⟩) ⟨cs_B.blind, cs_B.at hE cs_none hK⟩ rfl rfl hl.1 rfl (lv_room (Nat.le_of_ble_eq_true rfl)) dX2_isAdler_1 ⟨Nat.le_of_ble_eq_true rfl, Nat.le_of_ble_eq_true rfl⟩) (fun r_1 e_1 => ?_)
  subst e_1
  refine lv_ldc (v := 65521) hx hb hown (hts (.constant RX2 113 65521) (by decide +kernel)) dX2_isAdler_4 ?_
  refine lv_icmp_ge (tgt := 22) hx hb dX2_isAdler_6 (by decide) (fun c_6 => ?_) (fun c_6 => ?_)
  · refine lv_iconst (v := 0) hx hb dX2_isAdler_22 (by decide) ?_
    exact W.zret (ty := .boolean) (v := 0) hx hb hr (rfl) (fun t ht _ => ⟨0, rfl, by unfold cs_ak; rw [decide_eq_false (Int32.not_lt.mpr c_6)]; rfl, ht⟩) (fun q h => by cases h) dX2_isAdler_23
  · refine lv_iload_n hx hb dX2_isAdler_9 rfl (lv_at hl 0 rfl) ?_
    refine vp_callSi (W.runS (As := [.int v]) (rest := []) ⟨hx, hb, hml, hown, hts⟩ (k_X2_high l D S th bd cy  v) (va_cwS 1 hts gX2_isAdler_X2_high rfl rfl rfl (by decide +kernel) ⟨Nat.le_of_ble_eq_true rfl, Nat.le_of_ble_eq_true rfl⟩) ⟨cs_B.blind, cs_B.at hE cs_none hK⟩ rfl rfl hl.1 rfl (lv_room (Nat.le_of_ble_eq_true rfl)) dX2_isAdler_10 ⟨Nat.le_of_ble_eq_true rfl, Nat.le_of_ble_eq_true rfl⟩) (fun r_10 e_10 => ?_)
    subst e_10
    refine lv_ldc (v := 65521) hx hb hown (hts (.constant RX2 113 65521) (by decide +kernel)) dX2_isAdler_13 ?_
    refine lv_icmp_ge (tgt := 22) hx hb dX2_isAdler_15 (by decide) (fun c_15 => ?_) (fun c_15 => ?_)
    · refine lv_iconst (v := 0) hx hb dX2_isAdler_22 (by decide) ?_
      exact W.zret (ty := .boolean) (v := 0) hx hb hr (rfl) (fun t ht _ => ⟨0, rfl, by unfold cs_ak; rw [decide_eq_false (Int32.not_lt.mpr c_15), Bool.and_false]; rfl, ht⟩) (fun q h => by cases h) dX2_isAdler_23
    · refine lv_iconst (v := 1) hx hb dX2_isAdler_18 (by decide) ?_
      refine lv_goto (tgt := 23) hx hb dX2_isAdler_19 (by decide) ?_
      exact W.zret (ty := .boolean) (v := 1) hx hb hr (rfl) (fun t ht _ => ⟨1, rfl, by unfold cs_ak; rw [decide_eq_true (Int32.not_le.mp c_6), decide_eq_true (Int32.not_le.mp c_15)]; rfl, ht⟩) (fun q h => by cases h) dX2_isAdler_23
set_option maxHeartbeats 4000000 in
set_option maxRecDepth 100000 in
theorem k_X2_reduced (l : Launch) (D : va_G) (S : cs_St) (th : Int32) (bd : Nat → Nat) (cy : Nat → ClassId) (v : Int64) : cs_Mi l yX2_reduced wsX2_reduced ({ frames := 0, cells := 0, slots := 0, locals := 0 }) D (cs_tys cy) [] [.long v] ((cs_fm v 65521).toInt32) := by
  refine Met.ofW (cc := cX2_reduced) (maxL := 4) (ret := (some .int)) (by decide) rfl ?_
  intro pg e s m args below meth c s₁ B hml hv
  obtain ⟨rfl, hE, hP, hK⟩ := hv
  have hx := B.exec
  have hb := B.bytes
  have hr := B.returns
  have hts := atoms_spec (ws := wsX2_reduced) B.pre
  have hown : s.vm.findClass RX2 = some m.cls := findClass_of_methodNamed B.named
  have hlocks := B.notSynchronized
  have hl := lv_entry ([.long v]) (n := 4) (Nat.le_of_ble_eq_true rfl)
  rw [lg_entry_eq]
  generalize (lg_sl ([.long v]) ++ List.replicate (4 - (lg_sl ([.long v])).length) Slot.unset).toArray = ls at hl ⊢
  have hl : lv_has ls 4 [(0, .long v)] := hl
  refine lv_lload_n hx hb dX2_reduced_0 rfl (lv_at hl 0 rfl) ?_
  refine lv_ldc2 (v := 65521) hx hb hown (hts (.constantLong RX2 123 65521) (by decide +kernel)) dX2_reduced_1 ?_
  refine lv_lrem hx hb dX2_reduced_4 (by decide) ?_
  refine cs_topl (y := cs_remL v 65521) (rfl) ?_
  refine lv_lstore_n (lv' := [(2, .long (cs_remL v 65521)), (0, .long v)]) hx hb dX2_reduced_5 rfl hl (by decide) rfl (fun ls hl => ?_)
  refine lv_lload_n hx hb dX2_reduced_6 rfl (lv_at hl 0 rfl) ?_
  refine lv_lconst (v := 0) hx hb dX2_reduced_7 (by decide) ?_
  refine W.lcmp hx hb dX2_reduced_8 ?_
  refine lv_if_ge (tgt := 20) hx hb dX2_reduced_9 (by decide) (fun c_9 => ?_) (fun c_9 => ?_)
  · refine lv_lload_n hx hb dX2_reduced_20 rfl (lv_at hl 0 rfl) ?_
    refine lv_l2i (v := (cs_remL v 65521).toInt32) hx hb dX2_reduced_21 rfl ?_
    exact W.iret (v := (cs_remL v 65521).toInt32) hx hb hr (fun t ht _ => ⟨(cs_remL v 65521).toInt32, rfl, by unfold cs_fm; rw [if_neg (fun z => absurd ((lg_cmp_ge _ _).mp c_9) (Int64.not_le.mpr z))], ht⟩) (fun q h => by cases h) dX2_reduced_22
  · refine lv_lload_n hx hb dX2_reduced_12 rfl (lv_at hl 0 rfl) ?_
    refine lv_ldc2 (v := 65521) hx hb hown (hts (.constantLong RX2 123 65521) (by decide +kernel)) dX2_reduced_13 ?_
    refine lv_ladd hx hb dX2_reduced_16 ?_
    refine lv_goto (tgt := 21) hx hb dX2_reduced_17 (by decide) ?_
    refine lv_l2i (v := ((cs_remL v 65521) + 65521).toInt32) hx hb dX2_reduced_21 rfl ?_
    exact W.iret (v := ((cs_remL v 65521) + 65521).toInt32) hx hb hr (fun t ht _ => ⟨((cs_remL v 65521) + 65521).toInt32, rfl, by unfold cs_fm; rw [if_pos (Int64.not_le.mp (fun z => c_9 ((lg_cmp_ge _ _).mpr z)))], ht⟩) (fun q h => by cases h) dX2_reduced_22
set_option maxHeartbeats 4000000 in
set_option maxRecDepth 100000 in
theorem k_X2_adlerOf (l : Launch) (D : va_G) (S : cs_St) (th : Int32) (bd : Nat → Nat) (cy : Nat → ClassId) (v u : Int64) : cs_Mi l yX2_adlerOf wsX2_adlerOf ({ frames := 1, cells := 0, slots := 0, locals := 23 }) D (cs_tys cy) [] [.long v, .long u] (cs_ad v u) := by
  refine Met.ofW (cc := cX2_adlerOf) (maxL := 4) (ret := (some .int)) (by decide) rfl ?_
  intro pg e s m args below meth c s₁ B hml hv
  obtain ⟨rfl, hE, hP, hK⟩ := hv
  have hx := B.exec
  have hb := B.bytes
  have hr := B.returns
  have hts := atoms_spec (ws := wsX2_adlerOf) B.pre
  have hown : s.vm.findClass RX2 = some m.cls := findClass_of_methodNamed B.named
  have hlocks := B.notSynchronized
  have hl := lv_entry ([.long v, .long u]) (n := 4) (Nat.le_of_ble_eq_true rfl)
  rw [lg_entry_eq]
  generalize (lg_sl ([.long v, .long u]) ++ List.replicate (4 - (lg_sl ([.long v, .long u])).length) Slot.unset).toArray = ls at hl ⊢
  have hl : lv_has ls 4 [(0, .long v), (2, .long u)] := hl
  refine lv_ldc (v := 65536) hx hb hown (hts (.constant RX2 114 65536) (by decide +kernel)) dX2_adlerOf_0 ?_
  refine lv_lload_n hx hb dX2_adlerOf_2 rfl (lv_at hl 1 rfl) ?_
  refine vp_callSi (W.runS (As := [.long u]) (rest := [.int 65536]) ⟨hx, hb, hml, hown, hts⟩ (k_X2_reduced l D S th bd cy  u) (va_cwS 1 hts gX2_adlerOf_X2_reduced rfl rfl rfl (by decide +kernel) ⟨Nat.le_of_ble_eq_true rfl, Nat.le_of_ble_eq_true rfl⟩) ⟨cs_B.blind, cs_B.at hE cs_none hK⟩ rfl rfl hl.1 rfl (lv_room (Nat.le_of_ble_eq_true rfl)) dX2_adlerOf_3 ⟨Nat.le_of_ble_eq_true rfl, Nat.le_of_ble_eq_true rfl⟩) (fun r_3 e_3 => ?_)
  subst e_3
  refine lv_imul hx hb dX2_adlerOf_6 ?_
  refine lv_lload_n hx hb dX2_adlerOf_7 rfl (lv_at hl 0 rfl) ?_
  refine vp_callSi (W.runS (As := [.long v]) (rest := [.int (65536 * ((cs_fm u 65521).toInt32))]) ⟨hx, hb, hml, hown, hts⟩ (k_X2_reduced l D S th bd cy  v) (va_cwS 1 hts gX2_adlerOf_X2_reduced rfl rfl rfl (by decide +kernel) ⟨Nat.le_of_ble_eq_true rfl, Nat.le_of_ble_eq_true rfl⟩) ⟨cs_B.blind, cs_B.at hE cs_none hK⟩ rfl rfl hl.1 rfl (lv_room (Nat.le_of_ble_eq_true rfl)) dX2_adlerOf_8 ⟨Nat.le_of_ble_eq_true rfl, Nat.le_of_ble_eq_true rfl⟩) (fun r_8 e_8 => ?_)
  subst e_8
  refine lv_iadd hx hb dX2_adlerOf_11 ?_
  exact W.iret (v := (65536 * ((cs_fm u 65521).toInt32)) + ((cs_fm v 65521).toInt32)) hx hb hr (fun t ht _ => ⟨(65536 * ((cs_fm u 65521).toInt32)) + ((cs_fm v 65521).toInt32), rfl, rfl, ht⟩) (fun q h => by cases h) dX2_adlerOf_12
end
section
set_option maxHeartbeats 4000000 in
set_option maxRecDepth 100000 in
theorem k_X2_asked (l : Launch) (D : va_G) (S : cs_St) (th : Int32) (bd : Nat → Nat) (cy : Nat → ClassId) (sz : Nat) (b : Bool) : cs_Mw l yX2_asked wsX2_asked ({ frames := 0, cells := 0, slots := 0, locals := 0 }) D (cs_tys cy) (cs_R S th bd cy) sz [.ref (bd 0), .int (cs_z b)] (fun (_ : Unit) => cs_R S (cs_k1 b) bd cy) (fun rr _ => rr = cs_z b) := by
  refine Met.ofW (cc := cX2_asked) (maxL := 2) (ret := (some .boolean)) (by decide) rfl ?_
  intro pg e s m args below meth c s₁ B hml hv
  obtain ⟨rfl, hsz, hE, hP, hK, hD0⟩ := hv
  subst hsz
  have hD := hD0.self (sz := s.heap.size)
  have hA : ∀ q : Nat, s.heap.size ≤ q → va_A (cs_R S th bd cy) s.heap.size q := fun q h => Or.inr h
  have hS9 : va_S (va_A (cs_R S th bd cy) s.heap.size) s.heap s.heap [] := va_S.rf
  have hx := B.exec
  have hb := B.bytes
  have hr := B.returns
  have hts := atoms_spec (ws := wsX2_asked) B.pre
  have hown : s.vm.findClass RX2 = some m.cls := findClass_of_methodNamed B.named
  have hlocks := B.notSynchronized
  have hl := lv_entry ([.ref (bd 0), .int (cs_z b)]) (n := 2) (Nat.le_of_ble_eq_true rfl)
  rw [lg_entry_eq]
  generalize (lg_sl ([.ref (bd 0), .int (cs_z b)]) ++ List.replicate (2 - (lg_sl ([.ref (bd 0), .int (cs_z b)])).length) Slot.unset).toArray = ls at hl ⊢
  have hl : lv_has ls 2 [(0, .ref (bd 0)), (1, .int (cs_z b))] := hl
  have hinX2 : ∀ w ∈ wsX20, w ∈ wsX2_asked := fun _ h => by unfold wsX2_asked; exact List.mem_cons_of_mem _ (List.mem_append_right _ h)
  refine lv_aload_n hx hb dX2_asked_0 rfl (lv_at hl 0 rfl) ?_
  refine lv_iload_n hx hb dX2_asked_1 rfl (lv_at hl 1 rfl) ?_
  refine cs_ifeq (tgt := 9) hx hb dX2_asked_2 (by decide) (fun c_2 => ?_) (fun c_2 => ?_)
  · refine lv_iconst (v := 1) hx hb dX2_asked_9 (by decide) ?_
    refine cs_top (y := cs_k1 b) (by rw [c_2]; rfl) ?_
    refine va_put (D := D) (ci := 2) (v := .int (cs_k1 b)) (ty := .int) (C := RX2) (T := TX2) (N := 10) hx hb hts hinX2 tyX2 tyX2_ok nmX2 hown hK hP hD hS9 0 cs_R0 rfl 9 (by decide) (hts (.fieldLink RX2 35 "ChecksumLabModel" "thrown" "I") (by decide +kernel)) (fun _ h9 => h9) rfl (by decide +kernel) rfl rfl (Nat.le_of_ble_eq_true rfl) dX2_asked_10 (fun H locs hP hD hS9 => ?_)
    have hP : va_P D vwCl (cs_R S (cs_k1 b) bd cy) H := hP
    have hD : va_D (va_A (cs_R S th bd cy) s.heap.size) (cs_R S (cs_k1 b) bd cy) := hD
    refine lv_iload_n hx hb dX2_asked_13 rfl (lv_at hl 1 rfl) ?_
    exact W.zret (ty := .boolean) (v := cs_z b) hx hb hr (cs_z_nar _) (fun t ht _ => ⟨cs_z b, (), rfl, rfl, by rw [ht]; exact hP, by exact hD, hS9.F ht⟩) hS9.2.2 dX2_asked_14
  · refine lv_iconst (v := 0) hx hb dX2_asked_5 (by decide) ?_
    refine lv_goto (tgt := 10) hx hb dX2_asked_6 (by decide) ?_
    refine cs_top (y := cs_k1 b) (by rw [c_2]; rfl) ?_
    refine va_put (D := D) (ci := 2) (v := .int (cs_k1 b)) (ty := .int) (C := RX2) (T := TX2) (N := 10) hx hb hts hinX2 tyX2 tyX2_ok nmX2 hown hK hP hD hS9 0 cs_R0 rfl 9 (by decide) (hts (.fieldLink RX2 35 "ChecksumLabModel" "thrown" "I") (by decide +kernel)) (fun _ h9 => h9) rfl (by decide +kernel) rfl rfl (Nat.le_of_ble_eq_true rfl) dX2_asked_10 (fun H locs hP hD hS9 => ?_)
    have hP : va_P D vwCl (cs_R S (cs_k1 b) bd cy) H := hP
    have hD : va_D (va_A (cs_R S th bd cy) s.heap.size) (cs_R S (cs_k1 b) bd cy) := hD
    refine lv_iload_n hx hb dX2_asked_13 rfl (lv_at hl 1 rfl) ?_
    exact W.zret (ty := .boolean) (v := cs_z b) hx hb hr (cs_z_nar _) (fun t ht _ => ⟨cs_z b, (), rfl, rfl, by rw [ht]; exact hP, by exact hD, hS9.F ht⟩) hS9.2.2 dX2_asked_14
set_option maxHeartbeats 4000000 in
set_option maxRecDepth 100000 in
theorem k_X2_asked_ (l : Launch) (D : va_G) (S : cs_St) (th : Int32) (bd : Nat → Nat) (cy : Nat → ClassId) (sz : Nat) (b b2 : Bool) : cs_Mw l yX2_asked_ wsX2_asked_ ({ frames := 0, cells := 0, slots := 0, locals := 0 }) D (cs_tys cy) (cs_R S th bd cy) sz [.ref (bd 0), .int (cs_z b), .int (cs_z b2)] (fun (_ : Unit) => cs_R S (cs_k2 b b2) bd cy) (fun rr _ => rr = cs_z (b && b2)) := by
  refine Met.ofW (cc := cX2_asked_) (maxL := 3) (ret := (some .boolean)) (by decide) rfl ?_
  intro pg e s m args below meth c s₁ B hml hv
  obtain ⟨rfl, hsz, hE, hP, hK, hD0⟩ := hv
  subst hsz
  have hD := hD0.self (sz := s.heap.size)
  have hA : ∀ q : Nat, s.heap.size ≤ q → va_A (cs_R S th bd cy) s.heap.size q := fun q h => Or.inr h
  have hS9 : va_S (va_A (cs_R S th bd cy) s.heap.size) s.heap s.heap [] := va_S.rf
  have hx := B.exec
  have hb := B.bytes
  have hr := B.returns
  have hts := atoms_spec (ws := wsX2_asked_) B.pre
  have hown : s.vm.findClass RX2 = some m.cls := findClass_of_methodNamed B.named
  have hlocks := B.notSynchronized
  have hl := lv_entry ([.ref (bd 0), .int (cs_z b), .int (cs_z b2)]) (n := 3) (Nat.le_of_ble_eq_true rfl)
  rw [lg_entry_eq]
  generalize (lg_sl ([.ref (bd 0), .int (cs_z b), .int (cs_z b2)]) ++ List.replicate (3 - (lg_sl ([.ref (bd 0), .int (cs_z b), .int (cs_z b2)])).length) Slot.unset).toArray = ls at hl ⊢
  have hl : lv_has ls 3 [(0, .ref (bd 0)), (1, .int (cs_z b)), (2, .int (cs_z b2))] := hl
  have hinX2 : ∀ w ∈ wsX20, w ∈ wsX2_asked_ := fun _ h => by unfold wsX2_asked_; exact List.mem_cons_of_mem _ (List.mem_append_right _ h)
  refine lv_aload_n hx hb dX2_asked__0 rfl (lv_at hl 0 rfl) ?_
  refine lv_iload_n hx hb dX2_asked__1 rfl (lv_at hl 1 rfl) ?_
  refine cs_ifne (tgt := 9) hx hb dX2_asked__2 (by decide) (fun c_2 => ?_) (fun c_2 => ?_)
  · refine lv_iload_n hx hb dX2_asked__9 rfl (lv_at hl 2 rfl) ?_
    refine cs_ifeq (tgt := 17) hx hb dX2_asked__10 (by decide) (fun c_10 => ?_) (fun c_10 => ?_)
    · refine lv_iconst (v := 2) hx hb dX2_asked__17 (by decide) ?_
      refine cs_top (y := cs_k2 b b2) (by rw [c_2, c_10]; rfl) ?_
      refine va_put (D := D) (ci := 2) (v := .int (cs_k2 b b2)) (ty := .int) (C := RX2) (T := TX2) (N := 10) hx hb hts hinX2 tyX2 tyX2_ok nmX2 hown hK hP hD hS9 0 cs_R0 rfl 9 (by decide) (hts (.fieldLink RX2 35 "ChecksumLabModel" "thrown" "I") (by decide +kernel)) (fun _ h9 => h9) rfl (by decide +kernel) rfl rfl (Nat.le_of_ble_eq_true rfl) dX2_asked__18 (fun H locs hP hD hS9 => ?_)
      have hP : va_P D vwCl (cs_R S (cs_k2 b b2) bd cy) H := hP
      have hD : va_D (va_A (cs_R S th bd cy) s.heap.size) (cs_R S (cs_k2 b b2) bd cy) := hD
      refine lv_aload_n hx hb dX2_asked__21 rfl (lv_at hl 0 rfl) ?_
      refine va_get (D := D) (ci := 2) (v := .int (cs_k2 b b2)) (C := RX2) (T := TX2) (N := 10) hx hb hts hinX2 hown hK hP 0 cs_R0 rfl 9 (by decide) (hts (.fieldLink RX2 35 "ChecksumLabModel" "thrown" "I") (by decide +kernel)) (fun _ h9 => h9) rfl dX2_asked__22 ?_
      refine lv_if_ne (tgt := 32) hx hb dX2_asked__25 (by decide) (fun c_25 => ?_) (fun c_25 => ?_)
      · refine lv_iconst (v := 0) hx hb dX2_asked__32 (by decide) ?_
        refine cs_top (y := cs_z (b && b2)) (by rw [c_2, c_10]; rfl) ?_
        exact W.zret (ty := .boolean) (v := cs_z (b && b2)) hx hb hr (cs_z_nar _) (fun t ht _ => ⟨cs_z (b && b2), (), rfl, rfl, by rw [ht]; exact hP, by exact hD, hS9.F ht⟩) hS9.2.2 dX2_asked__33
      · exact absurd c_25 (by rw [c_2, c_10]; decide)
    · refine lv_iconst (v := 0) hx hb dX2_asked__13 (by decide) ?_
      refine lv_goto (tgt := 18) hx hb dX2_asked__14 (by decide) ?_
      refine cs_top (y := cs_k2 b b2) (by rw [c_2, c_10]; rfl) ?_
      refine va_put (D := D) (ci := 2) (v := .int (cs_k2 b b2)) (ty := .int) (C := RX2) (T := TX2) (N := 10) hx hb hts hinX2 tyX2 tyX2_ok nmX2 hown hK hP hD hS9 0 cs_R0 rfl 9 (by decide) (hts (.fieldLink RX2 35 "ChecksumLabModel" "thrown" "I") (by decide +kernel)) (fun _ h9 => h9) rfl (by decide +kernel) rfl rfl (Nat.le_of_ble_eq_true rfl) dX2_asked__18 (fun H locs hP hD hS9 => ?_)
      have hP : va_P D vwCl (cs_R S (cs_k2 b b2) bd cy) H := hP
      have hD : va_D (va_A (cs_R S th bd cy) s.heap.size) (cs_R S (cs_k2 b b2) bd cy) := hD
      refine lv_aload_n hx hb dX2_asked__21 rfl (lv_at hl 0 rfl) ?_
      refine va_get (D := D) (ci := 2) (v := .int (cs_k2 b b2)) (C := RX2) (T := TX2) (N := 10) hx hb hts hinX2 hown hK hP 0 cs_R0 rfl 9 (by decide) (hts (.fieldLink RX2 35 "ChecksumLabModel" "thrown" "I") (by decide +kernel)) (fun _ h9 => h9) rfl dX2_asked__22 ?_
      refine lv_if_ne (tgt := 32) hx hb dX2_asked__25 (by decide) (fun c_25 => ?_) (fun c_25 => ?_)
      · exact absurd (by rw [c_2, c_10]; decide) c_25
      · refine lv_iconst (v := 1) hx hb dX2_asked__28 (by decide) ?_
        refine lv_goto (tgt := 33) hx hb dX2_asked__29 (by decide) ?_
        refine cs_top (y := cs_z (b && b2)) (by rw [c_2, c_10]; rfl) ?_
        exact W.zret (ty := .boolean) (v := cs_z (b && b2)) hx hb hr (cs_z_nar _) (fun t ht _ => ⟨cs_z (b && b2), (), rfl, rfl, by rw [ht]; exact hP, by exact hD, hS9.F ht⟩) hS9.2.2 dX2_asked__33
  · refine lv_iconst (v := 1) hx hb dX2_asked__5 (by decide) ?_
    refine lv_goto (tgt := 18) hx hb dX2_asked__6 (by decide) ?_
    refine cs_top (y := cs_k2 b b2) (by rw [c_2]; rfl) ?_
    refine va_put (D := D) (ci := 2) (v := .int (cs_k2 b b2)) (ty := .int) (C := RX2) (T := TX2) (N := 10) hx hb hts hinX2 tyX2 tyX2_ok nmX2 hown hK hP hD hS9 0 cs_R0 rfl 9 (by decide) (hts (.fieldLink RX2 35 "ChecksumLabModel" "thrown" "I") (by decide +kernel)) (fun _ h9 => h9) rfl (by decide +kernel) rfl rfl (Nat.le_of_ble_eq_true rfl) dX2_asked__18 (fun H locs hP hD hS9 => ?_)
    have hP : va_P D vwCl (cs_R S (cs_k2 b b2) bd cy) H := hP
    have hD : va_D (va_A (cs_R S th bd cy) s.heap.size) (cs_R S (cs_k2 b b2) bd cy) := hD
    refine lv_aload_n hx hb dX2_asked__21 rfl (lv_at hl 0 rfl) ?_
    refine va_get (D := D) (ci := 2) (v := .int (cs_k2 b b2)) (C := RX2) (T := TX2) (N := 10) hx hb hts hinX2 hown hK hP 0 cs_R0 rfl 9 (by decide) (hts (.fieldLink RX2 35 "ChecksumLabModel" "thrown" "I") (by decide +kernel)) (fun _ h9 => h9) rfl dX2_asked__22 ?_
    refine lv_if_ne (tgt := 32) hx hb dX2_asked__25 (by decide) (fun c_25 => ?_) (fun c_25 => ?_)
    · refine lv_iconst (v := 0) hx hb dX2_asked__32 (by decide) ?_
      refine cs_top (y := cs_z (b && b2)) (by rw [c_2]; rfl) ?_
      exact W.zret (ty := .boolean) (v := cs_z (b && b2)) hx hb hr (cs_z_nar _) (fun t ht _ => ⟨cs_z (b && b2), (), rfl, rfl, by rw [ht]; exact hP, by exact hD, hS9.F ht⟩) hS9.2.2 dX2_asked__33
    · exact absurd c_25 (by rw [c_2]; cases b2 <;> decide)
set_option maxHeartbeats 4000000 in
set_option maxRecDepth 100000 in
theorem k_X2_models (l : Launch) (D : va_G) (S : cs_St) (th : Int32) (bd : Nat → Nat) (cy : Nat → ClassId) (sz : Nat)  : cs_Mw l yX2_models wsX2_models ({ frames := 0, cells := 0, slots := 0, locals := 0 }) D (cs_tys cy) (cs_R S th bd cy) sz [.ref (bd 0)] (fun (_ : Unit) => cs_R S 0 bd cy) (fun rr _ => rr = nI (cs_n S)) := by
  refine Met.ofW (cc := cX2_models) (maxL := 1) (ret := (some .int)) (by decide) rfl ?_
  intro pg e s m args below meth c s₁ B hml hv
  obtain ⟨rfl, hsz, hE, hP, hK, hD0⟩ := hv
  subst hsz
  have hD := hD0.self (sz := s.heap.size)
  have hA : ∀ q : Nat, s.heap.size ≤ q → va_A (cs_R S th bd cy) s.heap.size q := fun q h => Or.inr h
  have hS9 : va_S (va_A (cs_R S th bd cy) s.heap.size) s.heap s.heap [] := va_S.rf
  have hx := B.exec
  have hb := B.bytes
  have hr := B.returns
  have hts := atoms_spec (ws := wsX2_models) B.pre
  have hown : s.vm.findClass RX2 = some m.cls := findClass_of_methodNamed B.named
  have hlocks := B.notSynchronized
  have hl := lv_entry ([.ref (bd 0)]) (n := 1) (Nat.le_of_ble_eq_true rfl)
  rw [lg_entry_eq]
  generalize (lg_sl ([.ref (bd 0)]) ++ List.replicate (1 - (lg_sl ([.ref (bd 0)])).length) Slot.unset).toArray = ls at hl ⊢
  have hl : lv_has ls 1 [(0, .ref (bd 0))] := hl
  have hinX2 : ∀ w ∈ wsX20, w ∈ wsX2_models := fun _ h => by unfold wsX2_models; exact List.mem_cons_of_mem _ (List.mem_append_right _ h)
  refine lv_aload_n hx hb dX2_models_0 rfl (lv_at hl 0 rfl) ?_
  refine lv_iconst (v := 0) hx hb dX2_models_1 (by decide) ?_
  refine va_put (D := D) (ci := 2) (v := .int 0) (ty := .int) (C := RX2) (T := TX2) (N := 10) hx hb hts hinX2 tyX2 tyX2_ok nmX2 hown hK hP hD hS9 0 cs_R0 rfl 9 (by decide) (hts (.fieldLink RX2 35 "ChecksumLabModel" "thrown" "I") (by decide +kernel)) (fun _ h9 => h9) rfl (by decide +kernel) rfl rfl (Nat.le_of_ble_eq_true rfl) dX2_models_2 (fun H locs hP hD hS9 => ?_)
  have hP : va_P D vwCl (cs_R S 0 bd cy) H := hP
  have hD : va_D (va_A (cs_R S th bd cy) s.heap.size) (cs_R S 0 bd cy) := hD
  refine lv_aload_n hx hb dX2_models_5 rfl (lv_at hl 0 rfl) ?_
  refine va_get (D := D) (ci := 2) (v := .int (nI (cs_n S))) (C := RX2) (T := TX2) (N := 10) hx hb hts hinX2 hown hK hP 0 cs_R0 rfl 6 (by decide) (hts (.fieldLink RX2 39 "ChecksumLabModel" "models" "I") (by decide +kernel)) (fun _ h9 => h9) rfl dX2_models_6 ?_
  exact W.iret (v := nI (cs_n S)) hx hb hr (fun t ht _ => ⟨nI (cs_n S), (), rfl, rfl, by rw [ht]; exact hP, by exact hD, hS9.F ht⟩) hS9.2.2 dX2_models_9
set_option maxHeartbeats 4000000 in
set_option maxRecDepth 100000 in
theorem k_X2_check (l : Launch) (D : va_G) (S : cs_St) (th : Int32) (bd : Nat → Nat) (cy : Nat → ClassId) (sz : Nat) (hS : cs_ok S) (v : Int32) : cs_Mw l yX2_check wsX2_check ({ frames := 2, cells := 0, slots := 0, locals := 50 }) D (cs_tys cy) (cs_R S th bd cy) sz [.ref (bd 0), .int v] (fun (_ : Unit) => cs_R S (cs_k1 (cs_M S v)) bd cy) (fun rr _ => cs_k1 (cs_M S v) = 0 → rr = cs_vChk S v) := by
  refine Met.ofW (cc := cX2_check) (maxL := 4) (ret := (some .int)) (by decide) rfl ?_
  intro pg e s m args below meth c s₁ B hml hv
  obtain ⟨rfl, hsz, hE, hP, hK, hD0⟩ := hv
  subst hsz
  have hD := hD0.self (sz := s.heap.size)
  have hA : ∀ q : Nat, s.heap.size ≤ q → va_A (cs_R S th bd cy) s.heap.size q := fun q h => Or.inr h
  have hS9 : va_S (va_A (cs_R S th bd cy) s.heap.size) s.heap s.heap [] := va_S.rf
  have hx := B.exec
  have hb := B.bytes
  have hr := B.returns
  have hts := atoms_spec (ws := wsX2_check) B.pre
  have hown : s.vm.findClass RX2 = some m.cls := findClass_of_methodNamed B.named
  have hlocks := B.notSynchronized
  have hl := lv_entry ([.ref (bd 0), .int v]) (n := 4) (Nat.le_of_ble_eq_true rfl)
  rw [lg_entry_eq]
  generalize (lg_sl ([.ref (bd 0), .int v]) ++ List.replicate (4 - (lg_sl ([.ref (bd 0), .int v])).length) Slot.unset).toArray = ls at hl ⊢
  have hl : lv_has ls 4 [(0, .ref (bd 0)), (1, .int v)] := hl
  have hinX2 : ∀ w ∈ wsX20, w ∈ wsX2_check := fun _ h => by unfold wsX2_check; exact List.mem_cons_of_mem _ (List.mem_append_right _ h)
  have h6 := hS.1
  refine lv_aload_n hx hb dX2_check_0 rfl (lv_at hl 0 rfl) ?_
  refine lv_aload_n hx hb dX2_check_1 rfl (lv_at hl 0 rfl) ?_
  refine lv_iload_n hx hb dX2_check_2 rfl (lv_at hl 1 rfl) ?_
  refine vp_callSi (W.runV (As := [.int v]) (rest := [.ref (bd 0)]) ⟨hx, hb, hml, hown, hts⟩ (k_X2_isModel l D S th bd cy  v) (cwV 1 hts gX2_check_X2_isModel rfl rfl rfl (by decide +kernel) ⟨Nat.le_of_ble_eq_true rfl, Nat.le_of_ble_eq_true rfl⟩) ⟨cs_B.blind, va_recv hK hP (ci := 2) (q0 := 0) rfl rfl, cs_B.at hE hP hK⟩ rfl rfl hl.1 rfl (lv_room (Nat.le_of_ble_eq_true rfl)) dX2_check_3 ⟨Nat.le_of_ble_eq_true rfl, Nat.le_of_ble_eq_true rfl⟩) (fun r_3 e_3 => ?_)
  subst e_3
  refine cs_top (y := cs_z (cs_M S v)) rfl ?_
  have hF := cs_inW hD hS9 hA
  refine cs_wcalli (va_runV (As := [.int (cs_z (cs_M S v))]) (rest := []) ⟨hx, hb, hml, hown, hts⟩ (k_X2_asked l D S th bd cy s.heap.size (cs_M S v)) (cwV 1 hts gX2_check_X2_asked rfl rfl rfl (by decide +kernel) ⟨Nat.le_of_ble_eq_true rfl, Nat.le_of_ble_eq_true rfl⟩) ⟨cs_Bw.blind, va_recv hK hP (ci := 2) (q0 := 0) rfl rfl, cs_Bw.at hE hP hK hD⟩ rfl rfl hl.1 rfl (lv_room (Nat.le_of_ble_eq_true rfl)) dX2_check_6 ⟨Nat.le_of_ble_eq_true rfl, Nat.le_of_ble_eq_true rfl⟩) hS9 hF (fun r_6 u9 H locs hp hP hD1 hz hk1 hS9 => ?_)
  have hP : va_P D vwCl (cs_R S (cs_k1 (cs_M S v)) bd cy) H := hP
  have hD : va_D (va_A (cs_R S th bd cy) s.heap.size) (cs_R S (cs_k1 (cs_M S v)) bd cy) := hD1.weaken (fun k q _ h => hF q.1 h)
  subst hp
  refine cs_ifne (tgt := 14) hx hb dX2_check_9 (by decide) (fun c_9 => ?_) (fun c_9 => ?_)
  · obtain ⟨k, hk, rfl⟩ := cs_mod_of hS c_9
    have hk31 : k < 2 ^ 31 := by omega
    refine lv_aload_n hx hb dX2_check_14 rfl (lv_at hl 0 rfl) ?_
    refine va_get (D := D) (ci := 2) (v := .ref (bd 3)) (C := RX2) (T := TX2) (N := 10) hx hb hts hinX2 hown hK hP 0 cs_R0 rfl 2 (by decide) (hts (.fieldLink RX2 16 "ChecksumLabModel" "init" "[I") (by decide +kernel)) (fun _ h9 => h9) rfl dX2_check_15 ?_
    refine lv_iload_n hx hb dX2_check_18 rfl (lv_at hl 1 rfl) ?_
    refine cs_iald hx hb hK hP 3 0 cs_R3 rfl (k := k) (by omega) (by decide) dX2_check_19 ?_
    refine lv_istore_n (lv' := [(2, .int (cs_i S k)), (0, .ref (bd 0)), (1, .int (nI k))]) hx hb dX2_check_20 rfl hl (by decide) rfl (fun ls hl => ?_)
    refine lv_bipush (v := 49) hx hb dX2_check_21 (by decide) ?_
    refine lv_istore_n (lv' := [(3, .int 49), (2, .int (cs_i S k)), (0, .ref (bd 0)), (1, .int (nI k))]) hx hb dX2_check_23 rfl hl (by decide) rfl (fun ls hl => ?_)
    have loop : ∀ (n j : Nat), j + n = 9 → ∀ ls : Array Slot, lv_has ls 4 [(0, .ref (bd 0)), (1, .int (nI k)), (2, .int (cs_ps (cs_w S k) (cs_p S k) (cs_ri S k) (cs_i S k) (fun j => j) 49 j)), (3, .int (nI (49 + j)))] → W pg l e (headSpec wsX2_check ({ frames := 2, cells := 0, slots := 0, locals := 50 })).room s m [Value.ref (bd 0), Value.int (nI k)].toArray below meth c H locs 0 0 (MQ below (cs_Qw D (cs_R S th bd cy) (fun (_ : Unit) => cs_R S (cs_k1 (cs_M S (nI k))) bd cy) (fun rr _ => cs_k1 (cs_M S (nI k)) = 0 → rr = cs_vChk S (nI k))) [Value.ref (bd 0), Value.int (nI k)].toArray s 0 0 (va_A (cs_R S th bd cy) s.heap.size)) (F0 m 24 ls []) := by
      intro n
      induction n with
      | zero =>
        intro j hj ls hl
        obtain rfl : j = 9 := by omega
        refine lv_iload_n hx hb dX2_check_24 rfl (lv_at hl 3 rfl) ?_
        refine lv_bipush (v := 57) hx hb dX2_check_25 (by decide) ?_
        refine lv_icmp_gt (tgt := 44) hx hb dX2_check_27 (by decide) (fun c_27 => ?_) (fun c_27 => ?_)
        · refine lv_aload_n hx hb dX2_check_44 rfl (lv_at hl 0 rfl) ?_
          refine lv_iload_n hx hb dX2_check_45 rfl (lv_at hl 1 rfl) ?_
          refine lv_iload_n hx hb dX2_check_46 rfl (lv_at hl 2 rfl) ?_
          refine vp_callSi (W.runV (As := [.int (nI k), .int (cs_ps (cs_w S k) (cs_p S k) (cs_ri S k) (cs_i S k) (fun j => j) 49 9)]) (rest := []) ⟨hx, hb, hml, hown, hts⟩ (k_X2_sumOf l D S (cs_k1 (cs_M S (nI k))) bd cy hS k hk (cs_ps (cs_w S k) (cs_p S k) (cs_ri S k) (cs_i S k) (fun j => j) 49 9)) (cwV 2 hts gX2_check_X2_sumOf rfl rfl rfl (by decide +kernel) ⟨Nat.le_of_ble_eq_true rfl, Nat.le_of_ble_eq_true rfl⟩) ⟨cs_B.blind, va_recv hK hP (ci := 2) (q0 := 0) rfl rfl, cs_B.at hE hP hK⟩ rfl rfl hl.1 rfl (lv_room (Nat.le_of_ble_eq_true rfl)) dX2_check_47 ⟨Nat.le_of_ble_eq_true rfl, Nat.le_of_ble_eq_true rfl⟩) (fun r_47 e_47 => ?_)
          subst e_47
          exact W.iret (v := cs_so (cs_ro S k) (cs_w S k) (cs_ps (cs_w S k) (cs_p S k) (cs_ri S k) (cs_i S k) (fun j => j) 49 9) ^^^ cs_x S k) hx hb hr (fun t ht _ => ⟨cs_so (cs_ro S k) (cs_w S k) (cs_ps (cs_w S k) (cs_p S k) (cs_ri S k) (cs_i S k) (fun j => j) 49 9) ^^^ cs_x S k, (), rfl, fun _ => by unfold cs_vChk cs_psS; rw [cs_cI hk31], by rw [ht]; exact hP, by exact hD, hS9.F ht⟩) hS9.2.2 dX2_check_50
        · exact absurd (by decide) c_27
      | succ n ih =>
        intro j hj ls hl
        refine lv_iload_n hx hb dX2_check_24 rfl (lv_at hl 3 rfl) ?_
        refine lv_bipush (v := 57) hx hb dX2_check_25 (by decide) ?_
        refine lv_icmp_gt (tgt := 44) hx hb dX2_check_27 (by decide) (fun c_27 => ?_) (fun c_27 => ?_)
        · exact absurd c_27 (nI_nlt (a := 57) (b := 49 + j) (by omega) (by omega))
        · refine lv_aload_n hx hb dX2_check_30 rfl (lv_at hl 0 rfl) ?_
          refine lv_iload_n hx hb dX2_check_31 rfl (lv_at hl 1 rfl) ?_
          refine lv_iload_n hx hb dX2_check_32 rfl (lv_at hl 2 rfl) ?_
          refine lv_iload_n hx hb dX2_check_33 rfl (lv_at hl 3 rfl) ?_
          refine vp_callSi (W.runV (As := [.int (nI k), .int (cs_ps (cs_w S k) (cs_p S k) (cs_ri S k) (cs_i S k) (fun j => j) 49 j), .int (nI (49 + j))]) (rest := []) ⟨hx, hb, hml, hown, hts⟩ (k_X2_takes l D S (cs_k1 (cs_M S (nI k))) bd cy hS k hk (cs_ps (cs_w S k) (cs_p S k) (cs_ri S k) (cs_i S k) (fun j => j) 49 j) (49 + j) (by omega)) (cwV 3 hts gX2_check_X2_takes rfl rfl rfl (by decide +kernel) ⟨Nat.le_of_ble_eq_true rfl, Nat.le_of_ble_eq_true rfl⟩) ⟨cs_B.blind, va_recv hK hP (ci := 2) (q0 := 0) rfl rfl, cs_B.at hE hP hK⟩ rfl rfl hl.1 rfl (lv_room (Nat.le_of_ble_eq_true rfl)) dX2_check_34 ⟨Nat.le_of_ble_eq_true rfl, Nat.le_of_ble_eq_true rfl⟩) (fun r_34 e_34 => ?_)
          subst e_34
          refine lv_istore_n (lv' := [(2, .int (cs_tk (cs_w S k) (cs_p S k) (cs_ri S k) (cs_ps (cs_w S k) (cs_p S k) (cs_ri S k) (cs_i S k) (fun j => j) 49 j) (nI (49 + j)))), (0, .ref (bd 0)), (1, .int (nI k)), (3, .int (nI (49 + j)))]) hx hb dX2_check_37 rfl hl (by decide) rfl (fun ls hl => ?_)
          refine lv_iinc (v := nI (49 + (j + 1))) (lv' := [(3, .int (nI (49 + (j + 1)))), (2, .int (cs_tk (cs_w S k) (cs_p S k) (cs_ri S k) (cs_ps (cs_w S k) (cs_p S k) (cs_ri S k) (cs_i S k) (fun j => j) 49 j) (nI (49 + j)))), (0, .ref (bd 0)), (1, .int (nI k))]) hx hb dX2_check_38 hl (k := 3) rfl (cs_inc1 (49 + j)) (by decide) rfl (fun ls hl => ?_)
          refine lv_goto (tgt := 24) hx hb dX2_check_41 (by decide) ?_
          exact ih (j + 1) (by omega) ls (lv_sub hl [2, 3, 1, 0] rfl)
    exact loop 9 0 (by omega) ls (lv_sub hl [2, 3, 1, 0] rfl)
  · refine lv_iconst (v := 0) hx hb dX2_check_12 (by decide) ?_
    exact W.iret (v := 0) hx hb hr (fun t ht _ => ⟨0, (), rfl, fun z => absurd (cs_k1_0.mp z) (by rw [c_9]; decide), by rw [ht]; exact hP, by exact hD, hS9.F ht⟩) hS9.2.2 dX2_check_13
set_option maxHeartbeats 4000000 in
set_option maxRecDepth 100000 in
theorem k_X2_multiply (l : Launch) (D : va_G) (S : cs_St) (th : Int32) (bd : Nat → Nat) (cy : Nat → ClassId) (sz : Nat) (hS : cs_ok S) (v a b : Int32) : cs_Mw l yX2_multiply wsX2_multiply ({ frames := 2, cells := 0, slots := 0, locals := 50 }) D (cs_tys cy) (cs_R S th bd cy) sz [.ref (bd 0), .int v, .int a, .int b] (fun (_ : Unit) => cs_R S (cs_kMul S v a b) bd cy) (fun rr _ => cs_kMul S v a b = 0 → rr = cs_vMul S v a b) := by
  refine Met.ofW (cc := cX2_multiply) (maxL := 5) (ret := (some .int)) (by decide) rfl ?_
  intro pg e s m args below meth c s₁ B hml hv
  obtain ⟨rfl, hsz, hE, hP, hK, hD0⟩ := hv
  subst hsz
  have hD := hD0.self (sz := s.heap.size)
  have hA : ∀ q : Nat, s.heap.size ≤ q → va_A (cs_R S th bd cy) s.heap.size q := fun q h => Or.inr h
  have hS9 : va_S (va_A (cs_R S th bd cy) s.heap.size) s.heap s.heap [] := va_S.rf
  have hx := B.exec
  have hb := B.bytes
  have hr := B.returns
  have hts := atoms_spec (ws := wsX2_multiply) B.pre
  have hown : s.vm.findClass RX2 = some m.cls := findClass_of_methodNamed B.named
  have hlocks := B.notSynchronized
  have hl := lv_entry ([.ref (bd 0), .int v, .int a, .int b]) (n := 5) (Nat.le_of_ble_eq_true rfl)
  rw [lg_entry_eq]
  generalize (lg_sl ([.ref (bd 0), .int v, .int a, .int b]) ++ List.replicate (5 - (lg_sl ([.ref (bd 0), .int v, .int a, .int b])).length) Slot.unset).toArray = ls at hl ⊢
  have hl : lv_has ls 5 [(0, .ref (bd 0)), (1, .int v), (2, .int a), (3, .int b)] := hl
  have hinX2 : ∀ w ∈ wsX20, w ∈ wsX2_multiply := fun _ h => by unfold wsX2_multiply; exact List.mem_cons_of_mem _ (List.mem_append_right _ h)
  have h6 := hS.1
  refine lv_aload_n hx hb dX2_multiply_0 rfl (lv_at hl 0 rfl) ?_
  refine lv_iload_n hx hb dX2_multiply_1 rfl (lv_at hl 1 rfl) ?_
  refine vp_callSi (W.runV (As := [.int v]) (rest := []) ⟨hx, hb, hml, hown, hts⟩ (k_X2_isModel l D S th bd cy  v) (cwV 1 hts gX2_multiply_X2_isModel rfl rfl rfl (by decide +kernel) ⟨Nat.le_of_ble_eq_true rfl, Nat.le_of_ble_eq_true rfl⟩) ⟨cs_B.blind, va_recv hK hP (ci := 2) (q0 := 0) rfl rfl, cs_B.at hE hP hK⟩ rfl rfl hl.1 rfl (lv_room (Nat.le_of_ble_eq_true rfl)) dX2_multiply_2 ⟨Nat.le_of_ble_eq_true rfl, Nat.le_of_ble_eq_true rfl⟩) (fun r_2 e_2 => ?_)
  subst e_2
  refine cs_top (y := cs_z (cs_M S v)) rfl ?_
  refine lv_istore (lv' := [(4, .int (cs_z (cs_M S v))), (0, .ref (bd 0)), (1, .int v), (2, .int a), (3, .int b)]) hx hb dX2_multiply_5 hl (by decide) rfl (fun ls hl => ?_)
  have j38 : W pg l e (headSpec wsX2_multiply ({ frames := 2, cells := 0, slots := 0, locals := 50 })).room s m [Value.ref (bd 0), Value.int v, Value.int a, Value.int b].toArray below meth c s.heap [] 0 0 (MQ below (cs_Qw D (cs_R S th bd cy) (fun (_ : Unit) => cs_R S (cs_kMul S v a b) bd cy) (fun rr _ => cs_kMul S v a b = 0 → rr = cs_vMul S v a b)) [Value.ref (bd 0), Value.int v, Value.int a, Value.int b].toArray s 0 0 (va_A (cs_R S th bd cy) s.heap.size)) (F0 m 38 ls [.int (cs_z (cs_M S v && cs_nS S v a && cs_nS S v b)), .int (cs_z (cs_M S v)), .ref (bd 0)]) := by
    have hF := cs_inW hD hS9 hA
    refine cs_wcalli (va_runV (As := [.int (cs_z (cs_M S v)), .int (cs_z (cs_M S v && cs_nS S v a && cs_nS S v b))]) (rest := []) ⟨hx, hb, hml, hown, hts⟩ (k_X2_asked_ l D S th bd cy s.heap.size (cs_M S v) (cs_M S v && cs_nS S v a && cs_nS S v b)) (cwV 2 hts gX2_multiply_X2_asked_ rfl rfl rfl (by decide +kernel) ⟨Nat.le_of_ble_eq_true rfl, Nat.le_of_ble_eq_true rfl⟩) ⟨cs_Bw.blind, va_recv hK hP (ci := 2) (q0 := 0) rfl rfl, cs_Bw.at hE hP hK hD⟩ rfl rfl hl.1 rfl (lv_room (Nat.le_of_ble_eq_true rfl)) dX2_multiply_38 ⟨Nat.le_of_ble_eq_true rfl, Nat.le_of_ble_eq_true rfl⟩) hS9 hF (fun r_38 u9 H locs hp hP hD1 hz hk1 hS9 => ?_)
    have hP : va_P D vwCl (cs_R S (cs_k2 (cs_M S v) (cs_M S v && cs_nS S v a && cs_nS S v b)) bd cy) H := hP
    have hD : va_D (va_A (cs_R S th bd cy) s.heap.size) (cs_R S (cs_k2 (cs_M S v) (cs_M S v && cs_nS S v a && cs_nS S v b)) bd cy) := hD1.weaken (fun k q _ h => hF q.1 h)
    subst hp
    refine cs_ifeq (tgt := 60) hx hb dX2_multiply_41 (by decide) (fun c_41 => ?_) (fun c_41 => ?_)
    · refine lv_iconst (v := 0) hx hb dX2_multiply_60 (by decide) ?_
      exact W.iret (v := 0) hx hb hr (fun t ht _ => ⟨0, (), rfl, fun z => absurd (cs_k2_0.mp z) (by rw [c_41]; decide), by rw [ht]; exact hP, by exact hD, hS9.F ht⟩) hS9.2.2 dX2_multiply_61
    · have hm := (cs_and c_41).1
      obtain ⟨k, hk, rfl⟩ := cs_mod_of hS hm
      have hk31 : k < 2 ^ 31 := by omega
      obtain ⟨hw1, hw2⟩ := hS.2.1 k hk
      refine lv_aload_n hx hb dX2_multiply_44 rfl (lv_at hl 1 rfl) ?_
      refine lv_iload_n hx hb dX2_multiply_45 rfl (lv_at hl 2 rfl) ?_
      refine lv_iload_n hx hb dX2_multiply_46 rfl (lv_at hl 3 rfl) ?_
      refine lv_iload_n hx hb dX2_multiply_47 rfl (lv_at hl 4 rfl) ?_
      refine lv_aload_n hx hb dX2_multiply_48 rfl (lv_at hl 1 rfl) ?_
      refine va_get (D := D) (ci := 2) (v := .ref (bd 1)) (C := RX2) (T := TX2) (N := 10) hx hb hts hinX2 hown hK hP 0 cs_R0 rfl 0 (by decide) (hts (.fieldLink RX2 7 "ChecksumLabModel" "width" "[I") (by decide +kernel)) (fun _ h9 => h9) rfl dX2_multiply_49 ?_
      refine lv_iload_n hx hb dX2_multiply_52 rfl (lv_at hl 2 rfl) ?_
      refine cs_iald hx hb hK hP 1 0 cs_R1 rfl (k := k) (by omega) (by decide) dX2_multiply_53 ?_
      refine vp_callSi (W.runV (As := [.int (nI k), .int a, .int b, .int (nI (cs_w S k))]) (rest := []) ⟨hx, hb, hml, hown, hts⟩ (k_X2_times l D S (cs_k2 (cs_M S (nI k)) (cs_M S (nI k) && cs_nS S (nI k) a && cs_nS S (nI k) b)) bd cy hS k hk a b (cs_w S k) hw2) (cwV 4 hts gX2_multiply_X2_times rfl rfl rfl (by decide +kernel) ⟨Nat.le_of_ble_eq_true rfl, Nat.le_of_ble_eq_true rfl⟩) ⟨cs_B.blind, va_recv hK hP (ci := 2) (q0 := 0) rfl rfl, cs_B.at hE hP hK⟩ rfl rfl hl.1 rfl (lv_room (Nat.le_of_ble_eq_true rfl)) dX2_multiply_54 ⟨Nat.le_of_ble_eq_true rfl, Nat.le_of_ble_eq_true rfl⟩) (fun r_54 e_54 => ?_)
      subst e_54
      refine lv_goto (tgt := 61) hx hb dX2_multiply_57 (by decide) ?_
      exact W.iret (v := cs_mul (cs_w S k) (cs_p S k) a b (cs_w S k)) hx hb hr (fun t ht _ => ⟨cs_mul (cs_w S k) (cs_p S k) a b (cs_w S k), (), rfl, fun _ => by unfold cs_vMul; rw [cs_cI hk31], by rw [ht]; exact hP, by exact hD, hS9.F ht⟩) hS9.2.2 dX2_multiply_61
  refine lv_aload_n hx hb dX2_multiply_7 rfl (lv_at hl 1 rfl) ?_
  refine lv_iload hx hb dX2_multiply_8 (lv_at hl 0 rfl) ?_
  refine lv_iload hx hb dX2_multiply_10 (lv_at hl 0 rfl) ?_
  refine cs_ifeq (tgt := 37) hx hb dX2_multiply_12 (by decide) (fun c_12 => ?_) (fun c_12 => ?_)
  · refine lv_iconst (v := 0) hx hb dX2_multiply_37 (by decide) ?_
    refine cs_top (y := cs_z (cs_M S v && cs_nS S v a && cs_nS S v b)) (by simp [cs_z, cs_nS, c_12]) ?_
    exact j38
  · obtain ⟨k, hk, rfl⟩ := cs_mod_of hS c_12
    have hk31 : k < 2 ^ 31 := by omega
    refine lv_aload_n hx hb dX2_multiply_15 rfl (lv_at hl 1 rfl) ?_
    refine lv_iload_n hx hb dX2_multiply_16 rfl (lv_at hl 2 rfl) ?_
    refine lv_iload_n hx hb dX2_multiply_17 rfl (lv_at hl 3 rfl) ?_
    refine vp_callSi (W.runV (As := [.int (nI k), .int a]) (rest := [.int (cs_z (cs_M S (nI k))), .ref (bd 0)]) ⟨hx, hb, hml, hown, hts⟩ (k_X2_isNumber l D S th bd cy hS k hk a) (cwV 2 hts gX2_multiply_X2_isNumber rfl rfl rfl (by decide +kernel) ⟨Nat.le_of_ble_eq_true rfl, Nat.le_of_ble_eq_true rfl⟩) ⟨cs_B.blind, va_recv hK hP (ci := 2) (q0 := 0) rfl rfl, cs_B.at hE hP hK⟩ rfl rfl hl.1 rfl (lv_room (Nat.le_of_ble_eq_true rfl)) dX2_multiply_18 ⟨Nat.le_of_ble_eq_true rfl, Nat.le_of_ble_eq_true rfl⟩) (fun r_18 e_18 => ?_)
    subst e_18
    refine cs_ifeq (tgt := 37) hx hb dX2_multiply_21 (by decide) (fun c_21 => ?_) (fun c_21 => ?_)
    · refine lv_iconst (v := 0) hx hb dX2_multiply_37 (by decide) ?_
      refine cs_top (y := cs_z (cs_M S (nI k) && cs_nS S (nI k) a && cs_nS S (nI k) b)) (by simp [cs_z, cs_nS, cs_cI hk31, c_12, c_21]) ?_
      exact j38
    · refine lv_aload_n hx hb dX2_multiply_24 rfl (lv_at hl 1 rfl) ?_
      refine lv_iload_n hx hb dX2_multiply_25 rfl (lv_at hl 2 rfl) ?_
      refine lv_iload_n hx hb dX2_multiply_26 rfl (lv_at hl 4 rfl) ?_
      refine vp_callSi (W.runV (As := [.int (nI k), .int b]) (rest := [.int (cs_z (cs_M S (nI k))), .ref (bd 0)]) ⟨hx, hb, hml, hown, hts⟩ (k_X2_isNumber l D S th bd cy hS k hk b) (cwV 2 hts gX2_multiply_X2_isNumber rfl rfl rfl (by decide +kernel) ⟨Nat.le_of_ble_eq_true rfl, Nat.le_of_ble_eq_true rfl⟩) ⟨cs_B.blind, va_recv hK hP (ci := 2) (q0 := 0) rfl rfl, cs_B.at hE hP hK⟩ rfl rfl hl.1 rfl (lv_room (Nat.le_of_ble_eq_true rfl)) dX2_multiply_27 ⟨Nat.le_of_ble_eq_true rfl, Nat.le_of_ble_eq_true rfl⟩) (fun r_27 e_27 => ?_)
      subst e_27
      refine cs_ifeq (tgt := 37) hx hb dX2_multiply_30 (by decide) (fun c_30 => ?_) (fun c_30 => ?_)
      · refine lv_iconst (v := 0) hx hb dX2_multiply_37 (by decide) ?_
        refine cs_top (y := cs_z (cs_M S (nI k) && cs_nS S (nI k) a && cs_nS S (nI k) b)) (by simp [cs_z, cs_nS, cs_cI hk31, c_12, c_21, c_30]) ?_
        exact j38
      · refine lv_iconst (v := 1) hx hb dX2_multiply_33 (by decide) ?_
        refine lv_goto (tgt := 38) hx hb dX2_multiply_34 (by decide) ?_
        refine cs_top (y := cs_z (cs_M S (nI k) && cs_nS S (nI k) a && cs_nS S (nI k) b)) (by simp [cs_z, cs_nS, cs_cI hk31, c_12, c_21, c_30]) ?_
        exact j38
set_option maxHeartbeats 4000000 in
set_option maxRecDepth 100000 in
theorem k_X2_power (l : Launch) (D : va_G) (S : cs_St) (th : Int32) (bd : Nat → Nat) (cy : Nat → ClassId) (sz : Nat) (hS : cs_ok S) (v : Int32) (x : Int64) : cs_Mw l yX2_power wsX2_power ({ frames := 3, cells := 0, slots := 0, locals := 75 }) D (cs_tys cy) (cs_R S th bd cy) sz [.ref (bd 0), .int v, .long x] (fun (_ : Unit) => cs_R S (cs_kPow S v x) bd cy) (fun rr _ => cs_kPow S v x = 0 → rr = cs_vPow S v x) := by
  refine Met.ofW (cc := cX2_power) (maxL := 4) (ret := (some .int)) (by decide) rfl ?_
  intro pg e s m args below meth c s₁ B hml hv
  obtain ⟨rfl, hsz, hE, hP, hK, hD0⟩ := hv
  subst hsz
  have hD := hD0.self (sz := s.heap.size)
  have hA : ∀ q : Nat, s.heap.size ≤ q → va_A (cs_R S th bd cy) s.heap.size q := fun q h => Or.inr h
  have hS9 : va_S (va_A (cs_R S th bd cy) s.heap.size) s.heap s.heap [] := va_S.rf
  have hx := B.exec
  have hb := B.bytes
  have hr := B.returns
  have hts := atoms_spec (ws := wsX2_power) B.pre
  have hown : s.vm.findClass RX2 = some m.cls := findClass_of_methodNamed B.named
  have hlocks := B.notSynchronized
  have hl := lv_entry ([.ref (bd 0), .int v, .long x]) (n := 4) (Nat.le_of_ble_eq_true rfl)
  rw [lg_entry_eq]
  generalize (lg_sl ([.ref (bd 0), .int v, .long x]) ++ List.replicate (4 - (lg_sl ([.ref (bd 0), .int v, .long x])).length) Slot.unset).toArray = ls at hl ⊢
  have hl : lv_has ls 4 [(0, .ref (bd 0)), (1, .int v), (2, .long x)] := hl
  have hinX2 : ∀ w ∈ wsX20, w ∈ wsX2_power := fun _ h => by unfold wsX2_power; exact List.mem_cons_of_mem _ (List.mem_append_right _ h)
  have h6 := hS.1
  refine lv_aload_n hx hb dX2_power_0 rfl (lv_at hl 0 rfl) ?_
  refine lv_aload_n hx hb dX2_power_1 rfl (lv_at hl 0 rfl) ?_
  refine lv_iload_n hx hb dX2_power_2 rfl (lv_at hl 1 rfl) ?_
  refine vp_callSi (W.runV (As := [.int v]) (rest := [.ref (bd 0)]) ⟨hx, hb, hml, hown, hts⟩ (k_X2_isModel l D S th bd cy  v) (cwV 1 hts gX2_power_X2_isModel rfl rfl rfl (by decide +kernel) ⟨Nat.le_of_ble_eq_true rfl, Nat.le_of_ble_eq_true rfl⟩) ⟨cs_B.blind, va_recv hK hP (ci := 2) (q0 := 0) rfl rfl, cs_B.at hE hP hK⟩ rfl rfl hl.1 rfl (lv_room (Nat.le_of_ble_eq_true rfl)) dX2_power_3 ⟨Nat.le_of_ble_eq_true rfl, Nat.le_of_ble_eq_true rfl⟩) (fun r_3 e_3 => ?_)
  subst e_3
  refine cs_top (y := cs_z (cs_M S v)) rfl ?_
  refine lv_lload_n hx hb dX2_power_6 rfl (lv_at hl 2 rfl) ?_
  refine lv_lconst (v := 0) hx hb dX2_power_7 (by decide) ?_
  refine W.lcmp hx hb dX2_power_8 ?_
  have j17 : W pg l e (headSpec wsX2_power ({ frames := 3, cells := 0, slots := 0, locals := 75 })).room s m [Value.ref (bd 0), Value.int v, Value.long x].toArray below meth c s.heap [] 0 0 (MQ below (cs_Qw D (cs_R S th bd cy) (fun (_ : Unit) => cs_R S (cs_kPow S v x) bd cy) (fun rr _ => cs_kPow S v x = 0 → rr = cs_vPow S v x)) [Value.ref (bd 0), Value.int v, Value.long x].toArray s 0 0 (va_A (cs_R S th bd cy) s.heap.size)) (F0 m 17 ls [.int (cs_z (decide (0 ≤ x))), .int (cs_z (cs_M S v)), .ref (bd 0)]) := by
    have hF := cs_inW hD hS9 hA
    refine cs_wcalli (va_runV (As := [.int (cs_z (cs_M S v)), .int (cs_z (decide (0 ≤ x)))]) (rest := []) ⟨hx, hb, hml, hown, hts⟩ (k_X2_asked_ l D S th bd cy s.heap.size (cs_M S v) (decide (0 ≤ x))) (cwV 2 hts gX2_power_X2_asked_ rfl rfl rfl (by decide +kernel) ⟨Nat.le_of_ble_eq_true rfl, Nat.le_of_ble_eq_true rfl⟩) ⟨cs_Bw.blind, va_recv hK hP (ci := 2) (q0 := 0) rfl rfl, cs_Bw.at hE hP hK hD⟩ rfl rfl hl.1 rfl (lv_room (Nat.le_of_ble_eq_true rfl)) dX2_power_17 ⟨Nat.le_of_ble_eq_true rfl, Nat.le_of_ble_eq_true rfl⟩) hS9 hF (fun r_17 u9 H locs hp hP hD1 hz hk1 hS9 => ?_)
    have hP : va_P D vwCl (cs_R S (cs_k2 (cs_M S v) (decide (0 ≤ x))) bd cy) H := hP
    have hD : va_D (va_A (cs_R S th bd cy) s.heap.size) (cs_R S (cs_k2 (cs_M S v) (decide (0 ≤ x))) bd cy) := hD1.weaken (fun k q _ h => hF q.1 h)
    subst hp
    refine cs_ifeq (tgt := 32) hx hb dX2_power_20 (by decide) (fun c_20 => ?_) (fun c_20 => ?_)
    · refine lv_iconst (v := 0) hx hb dX2_power_32 (by decide) ?_
      exact W.iret (v := 0) hx hb hr (fun t ht _ => ⟨0, (), rfl, fun z => absurd (cs_k2_0.mp z) (by rw [c_20]; decide), by rw [ht]; exact hP, by exact hD, hS9.F ht⟩) hS9.2.2 dX2_power_33
    · have hm := (cs_and c_20).1
      obtain ⟨k, hk, rfl⟩ := cs_mod_of hS hm
      have hk31 : k < 2 ^ 31 := by omega
      refine lv_aload_n hx hb dX2_power_23 rfl (lv_at hl 0 rfl) ?_
      refine lv_iload_n hx hb dX2_power_24 rfl (lv_at hl 1 rfl) ?_
      refine lv_lload_n hx hb dX2_power_25 rfl (lv_at hl 2 rfl) ?_
      refine vp_callSi (W.runV (As := [.int (nI k), .long x]) (rest := []) ⟨hx, hb, hml, hown, hts⟩ (k_X2_powerOf l D S (cs_k2 (cs_M S (nI k)) (decide (0 ≤ x))) bd cy hS k hk x) (cwV 2 hts gX2_power_X2_powerOf rfl rfl rfl (by decide +kernel) ⟨Nat.le_of_ble_eq_true rfl, Nat.le_of_ble_eq_true rfl⟩) ⟨cs_B.blind, va_recv hK hP (ci := 2) (q0 := 0) rfl rfl, cs_B.at hE hP hK⟩ rfl rfl hl.1 rfl (lv_room (Nat.le_of_ble_eq_true rfl)) dX2_power_26 ⟨Nat.le_of_ble_eq_true rfl, Nat.le_of_ble_eq_true rfl⟩) (fun r_26 e_26 => ?_)
      subst e_26
      refine lv_goto (tgt := 33) hx hb dX2_power_29 (by decide) ?_
      exact W.iret (v := cs_pow (cs_w S k) (cs_p S k) x) hx hb hr (fun t ht _ => ⟨cs_pow (cs_w S k) (cs_p S k) x, (), rfl, fun _ => by unfold cs_vPow; rw [cs_cI hk31], by rw [ht]; exact hP, by exact hD, hS9.F ht⟩) hS9.2.2 dX2_power_33
  refine lv_if_lt (tgt := 16) hx hb dX2_power_9 (by decide) (fun c_9 => ?_) (fun c_9 => ?_)
  · refine lv_iconst (v := 0) hx hb dX2_power_16 (by decide) ?_
    refine cs_top (y := cs_z (decide (0 ≤ x))) (by simp [cs_z, cs_nS, decide_eq_false (Int64.not_le.mpr ((lg_cmp_lt _ _).mp c_9))]) ?_
    exact j17
  · refine lv_iconst (v := 1) hx hb dX2_power_12 (by decide) ?_
    refine lv_goto (tgt := 17) hx hb dX2_power_13 (by decide) ?_
    refine cs_top (y := cs_z (decide (0 ≤ x))) (by simp [cs_z, cs_nS, decide_eq_true (Int64.not_lt.mp (fun z => c_9 ((lg_cmp_lt _ _).mpr z)))]) ?_
    exact j17
set_option maxHeartbeats 4000000 in
set_option maxRecDepth 100000 in
theorem k_X2_period (l : Launch) (D : va_G) (S : cs_St) (th : Int32) (bd : Nat → Nat) (cy : Nat → ClassId) (sz : Nat) (hS : cs_ok S) (v a : Int32) : cs_Mw l yX2_period wsX2_period ({ frames := 2, cells := 0, slots := 0, locals := 43 }) D (cs_tys cy) (cs_R S th bd cy) sz [.ref (bd 0), .int v, .int a] (fun (_ : Unit) => cs_R S (cs_kPer S v a) bd cy) (fun rr _ => cs_kPer S v a = 0 → rr = cs_vPer S v a) := by
  refine Met.ofW (cc := cX2_period) (maxL := 5) (ret := (some .int)) (by decide) rfl ?_
  intro pg e s m args below meth c s₁ B hml hv
  obtain ⟨rfl, hsz, hE, hP, hK, hD0⟩ := hv
  subst hsz
  have hD := hD0.self (sz := s.heap.size)
  have hA : ∀ q : Nat, s.heap.size ≤ q → va_A (cs_R S th bd cy) s.heap.size q := fun q h => Or.inr h
  have hS9 : va_S (va_A (cs_R S th bd cy) s.heap.size) s.heap s.heap [] := va_S.rf
  have hx := B.exec
  have hb := B.bytes
  have hr := B.returns
  have hts := atoms_spec (ws := wsX2_period) B.pre
  have hown : s.vm.findClass RX2 = some m.cls := findClass_of_methodNamed B.named
  have hlocks := B.notSynchronized
  have hl := lv_entry ([.ref (bd 0), .int v, .int a]) (n := 5) (Nat.le_of_ble_eq_true rfl)
  rw [lg_entry_eq]
  generalize (lg_sl ([.ref (bd 0), .int v, .int a]) ++ List.replicate (5 - (lg_sl ([.ref (bd 0), .int v, .int a])).length) Slot.unset).toArray = ls at hl ⊢
  have hl : lv_has ls 5 [(0, .ref (bd 0)), (1, .int v), (2, .int a)] := hl
  have hinX2 : ∀ w ∈ wsX20, w ∈ wsX2_period := fun _ h => by unfold wsX2_period; exact List.mem_cons_of_mem _ (List.mem_append_right _ h)
  have h6 := hS.1
  refine lv_aload_n hx hb dX2_period_0 rfl (lv_at hl 0 rfl) ?_
  refine lv_aload_n hx hb dX2_period_1 rfl (lv_at hl 0 rfl) ?_
  refine lv_iload_n hx hb dX2_period_2 rfl (lv_at hl 1 rfl) ?_
  refine vp_callSi (W.runV (As := [.int v]) (rest := [.ref (bd 0)]) ⟨hx, hb, hml, hown, hts⟩ (k_X2_isModel l D S th bd cy  v) (cwV 1 hts gX2_period_X2_isModel rfl rfl rfl (by decide +kernel) ⟨Nat.le_of_ble_eq_true rfl, Nat.le_of_ble_eq_true rfl⟩) ⟨cs_B.blind, va_recv hK hP (ci := 2) (q0 := 0) rfl rfl, cs_B.at hE hP hK⟩ rfl rfl hl.1 rfl (lv_room (Nat.le_of_ble_eq_true rfl)) dX2_period_3 ⟨Nat.le_of_ble_eq_true rfl, Nat.le_of_ble_eq_true rfl⟩) (fun r_3 e_3 => ?_)
  subst e_3
  refine cs_top (y := cs_z (cs_M S v)) rfl ?_
  refine lv_iload_n hx hb dX2_period_6 rfl (lv_at hl 2 rfl) ?_
  refine lv_iconst (v := 1) hx hb dX2_period_7 (by decide) ?_
  refine lv_ldc (v := 70000) hx hb hown (hts (.constant RX2 86 70000) (by decide +kernel)) dX2_period_8 ?_
  refine vp_callSi (W.runS (As := [.int a, .int 1, .int 70000]) (rest := [.int (cs_z (cs_M S v)), .ref (bd 0)]) ⟨hx, hb, hml, hown, hts⟩ (k_X2_in l D S th bd cy  a 1 70000) (va_cwS 3 hts gX2_period_X2_in rfl rfl rfl (by decide +kernel) ⟨Nat.le_of_ble_eq_true rfl, Nat.le_of_ble_eq_true rfl⟩) ⟨cs_B.blind, cs_B.at hE cs_none hK⟩ rfl rfl hl.1 rfl (lv_room (Nat.le_of_ble_eq_true rfl)) dX2_period_10 ⟨Nat.le_of_ble_eq_true rfl, Nat.le_of_ble_eq_true rfl⟩) (fun r_10 e_10 => ?_)
  subst e_10
  have hF := cs_inW hD hS9 hA
  refine cs_wcalli (va_runV (As := [.int (cs_z (cs_M S v)), .int (cs_z (cs_in a 1 70000))]) (rest := []) ⟨hx, hb, hml, hown, hts⟩ (k_X2_asked_ l D S th bd cy s.heap.size (cs_M S v) (cs_in a 1 70000)) (cwV 2 hts gX2_period_X2_asked_ rfl rfl rfl (by decide +kernel) ⟨Nat.le_of_ble_eq_true rfl, Nat.le_of_ble_eq_true rfl⟩) ⟨cs_Bw.blind, va_recv hK hP (ci := 2) (q0 := 0) rfl rfl, cs_Bw.at hE hP hK hD⟩ rfl rfl hl.1 rfl (lv_room (Nat.le_of_ble_eq_true rfl)) dX2_period_13 ⟨Nat.le_of_ble_eq_true rfl, Nat.le_of_ble_eq_true rfl⟩) hS9 hF (fun r_13 u9 H locs hp hP hD1 hz hk1 hS9 => ?_)
  have hP : va_P D vwCl (cs_R S (cs_k2 (cs_M S v) (cs_in a 1 70000)) bd cy) H := hP
  have hD : va_D (va_A (cs_R S th bd cy) s.heap.size) (cs_R S (cs_k2 (cs_M S v) (cs_in a 1 70000)) bd cy) := hD1.weaken (fun k q _ h => hF q.1 h)
  subst hp
  refine cs_ifne (tgt := 21) hx hb dX2_period_16 (by decide) (fun c_16 => ?_) (fun c_16 => ?_)
  · obtain ⟨hm, hl7⟩ := cs_and c_16
    obtain ⟨k, hk, rfl⟩ := cs_mod_of hS hm
    have hk31 : k < 2 ^ 31 := by omega
    obtain ⟨lim, hl1, hl2, rfl⟩ := cs_in1_of (n := 70000) (by decide) hl7
    have hV : cs_vPer S (nI k) (nI lim) = cs_pe (cs_w S k) (cs_p S k) lim 1 1 := by unfold cs_vPer; rw [cs_cI hk31, cs_cI (by omega)]
    refine lv_iconst (v := 1) hx hb dX2_period_21 (by decide) ?_
    refine lv_istore_n (lv' := [(3, .int 1), (0, .ref (bd 0)), (1, .int (nI k)), (2, .int (nI lim))]) hx hb dX2_period_22 rfl hl (by decide) rfl (fun ls hl => ?_)
    refine lv_iconst (v := 1) hx hb dX2_period_23 (by decide) ?_
    refine lv_istore (lv' := [(4, .int 1), (3, .int 1), (0, .ref (bd 0)), (1, .int (nI k)), (2, .int (nI lim))]) hx hb dX2_period_24 hl (by decide) rfl (fun ls hl => ?_)
    have loop : ∀ (n i : Nat) (t : Int32), i + n = lim + 1 → cs_vPer S (nI k) (nI lim) = cs_pe (cs_w S k) (cs_p S k) n i t → ∀ ls : Array Slot, lv_has ls 5 [(0, .ref (bd 0)), (1, .int (nI k)), (2, .int (nI lim)), (3, .int t), (4, .int (nI i))] → W pg l e (headSpec wsX2_period ({ frames := 2, cells := 0, slots := 0, locals := 43 })).room s m [Value.ref (bd 0), Value.int (nI k), Value.int (nI lim)].toArray below meth c H locs 0 0 (MQ below (cs_Qw D (cs_R S th bd cy) (fun (_ : Unit) => cs_R S (cs_kPer S (nI k) (nI lim)) bd cy) (fun rr _ => cs_kPer S (nI k) (nI lim) = 0 → rr = cs_vPer S (nI k) (nI lim))) [Value.ref (bd 0), Value.int (nI k), Value.int (nI lim)].toArray s 0 0 (va_A (cs_R S th bd cy) s.heap.size)) (F0 m 26 ls []) := by
      intro n
      induction n with
      | zero =>
        intro i t hi h0 ls hl
        refine lv_iload hx hb dX2_period_26 (lv_at hl 4 rfl) ?_
        refine lv_iload_n hx hb dX2_period_28 rfl (lv_at hl 2 rfl) ?_
        refine lv_icmp_gt (tgt := 53) hx hb dX2_period_29 (by decide) (fun c_29 => ?_) (fun c_29 => ?_)
        · refine lv_iconst (v := (-1)) hx hb dX2_period_53 (by decide) ?_
          exact W.iret (v := (-1)) hx hb hr (fun t ht _ => ⟨(-1), (), rfl, fun _ => h0.symm, by rw [ht]; exact hP, by exact hD, hS9.F ht⟩) hS9.2.2 dX2_period_54
        · exact absurd (nI_lt (a := lim) (b := i) (by omega) (by omega)) c_29
      | succ n ih =>
        intro i t hi h0 ls hl
        refine lv_iload hx hb dX2_period_26 (lv_at hl 4 rfl) ?_
        refine lv_iload_n hx hb dX2_period_28 rfl (lv_at hl 2 rfl) ?_
        refine lv_icmp_gt (tgt := 53) hx hb dX2_period_29 (by decide) (fun c_29 => ?_) (fun c_29 => ?_)
        · exact absurd c_29 (nI_nlt (a := lim) (b := i) (by omega) (by omega))
        · refine lv_aload_n hx hb dX2_period_32 rfl (lv_at hl 0 rfl) ?_
          refine lv_iload_n hx hb dX2_period_33 rfl (lv_at hl 1 rfl) ?_
          refine lv_iload_n hx hb dX2_period_34 rfl (lv_at hl 3 rfl) ?_
          refine vp_callSi (W.runV (As := [.int (nI k), .int t]) (rest := []) ⟨hx, hb, hml, hown, hts⟩ (k_X2_timesX l D S (cs_k2 (cs_M S (nI k)) (cs_in (nI lim) 1 70000)) bd cy hS k hk t) (cwV 2 hts gX2_period_X2_timesX rfl rfl rfl (by decide +kernel) ⟨Nat.le_of_ble_eq_true rfl, Nat.le_of_ble_eq_true rfl⟩) ⟨cs_B.blind, va_recv hK hP (ci := 2) (q0 := 0) rfl rfl, cs_B.at hE hP hK⟩ rfl rfl hl.1 rfl (lv_room (Nat.le_of_ble_eq_true rfl)) dX2_period_35 ⟨Nat.le_of_ble_eq_true rfl, Nat.le_of_ble_eq_true rfl⟩) (fun r_35 e_35 => ?_)
          subst e_35
          refine lv_istore_n (lv' := [(3, .int (cs_T (cs_w S k) (cs_p S k) t)), (0, .ref (bd 0)), (1, .int (nI k)), (2, .int (nI lim)), (4, .int (nI i))]) hx hb dX2_period_38 rfl hl (by decide) rfl (fun ls hl => ?_)
          refine lv_iload_n hx hb dX2_period_39 rfl (lv_at hl 0 rfl) ?_
          refine lv_iconst (v := 1) hx hb dX2_period_40 (by decide) ?_
          refine lv_icmp_ne (tgt := 47) hx hb dX2_period_41 (by decide) (fun c_41 => ?_) (fun c_41 => ?_)
          · refine lv_iinc (v := nI (i + 1)) (lv' := [(4, .int (nI (i + 1))), (3, .int (cs_T (cs_w S k) (cs_p S k) t)), (0, .ref (bd 0)), (1, .int (nI k)), (2, .int (nI lim))]) hx hb dX2_period_47 hl (k := 4) rfl (cs_inc1 i) (by decide) rfl (fun ls hl => ?_)
            refine lv_goto (tgt := 26) hx hb dX2_period_50 (by decide) ?_
            exact ih (i + 1) _ (by omega) (h0.trans (by rw [cs_pe, if_neg c_41])) ls (lv_sub hl [2, 3, 4, 1, 0] rfl)
          · refine lv_iload hx hb dX2_period_44 (lv_at hl 4 rfl) ?_
            exact W.iret (v := nI i) hx hb hr (fun t ht _ => ⟨nI i, (), rfl, fun _ => (h0.trans (by rw [cs_pe, if_pos c_41])).symm, by rw [ht]; exact hP, by exact hD, hS9.F ht⟩) hS9.2.2 dX2_period_46
    exact loop lim 1 1 (by omega) hV ls (lv_sub hl [2, 3, 4, 1, 0] rfl)
  · refine lv_iconst (v := 0) hx hb dX2_period_19 (by decide) ?_
    exact W.iret (v := 0) hx hb hr (fun t ht _ => ⟨0, (), rfl, fun z => absurd (cs_k2_0.mp z) (by rw [c_16]; decide), by rw [ht]; exact hP, by exact hD, hS9.F ht⟩) hS9.2.2 dX2_period_20
set_option maxHeartbeats 4000000 in
set_option maxRecDepth 100000 in
theorem k_X2_length (l : Launch) (D : va_G) (S : cs_St) (th : Int32) (bd : Nat → Nat) (cy : Nat → ClassId) (sz : Nat) (hS : cs_ok S) (v : Int32) : cs_Mw l yX2_length wsX2_length ({ frames := 2, cells := 0, slots := 0, locals := 42 }) D (cs_tys cy) (cs_R S th bd cy) sz [.ref (bd 0), .int v] (fun (_ : Unit) => cs_R S (cs_k1 (cs_in v 0 3)) bd cy) (fun rr _ => cs_k1 (cs_in v 0 3) = 0 → rr = nI (cs_ln S (cs_c v))) := by
  refine Met.ofW (cc := cX2_length) (maxL := 2) (ret := (some .int)) (by decide) rfl ?_
  intro pg e s m args below meth c s₁ B hml hv
  obtain ⟨rfl, hsz, hE, hP, hK, hD0⟩ := hv
  subst hsz
  have hD := hD0.self (sz := s.heap.size)
  have hA : ∀ q : Nat, s.heap.size ≤ q → va_A (cs_R S th bd cy) s.heap.size q := fun q h => Or.inr h
  have hS9 : va_S (va_A (cs_R S th bd cy) s.heap.size) s.heap s.heap [] := va_S.rf
  have hx := B.exec
  have hb := B.bytes
  have hr := B.returns
  have hts := atoms_spec (ws := wsX2_length) B.pre
  have hown : s.vm.findClass RX2 = some m.cls := findClass_of_methodNamed B.named
  have hlocks := B.notSynchronized
  have hl := lv_entry ([.ref (bd 0), .int v]) (n := 2) (Nat.le_of_ble_eq_true rfl)
  rw [lg_entry_eq]
  generalize (lg_sl ([.ref (bd 0), .int v]) ++ List.replicate (2 - (lg_sl ([.ref (bd 0), .int v])).length) Slot.unset).toArray = ls at hl ⊢
  have hl : lv_has ls 2 [(0, .ref (bd 0)), (1, .int v)] := hl
  have hinX2 : ∀ w ∈ wsX20, w ∈ wsX2_length := fun _ h => by unfold wsX2_length; exact List.mem_cons_of_mem _ (List.mem_append_right _ h)
  refine lv_aload_n hx hb dX2_length_0 rfl (lv_at hl 0 rfl) ?_
  refine lv_iload_n hx hb dX2_length_1 rfl (lv_at hl 1 rfl) ?_
  refine vp_callSi (W.runS (As := [.int v]) (rest := [.ref (bd 0)]) ⟨hx, hb, hml, hown, hts⟩ (k_X2_isRow l D S th bd cy  v) (va_cwS 1 hts gX2_length_X2_isRow rfl rfl rfl (by decide +kernel) ⟨Nat.le_of_ble_eq_true rfl, Nat.le_of_ble_eq_true rfl⟩) ⟨cs_B.blind, cs_B.at hE cs_none hK⟩ rfl rfl hl.1 rfl (lv_room (Nat.le_of_ble_eq_true rfl)) dX2_length_2 ⟨Nat.le_of_ble_eq_true rfl, Nat.le_of_ble_eq_true rfl⟩) (fun r_2 e_2 => ?_)
  subst e_2
  have hF := cs_inW hD hS9 hA
  refine cs_wcalli (va_runV (As := [.int (cs_z (cs_in v 0 3))]) (rest := []) ⟨hx, hb, hml, hown, hts⟩ (k_X2_asked l D S th bd cy s.heap.size (cs_in v 0 3)) (cwV 1 hts gX2_length_X2_asked rfl rfl rfl (by decide +kernel) ⟨Nat.le_of_ble_eq_true rfl, Nat.le_of_ble_eq_true rfl⟩) ⟨cs_Bw.blind, va_recv hK hP (ci := 2) (q0 := 0) rfl rfl, cs_Bw.at hE hP hK hD⟩ rfl rfl hl.1 rfl (lv_room (Nat.le_of_ble_eq_true rfl)) dX2_length_5 ⟨Nat.le_of_ble_eq_true rfl, Nat.le_of_ble_eq_true rfl⟩) hS9 hF (fun r_5 u9 H locs hp hP hD1 hz hk1 hS9 => ?_)
  have hP : va_P D vwCl (cs_R S (cs_k1 (cs_in v 0 3)) bd cy) H := hP
  have hD : va_D (va_A (cs_R S th bd cy) s.heap.size) (cs_R S (cs_k1 (cs_in v 0 3)) bd cy) := hD1.weaken (fun k q _ h => hF q.1 h)
  subst hp
  refine cs_ifeq (tgt := 20) hx hb dX2_length_8 (by decide) (fun c_8 => ?_) (fun c_8 => ?_)
  · refine lv_iconst (v := 0) hx hb dX2_length_20 (by decide) ?_
    exact W.iret (v := 0) hx hb hr (fun t ht _ => ⟨0, (), rfl, fun z => absurd (cs_k1_0.mp z) (by rw [c_8]; decide), by rw [ht]; exact hP, by exact hD, hS9.F ht⟩) hS9.2.2 dX2_length_21
  · obtain ⟨r, hr4, rfl⟩ := cs_row_of c_8
    have r31 : r < 2 ^ 31 := by omega
    refine lv_aload_n hx hb dX2_length_11 rfl (lv_at hl 0 rfl) ?_
    refine va_get (D := D) (ci := 2) (v := .ref (bd 8)) (C := RX2) (T := TX2) (N := 10) hx hb hts hinX2 hown hK hP 0 cs_R0 rfl 8 (by decide) (hts (.fieldLink RX2 32 "ChecksumLabModel" "length" "[I") (by decide +kernel)) (fun _ h9 => h9) rfl dX2_length_12 ?_
    refine lv_iload_n hx hb dX2_length_15 rfl (lv_at hl 1 rfl) ?_
    refine cs_iald hx hb hK hP 8 0 cs_R8 rfl (k := r) (hr4) (by decide) dX2_length_16 ?_
    refine lv_goto (tgt := 21) hx hb dX2_length_17 (by decide) ?_
    exact W.iret (v := nI (cs_ln S r)) hx hb hr (fun t ht _ => ⟨nI (cs_ln S r), (), rfl, fun _ => by rw [cs_cI r31], by rw [ht]; exact hP, by exact hD, hS9.F ht⟩) hS9.2.2 dX2_length_21
set_option maxHeartbeats 4000000 in
set_option maxRecDepth 100000 in
theorem k_X2_byteAt (l : Launch) (D : va_G) (S : cs_St) (th : Int32) (bd : Nat → Nat) (cy : Nat → ClassId) (sz : Nat) (hS : cs_ok S) (v u : Int32) : cs_Mw l yX2_byteAt wsX2_byteAt ({ frames := 3, cells := 0, slots := 0, locals := 64 }) D (cs_tys cy) (cs_R S th bd cy) sz [.ref (bd 0), .int v, .int u] (fun (_ : Unit) => cs_R S (cs_k1 (cs_pl S v u)) bd cy) (fun rr _ => cs_k1 (cs_pl S v u) = 0 → rr = cs_vByt S v u) := by
  refine Met.ofW (cc := cX2_byteAt) (maxL := 3) (ret := (some .int)) (by decide) rfl ?_
  intro pg e s m args below meth c s₁ B hml hv
  obtain ⟨rfl, hsz, hE, hP, hK, hD0⟩ := hv
  subst hsz
  have hD := hD0.self (sz := s.heap.size)
  have hA : ∀ q : Nat, s.heap.size ≤ q → va_A (cs_R S th bd cy) s.heap.size q := fun q h => Or.inr h
  have hS9 : va_S (va_A (cs_R S th bd cy) s.heap.size) s.heap s.heap [] := va_S.rf
  have hx := B.exec
  have hb := B.bytes
  have hr := B.returns
  have hts := atoms_spec (ws := wsX2_byteAt) B.pre
  have hown : s.vm.findClass RX2 = some m.cls := findClass_of_methodNamed B.named
  have hlocks := B.notSynchronized
  have hl := lv_entry ([.ref (bd 0), .int v, .int u]) (n := 3) (Nat.le_of_ble_eq_true rfl)
  rw [lg_entry_eq]
  generalize (lg_sl ([.ref (bd 0), .int v, .int u]) ++ List.replicate (3 - (lg_sl ([.ref (bd 0), .int v, .int u])).length) Slot.unset).toArray = ls at hl ⊢
  have hl : lv_has ls 3 [(0, .ref (bd 0)), (1, .int v), (2, .int u)] := hl
  have hinX2 : ∀ w ∈ wsX20, w ∈ wsX2_byteAt := fun _ h => by unfold wsX2_byteAt; exact List.mem_cons_of_mem _ (List.mem_append_right _ h)
  refine lv_aload_n hx hb dX2_byteAt_0 rfl (lv_at hl 0 rfl) ?_
  refine lv_aload_n hx hb dX2_byteAt_1 rfl (lv_at hl 0 rfl) ?_
  refine lv_iload_n hx hb dX2_byteAt_2 rfl (lv_at hl 1 rfl) ?_
  refine lv_iload_n hx hb dX2_byteAt_3 rfl (lv_at hl 2 rfl) ?_
  refine vp_callSi (W.runV (As := [.int v, .int u]) (rest := [.ref (bd 0)]) ⟨hx, hb, hml, hown, hts⟩ (k_X2_isPlace l D S th bd cy  v u) (cwV 2 hts gX2_byteAt_X2_isPlace rfl rfl rfl (by decide +kernel) ⟨Nat.le_of_ble_eq_true rfl, Nat.le_of_ble_eq_true rfl⟩) ⟨cs_B.blind, va_recv hK hP (ci := 2) (q0 := 0) rfl rfl, cs_B.at hE hP hK⟩ rfl rfl hl.1 rfl (lv_room (Nat.le_of_ble_eq_true rfl)) dX2_byteAt_4 ⟨Nat.le_of_ble_eq_true rfl, Nat.le_of_ble_eq_true rfl⟩) (fun r_4 e_4 => ?_)
  subst e_4
  have hF := cs_inW hD hS9 hA
  refine cs_wcalli (va_runV (As := [.int (cs_z (cs_pl S v u))]) (rest := []) ⟨hx, hb, hml, hown, hts⟩ (k_X2_asked l D S th bd cy s.heap.size (cs_pl S v u)) (cwV 1 hts gX2_byteAt_X2_asked rfl rfl rfl (by decide +kernel) ⟨Nat.le_of_ble_eq_true rfl, Nat.le_of_ble_eq_true rfl⟩) ⟨cs_Bw.blind, va_recv hK hP (ci := 2) (q0 := 0) rfl rfl, cs_Bw.at hE hP hK hD⟩ rfl rfl hl.1 rfl (lv_room (Nat.le_of_ble_eq_true rfl)) dX2_byteAt_7 ⟨Nat.le_of_ble_eq_true rfl, Nat.le_of_ble_eq_true rfl⟩) hS9 hF (fun r_7 u9 H locs hp hP hD1 hz hk1 hS9 => ?_)
  have hP : va_P D vwCl (cs_R S (cs_k1 (cs_pl S v u)) bd cy) H := hP
  have hD : va_D (va_A (cs_R S th bd cy) s.heap.size) (cs_R S (cs_k1 (cs_pl S v u)) bd cy) := hD1.weaken (fun k q _ h => hF q.1 h)
  subst hp
  refine cs_ifeq (tgt := 28) hx hb dX2_byteAt_10 (by decide) (fun c_10 => ?_) (fun c_10 => ?_)
  · refine lv_iconst (v := 0) hx hb dX2_byteAt_28 (by decide) ?_
    exact W.iret (v := 0) hx hb hr (fun t ht _ => ⟨0, (), rfl, fun z => absurd (cs_k1_0.mp z) (by rw [c_10]; decide), by rw [ht]; exact hP, by exact hD, hS9.F ht⟩) hS9.2.2 dX2_byteAt_29
  · obtain ⟨r, j, hr4, hj, rfl, rfl⟩ := cs_pl_of hS c_10
    have r31 : r < 2 ^ 31 := by omega
    have hl8 := hS.2.2.1 r
    have j31 : j < 2 ^ 31 := by omega
    refine lv_aload_n hx hb dX2_byteAt_13 rfl (lv_at hl 0 rfl) ?_
    refine va_get (D := D) (ci := 2) (v := .ref (bd 7)) (C := RX2) (T := TX2) (N := 10) hx hb hts hinX2 hown hK hP 0 cs_R0 rfl 7 (by decide) (hts (.fieldLink RX2 29 "ChecksumLabModel" "bytes" "[I") (by decide +kernel)) (fun _ h9 => h9) rfl dX2_byteAt_14 ?_
    refine lv_sipush (v := 256) hx hb dX2_byteAt_17 (by decide) ?_
    refine lv_iload_n hx hb dX2_byteAt_20 rfl (lv_at hl 1 rfl) ?_
    refine lv_imul hx hb dX2_byteAt_21 ?_
    refine lv_iload_n hx hb dX2_byteAt_22 rfl (lv_at hl 2 rfl) ?_
    refine lv_iadd hx hb dX2_byteAt_23 ?_
    refine cs_top (y := nI (256 * r + j)) (cs_256 r j) ?_
    refine cs_iald hx hb hK hP 7 0 cs_R7 rfl (k := 256 * r + j) (by omega) (by decide) dX2_byteAt_24 ?_
    refine cs_top (y := nI (cs_by S r j)) (congrArg nI (cs_byE (by omega))) ?_
    refine lv_goto (tgt := 29) hx hb dX2_byteAt_25 (by decide) ?_
    exact W.iret (v := nI (cs_by S r j)) hx hb hr (fun t ht _ => ⟨nI (cs_by S r j), (), rfl, fun _ => by unfold cs_vByt; rw [cs_cI r31, cs_cI j31], by rw [ht]; exact hP, by exact hD, hS9.F ht⟩) hS9.2.2 dX2_byteAt_29
set_option maxHeartbeats 4000000 in
set_option maxRecDepth 100000 in
theorem k_X2_sum (l : Launch) (D : va_G) (S : cs_St) (th : Int32) (bd : Nat → Nat) (cy : Nat → ClassId) (sz : Nat) (hS : cs_ok S) (v u : Int32) : cs_Mw l yX2_sum wsX2_sum ({ frames := 3, cells := 0, slots := 0, locals := 76 }) D (cs_tys cy) (cs_R S th bd cy) sz [.ref (bd 0), .int v, .int u] (fun (_ : Unit) => cs_R S (cs_k1 (cs_M S v && cs_in u 0 3)) bd cy) (fun rr _ => cs_k1 (cs_M S v && cs_in u 0 3) = 0 → rr = cs_vSum S v u) := by
  refine Met.ofW (cc := cX2_sum) (maxL := 3) (ret := (some .int)) (by decide) rfl ?_
  intro pg e s m args below meth c s₁ B hml hv
  obtain ⟨rfl, hsz, hE, hP, hK, hD0⟩ := hv
  subst hsz
  have hD := hD0.self (sz := s.heap.size)
  have hA : ∀ q : Nat, s.heap.size ≤ q → va_A (cs_R S th bd cy) s.heap.size q := fun q h => Or.inr h
  have hS9 : va_S (va_A (cs_R S th bd cy) s.heap.size) s.heap s.heap [] := va_S.rf
  have hx := B.exec
  have hb := B.bytes
  have hr := B.returns
  have hts := atoms_spec (ws := wsX2_sum) B.pre
  have hown : s.vm.findClass RX2 = some m.cls := findClass_of_methodNamed B.named
  have hlocks := B.notSynchronized
  have hl := lv_entry ([.ref (bd 0), .int v, .int u]) (n := 3) (Nat.le_of_ble_eq_true rfl)
  rw [lg_entry_eq]
  generalize (lg_sl ([.ref (bd 0), .int v, .int u]) ++ List.replicate (3 - (lg_sl ([.ref (bd 0), .int v, .int u])).length) Slot.unset).toArray = ls at hl ⊢
  have hl : lv_has ls 3 [(0, .ref (bd 0)), (1, .int v), (2, .int u)] := hl
  have hinX2 : ∀ w ∈ wsX20, w ∈ wsX2_sum := fun _ h => by unfold wsX2_sum; exact List.mem_cons_of_mem _ (List.mem_append_right _ h)
  have h6 := hS.1
  refine lv_aload_n hx hb dX2_sum_0 rfl (lv_at hl 0 rfl) ?_
  refine lv_aload_n hx hb dX2_sum_1 rfl (lv_at hl 0 rfl) ?_
  refine lv_iload_n hx hb dX2_sum_2 rfl (lv_at hl 1 rfl) ?_
  refine vp_callSi (W.runV (As := [.int v]) (rest := [.ref (bd 0)]) ⟨hx, hb, hml, hown, hts⟩ (k_X2_isModel l D S th bd cy  v) (cwV 1 hts gX2_sum_X2_isModel rfl rfl rfl (by decide +kernel) ⟨Nat.le_of_ble_eq_true rfl, Nat.le_of_ble_eq_true rfl⟩) ⟨cs_B.blind, va_recv hK hP (ci := 2) (q0 := 0) rfl rfl, cs_B.at hE hP hK⟩ rfl rfl hl.1 rfl (lv_room (Nat.le_of_ble_eq_true rfl)) dX2_sum_3 ⟨Nat.le_of_ble_eq_true rfl, Nat.le_of_ble_eq_true rfl⟩) (fun r_3 e_3 => ?_)
  subst e_3
  refine cs_top (y := cs_z (cs_M S v)) rfl ?_
  have j21 : W pg l e (headSpec wsX2_sum ({ frames := 3, cells := 0, slots := 0, locals := 76 })).room s m [Value.ref (bd 0), Value.int v, Value.int u].toArray below meth c s.heap [] 0 0 (MQ below (cs_Qw D (cs_R S th bd cy) (fun (_ : Unit) => cs_R S (cs_k1 (cs_M S v && cs_in u 0 3)) bd cy) (fun rr _ => cs_k1 (cs_M S v && cs_in u 0 3) = 0 → rr = cs_vSum S v u)) [Value.ref (bd 0), Value.int v, Value.int u].toArray s 0 0 (va_A (cs_R S th bd cy) s.heap.size)) (F0 m 21 ls [.int (cs_z (cs_M S v && cs_in u 0 3)), .ref (bd 0)]) := by
    have hF := cs_inW hD hS9 hA
    refine cs_wcalli (va_runV (As := [.int (cs_z (cs_M S v && cs_in u 0 3))]) (rest := []) ⟨hx, hb, hml, hown, hts⟩ (k_X2_asked l D S th bd cy s.heap.size (cs_M S v && cs_in u 0 3)) (cwV 1 hts gX2_sum_X2_asked rfl rfl rfl (by decide +kernel) ⟨Nat.le_of_ble_eq_true rfl, Nat.le_of_ble_eq_true rfl⟩) ⟨cs_Bw.blind, va_recv hK hP (ci := 2) (q0 := 0) rfl rfl, cs_Bw.at hE hP hK hD⟩ rfl rfl hl.1 rfl (lv_room (Nat.le_of_ble_eq_true rfl)) dX2_sum_21 ⟨Nat.le_of_ble_eq_true rfl, Nat.le_of_ble_eq_true rfl⟩) hS9 hF (fun r_21 u9 H locs hp hP hD1 hz hk1 hS9 => ?_)
    have hP : va_P D vwCl (cs_R S (cs_k1 (cs_M S v && cs_in u 0 3)) bd cy) H := hP
    have hD : va_D (va_A (cs_R S th bd cy) s.heap.size) (cs_R S (cs_k1 (cs_M S v && cs_in u 0 3)) bd cy) := hD1.weaken (fun k q _ h => hF q.1 h)
    subst hp
    refine cs_ifeq (tgt := 43) hx hb dX2_sum_24 (by decide) (fun c_24 => ?_) (fun c_24 => ?_)
    · refine lv_iconst (v := 0) hx hb dX2_sum_43 (by decide) ?_
      exact W.iret (v := 0) hx hb hr (fun t ht _ => ⟨0, (), rfl, fun z => absurd (cs_k1_0.mp z) (by rw [c_24]; decide), by rw [ht]; exact hP, by exact hD, hS9.F ht⟩) hS9.2.2 dX2_sum_44
    · obtain ⟨hm, hrw⟩ := cs_and c_24
      obtain ⟨k, hk, rfl⟩ := cs_mod_of hS hm
      have hk31 : k < 2 ^ 31 := by omega
      obtain ⟨r, hr4, rfl⟩ := cs_row_of hrw
      have r31 : r < 2 ^ 31 := by omega
      have hl8 := hS.2.2.1 r
      refine lv_aload_n hx hb dX2_sum_27 rfl (lv_at hl 0 rfl) ?_
      refine lv_iload_n hx hb dX2_sum_28 rfl (lv_at hl 1 rfl) ?_
      refine lv_iload_n hx hb dX2_sum_29 rfl (lv_at hl 2 rfl) ?_
      refine lv_iconst (v := 0) hx hb dX2_sum_30 (by decide) ?_
      refine lv_aload_n hx hb dX2_sum_31 rfl (lv_at hl 0 rfl) ?_
      refine va_get (D := D) (ci := 2) (v := .ref (bd 8)) (C := RX2) (T := TX2) (N := 10) hx hb hts hinX2 hown hK hP 0 cs_R0 rfl 8 (by decide) (hts (.fieldLink RX2 32 "ChecksumLabModel" "length" "[I") (by decide +kernel)) (fun _ h9 => h9) rfl dX2_sum_32 ?_
      refine lv_iload_n hx hb dX2_sum_35 rfl (lv_at hl 2 rfl) ?_
      refine cs_iald hx hb hK hP 8 0 cs_R8 rfl (k := r) (hr4) (by decide) dX2_sum_36 ?_
      refine cs_top (y := nI (cs_ln S r)) rfl ?_
      refine vp_callSi (W.runV (As := [.int (nI k), .int (nI r), .int 0, .int (nI (cs_ln S r))]) (rest := []) ⟨hx, hb, hml, hown, hts⟩ (k_X2_part l D S (cs_k1 (cs_M S (nI k) && cs_in (nI r) 0 3)) bd cy hS k hk r 0 (cs_ln S r) hr4 (Nat.zero_le _) hl8) (cwV 4 hts gX2_sum_X2_part rfl rfl rfl (by decide +kernel) ⟨Nat.le_of_ble_eq_true rfl, Nat.le_of_ble_eq_true rfl⟩) ⟨cs_B.blind, va_recv hK hP (ci := 2) (q0 := 0) rfl rfl, cs_B.at hE hP hK⟩ rfl rfl hl.1 rfl (lv_room (Nat.le_of_ble_eq_true rfl)) dX2_sum_37 ⟨Nat.le_of_ble_eq_true rfl, Nat.le_of_ble_eq_true rfl⟩) (fun r_37 e_37 => ?_)
      subst e_37
      refine lv_goto (tgt := 44) hx hb dX2_sum_40 (by decide) ?_
      exact W.iret (v := cs_so (cs_ro S k) (cs_w S k) (cs_ps (cs_w S k) (cs_p S k) (cs_ri S k) (cs_i S k) (cs_by S r) 0 (cs_ln S r - 0)) ^^^ cs_x S k) hx hb hr (fun t ht _ => ⟨cs_so (cs_ro S k) (cs_w S k) (cs_ps (cs_w S k) (cs_p S k) (cs_ri S k) (cs_i S k) (cs_by S r) 0 (cs_ln S r - 0)) ^^^ cs_x S k, (), rfl, fun _ => by unfold cs_vSum cs_psS; rw [cs_cI hk31, cs_cI r31, Nat.sub_zero], by rw [ht]; exact hP, by exact hD, hS9.F ht⟩) hS9.2.2 dX2_sum_44
  refine cs_ifeq (tgt := 20) hx hb dX2_sum_6 (by decide) (fun c_6 => ?_) (fun c_6 => ?_)
  · refine lv_iconst (v := 0) hx hb dX2_sum_20 (by decide) ?_
    refine cs_top (y := cs_z (cs_M S v && cs_in u 0 3)) (by simp [cs_z, cs_nS, c_6]) ?_
    exact j21
  · refine lv_iload_n hx hb dX2_sum_9 rfl (lv_at hl 2 rfl) ?_
    refine vp_callSi (W.runS (As := [.int u]) (rest := [.ref (bd 0)]) ⟨hx, hb, hml, hown, hts⟩ (k_X2_isRow l D S th bd cy  u) (va_cwS 1 hts gX2_sum_X2_isRow rfl rfl rfl (by decide +kernel) ⟨Nat.le_of_ble_eq_true rfl, Nat.le_of_ble_eq_true rfl⟩) ⟨cs_B.blind, cs_B.at hE cs_none hK⟩ rfl rfl hl.1 rfl (lv_room (Nat.le_of_ble_eq_true rfl)) dX2_sum_10 ⟨Nat.le_of_ble_eq_true rfl, Nat.le_of_ble_eq_true rfl⟩) (fun r_10 e_10 => ?_)
    subst e_10
    refine cs_ifeq (tgt := 20) hx hb dX2_sum_13 (by decide) (fun c_13 => ?_) (fun c_13 => ?_)
    · refine lv_iconst (v := 0) hx hb dX2_sum_20 (by decide) ?_
      refine cs_top (y := cs_z (cs_M S v && cs_in u 0 3)) (by simp [cs_z, cs_nS, c_6, c_13]) ?_
      exact j21
    · refine lv_iconst (v := 1) hx hb dX2_sum_16 (by decide) ?_
      refine lv_goto (tgt := 21) hx hb dX2_sum_17 (by decide) ?_
      refine cs_top (y := cs_z (cs_M S v && cs_in u 0 3)) (by simp [cs_z, cs_nS, c_6, c_13]) ?_
      exact j21
set_option maxHeartbeats 4000000 in
set_option maxRecDepth 100000 in
theorem k_X2_sumOfPart (l : Launch) (D : va_G) (S : cs_St) (th : Int32) (bd : Nat → Nat) (cy : Nat → ClassId) (sz : Nat) (hS : cs_ok S) (v u a b : Int32) : cs_Mw l yX2_sumOfPart wsX2_sumOfPart ({ frames := 3, cells := 0, slots := 0, locals := 76 }) D (cs_tys cy) (cs_R S th bd cy) sz [.ref (bd 0), .int v, .int u, .int a, .int b] (fun (_ : Unit) => cs_R S (cs_kPar S v u a b) bd cy) (fun rr _ => cs_kPar S v u a b = 0 → rr = cs_vPar S v u a b) := by
  refine Met.ofW (cc := cX2_sumOfPart) (maxL := 6) (ret := (some .int)) (by decide) rfl ?_
  intro pg e s m args below meth c s₁ B hml hv
  obtain ⟨rfl, hsz, hE, hP, hK, hD0⟩ := hv
  subst hsz
  have hD := hD0.self (sz := s.heap.size)
  have hA : ∀ q : Nat, s.heap.size ≤ q → va_A (cs_R S th bd cy) s.heap.size q := fun q h => Or.inr h
  have hS9 : va_S (va_A (cs_R S th bd cy) s.heap.size) s.heap s.heap [] := va_S.rf
  have hx := B.exec
  have hb := B.bytes
  have hr := B.returns
  have hts := atoms_spec (ws := wsX2_sumOfPart) B.pre
  have hown : s.vm.findClass RX2 = some m.cls := findClass_of_methodNamed B.named
  have hlocks := B.notSynchronized
  have hl := lv_entry ([.ref (bd 0), .int v, .int u, .int a, .int b]) (n := 6) (Nat.le_of_ble_eq_true rfl)
  rw [lg_entry_eq]
  generalize (lg_sl ([.ref (bd 0), .int v, .int u, .int a, .int b]) ++ List.replicate (6 - (lg_sl ([.ref (bd 0), .int v, .int u, .int a, .int b])).length) Slot.unset).toArray = ls at hl ⊢
  have hl : lv_has ls 6 [(0, .ref (bd 0)), (1, .int v), (2, .int u), (3, .int a), (4, .int b)] := hl
  have hinX2 : ∀ w ∈ wsX20, w ∈ wsX2_sumOfPart := fun _ h => by unfold wsX2_sumOfPart; exact List.mem_cons_of_mem _ (List.mem_append_right _ h)
  have h6 := hS.1
  refine lv_aload_n hx hb dX2_sumOfPart_0 rfl (lv_at hl 0 rfl) ?_
  refine lv_iload_n hx hb dX2_sumOfPart_1 rfl (lv_at hl 1 rfl) ?_
  refine vp_callSi (W.runV (As := [.int v]) (rest := []) ⟨hx, hb, hml, hown, hts⟩ (k_X2_isModel l D S th bd cy  v) (cwV 1 hts gX2_sumOfPart_X2_isModel rfl rfl rfl (by decide +kernel) ⟨Nat.le_of_ble_eq_true rfl, Nat.le_of_ble_eq_true rfl⟩) ⟨cs_B.blind, va_recv hK hP (ci := 2) (q0 := 0) rfl rfl, cs_B.at hE hP hK⟩ rfl rfl hl.1 rfl (lv_room (Nat.le_of_ble_eq_true rfl)) dX2_sumOfPart_2 ⟨Nat.le_of_ble_eq_true rfl, Nat.le_of_ble_eq_true rfl⟩) (fun r_2 e_2 => ?_)
  subst e_2
  refine cs_top (y := cs_z (cs_M S v)) rfl ?_
  have j49 : W pg l e (headSpec wsX2_sumOfPart ({ frames := 3, cells := 0, slots := 0, locals := 76 })).room s m [Value.ref (bd 0), Value.int v, Value.int u, Value.int a, Value.int b].toArray below meth c s.heap [] 0 0 (MQ below (cs_Qw D (cs_R S th bd cy) (fun (_ : Unit) => cs_R S (cs_kPar S v u a b) bd cy) (fun rr _ => cs_kPar S v u a b = 0 → rr = cs_vPar S v u a b)) [Value.ref (bd 0), Value.int v, Value.int u, Value.int a, Value.int b].toArray s 0 0 (va_A (cs_R S th bd cy) s.heap.size)) (F0 m 49 ls [.int (cs_z (cs_M S v && cs_in u 0 3 && cs_in a 0 (nI (cs_ln S (cs_c u))) && cs_in b a (nI (cs_ln S (cs_c u)))))]) := by
    refine lv_istore (lv' := [(5, .int (cs_z (cs_M S v && cs_in u 0 3 && cs_in a 0 (nI (cs_ln S (cs_c u))) && cs_in b a (nI (cs_ln S (cs_c u)))))), (0, .ref (bd 0)), (1, .int v), (2, .int u), (3, .int a), (4, .int b)]) hx hb dX2_sumOfPart_49 hl (by decide) rfl (fun ls hl => ?_)
    refine lv_aload_n hx hb dX2_sumOfPart_51 rfl (lv_at hl 1 rfl) ?_
    refine lv_iload hx hb dX2_sumOfPart_52 (lv_at hl 0 rfl) ?_
    have hF := cs_inW hD hS9 hA
    refine cs_wcalli (va_runV (As := [.int (cs_z (cs_M S v && cs_in u 0 3 && cs_in a 0 (nI (cs_ln S (cs_c u))) && cs_in b a (nI (cs_ln S (cs_c u)))))]) (rest := []) ⟨hx, hb, hml, hown, hts⟩ (k_X2_asked l D S th bd cy s.heap.size (cs_M S v && cs_in u 0 3 && cs_in a 0 (nI (cs_ln S (cs_c u))) && cs_in b a (nI (cs_ln S (cs_c u))))) (cwV 1 hts gX2_sumOfPart_X2_asked rfl rfl rfl (by decide +kernel) ⟨Nat.le_of_ble_eq_true rfl, Nat.le_of_ble_eq_true rfl⟩) ⟨cs_Bw.blind, va_recv hK hP (ci := 2) (q0 := 0) rfl rfl, cs_Bw.at hE hP hK hD⟩ rfl rfl hl.1 rfl (lv_room (Nat.le_of_ble_eq_true rfl)) dX2_sumOfPart_54 ⟨Nat.le_of_ble_eq_true rfl, Nat.le_of_ble_eq_true rfl⟩) hS9 hF (fun r_54 u9 H locs hp hP hD1 hz hk1 hS9 => ?_)
    have hP : va_P D vwCl (cs_R S (cs_k1 (cs_M S v && cs_in u 0 3 && cs_in a 0 (nI (cs_ln S (cs_c u))) && cs_in b a (nI (cs_ln S (cs_c u))))) bd cy) H := hP
    have hD : va_D (va_A (cs_R S th bd cy) s.heap.size) (cs_R S (cs_k1 (cs_M S v && cs_in u 0 3 && cs_in a 0 (nI (cs_ln S (cs_c u))) && cs_in b a (nI (cs_ln S (cs_c u))))) bd cy) := hD1.weaken (fun k q _ h => hF q.1 h)
    subst hp
    refine cs_ifeq (tgt := 72) hx hb dX2_sumOfPart_57 (by decide) (fun c_57 => ?_) (fun c_57 => ?_)
    · refine lv_iconst (v := 0) hx hb dX2_sumOfPart_72 (by decide) ?_
      exact W.iret (v := 0) hx hb hr (fun t ht _ => ⟨0, (), rfl, fun z => absurd (cs_k1_0.mp z) (by rw [c_57]; decide), by rw [ht]; exact hP, by exact hD, hS9.F ht⟩) hS9.2.2 dX2_sumOfPart_73
    · obtain ⟨hm1, hb9⟩ := cs_and c_57
      obtain ⟨hm2, ha9⟩ := cs_and hm1
      obtain ⟨hm, hrw⟩ := cs_and hm2
      obtain ⟨k, hk, rfl⟩ := cs_mod_of hS hm
      have hk31 : k < 2 ^ 31 := by omega
      obtain ⟨r, hr4, rfl⟩ := cs_row_of hrw
      have r31 : r < 2 ^ 31 := by omega
      have hl8 := hS.2.2.1 r
      rw [cs_cI r31] at ha9 hb9
      obtain ⟨a0, ha0, rfl⟩ := cs_in_of (by omega) ha9
      obtain ⟨b0, hb0, hb1, rfl⟩ := cs_in2_of (by omega) (by omega) hb9
      refine lv_aload_n hx hb dX2_sumOfPart_60 rfl (lv_at hl 1 rfl) ?_
      refine lv_iload_n hx hb dX2_sumOfPart_61 rfl (lv_at hl 2 rfl) ?_
      refine lv_iload_n hx hb dX2_sumOfPart_62 rfl (lv_at hl 3 rfl) ?_
      refine lv_iload_n hx hb dX2_sumOfPart_63 rfl (lv_at hl 4 rfl) ?_
      refine lv_iload hx hb dX2_sumOfPart_64 (lv_at hl 5 rfl) ?_
      refine vp_callSi (W.runV (As := [.int (nI k), .int (nI r), .int (nI a0), .int (nI b0)]) (rest := []) ⟨hx, hb, hml, hown, hts⟩ (k_X2_part l D S (cs_k1 (cs_M S (nI k) && cs_in (nI r) 0 3 && cs_in (nI a0) 0 (nI (cs_ln S (cs_c (nI r)))) && cs_in (nI b0) (nI a0) (nI (cs_ln S (cs_c (nI r)))))) bd cy hS k hk r a0 b0 hr4 hb0 (by omega)) (cwV 4 hts gX2_sumOfPart_X2_part rfl rfl rfl (by decide +kernel) ⟨Nat.le_of_ble_eq_true rfl, Nat.le_of_ble_eq_true rfl⟩) ⟨cs_B.blind, va_recv hK hP (ci := 2) (q0 := 0) rfl rfl, cs_B.at hE hP hK⟩ rfl rfl hl.1 rfl (lv_room (Nat.le_of_ble_eq_true rfl)) dX2_sumOfPart_66 ⟨Nat.le_of_ble_eq_true rfl, Nat.le_of_ble_eq_true rfl⟩) (fun r_66 e_66 => ?_)
      subst e_66
      refine lv_goto (tgt := 73) hx hb dX2_sumOfPart_69 (by decide) ?_
      exact W.iret (v := cs_so (cs_ro S k) (cs_w S k) (cs_ps (cs_w S k) (cs_p S k) (cs_ri S k) (cs_i S k) (cs_by S r) a0 (b0 - a0)) ^^^ cs_x S k) hx hb hr (fun t ht _ => ⟨cs_so (cs_ro S k) (cs_w S k) (cs_ps (cs_w S k) (cs_p S k) (cs_ri S k) (cs_i S k) (cs_by S r) a0 (b0 - a0)) ^^^ cs_x S k, (), rfl, fun _ => by unfold cs_vPar cs_psS; rw [cs_cI hk31, cs_cI r31, cs_cI (by omega), cs_cI (by omega)], by rw [ht]; exact hP, by exact hD, hS9.F ht⟩) hS9.2.2 dX2_sumOfPart_73
  refine cs_ifeq (tgt := 48) hx hb dX2_sumOfPart_5 (by decide) (fun c_5 => ?_) (fun c_5 => ?_)
  · refine lv_iconst (v := 0) hx hb dX2_sumOfPart_48 (by decide) ?_
    refine cs_top (y := cs_z (cs_M S v && cs_in u 0 3 && cs_in a 0 (nI (cs_ln S (cs_c u))) && cs_in b a (nI (cs_ln S (cs_c u))))) (by simp [cs_z, cs_nS, c_5]) ?_
    exact j49
  · refine lv_iload_n hx hb dX2_sumOfPart_8 rfl (lv_at hl 2 rfl) ?_
    refine vp_callSi (W.runS (As := [.int u]) (rest := []) ⟨hx, hb, hml, hown, hts⟩ (k_X2_isRow l D S th bd cy  u) (va_cwS 1 hts gX2_sumOfPart_X2_isRow rfl rfl rfl (by decide +kernel) ⟨Nat.le_of_ble_eq_true rfl, Nat.le_of_ble_eq_true rfl⟩) ⟨cs_B.blind, cs_B.at hE cs_none hK⟩ rfl rfl hl.1 rfl (lv_room (Nat.le_of_ble_eq_true rfl)) dX2_sumOfPart_9 ⟨Nat.le_of_ble_eq_true rfl, Nat.le_of_ble_eq_true rfl⟩) (fun r_9 e_9 => ?_)
    subst e_9
    refine cs_ifeq (tgt := 48) hx hb dX2_sumOfPart_12 (by decide) (fun c_12 => ?_) (fun c_12 => ?_)
    · refine lv_iconst (v := 0) hx hb dX2_sumOfPart_48 (by decide) ?_
      refine cs_top (y := cs_z (cs_M S v && cs_in u 0 3 && cs_in a 0 (nI (cs_ln S (cs_c u))) && cs_in b a (nI (cs_ln S (cs_c u))))) (by simp [cs_z, cs_nS, c_5, c_12]) ?_
      exact j49
    · obtain ⟨r, hr4, rfl⟩ := cs_row_of c_12
      have r31 : r < 2 ^ 31 := by omega
      refine lv_iload_n hx hb dX2_sumOfPart_15 rfl (lv_at hl 3 rfl) ?_
      refine lv_iconst (v := 0) hx hb dX2_sumOfPart_16 (by decide) ?_
      refine lv_aload_n hx hb dX2_sumOfPart_17 rfl (lv_at hl 0 rfl) ?_
      refine va_get (D := D) (ci := 2) (v := .ref (bd 8)) (C := RX2) (T := TX2) (N := 10) hx hb hts hinX2 hown hK hP 0 cs_R0 rfl 8 (by decide) (hts (.fieldLink RX2 32 "ChecksumLabModel" "length" "[I") (by decide +kernel)) (fun _ h9 => h9) rfl dX2_sumOfPart_18 ?_
      refine lv_iload_n hx hb dX2_sumOfPart_21 rfl (lv_at hl 2 rfl) ?_
      refine cs_iald hx hb hK hP 8 0 cs_R8 rfl (k := r) (hr4) (by decide) dX2_sumOfPart_22 ?_
      refine vp_callSi (W.runS (As := [.int a, .int 0, .int (nI (cs_ln S r))]) (rest := []) ⟨hx, hb, hml, hown, hts⟩ (k_X2_in l D S th bd cy  a 0 (nI (cs_ln S r))) (va_cwS 3 hts gX2_sumOfPart_X2_in rfl rfl rfl (by decide +kernel) ⟨Nat.le_of_ble_eq_true rfl, Nat.le_of_ble_eq_true rfl⟩) ⟨cs_B.blind, cs_B.at hE cs_none hK⟩ rfl rfl hl.1 rfl (lv_room (Nat.le_of_ble_eq_true rfl)) dX2_sumOfPart_23 ⟨Nat.le_of_ble_eq_true rfl, Nat.le_of_ble_eq_true rfl⟩) (fun r_23 e_23 => ?_)
      subst e_23
      refine cs_ifeq (tgt := 48) hx hb dX2_sumOfPart_26 (by decide) (fun c_26 => ?_) (fun c_26 => ?_)
      · refine lv_iconst (v := 0) hx hb dX2_sumOfPart_48 (by decide) ?_
        refine cs_top (y := cs_z (cs_M S v && cs_in (nI r) 0 3 && cs_in a 0 (nI (cs_ln S (cs_c (nI r)))) && cs_in b a (nI (cs_ln S (cs_c (nI r)))))) (by simp [cs_z, cs_nS, cs_cI r31, c_5, c_12, c_26]) ?_
        exact j49
      · refine lv_iload hx hb dX2_sumOfPart_29 (lv_at hl 4 rfl) ?_
        refine lv_iload_n hx hb dX2_sumOfPart_31 rfl (lv_at hl 3 rfl) ?_
        refine lv_aload_n hx hb dX2_sumOfPart_32 rfl (lv_at hl 0 rfl) ?_
        refine va_get (D := D) (ci := 2) (v := .ref (bd 8)) (C := RX2) (T := TX2) (N := 10) hx hb hts hinX2 hown hK hP 0 cs_R0 rfl 8 (by decide) (hts (.fieldLink RX2 32 "ChecksumLabModel" "length" "[I") (by decide +kernel)) (fun _ h9 => h9) rfl dX2_sumOfPart_33 ?_
        refine lv_iload_n hx hb dX2_sumOfPart_36 rfl (lv_at hl 2 rfl) ?_
        refine cs_iald hx hb hK hP 8 0 cs_R8 rfl (k := r) (hr4) (by decide) dX2_sumOfPart_37 ?_
        refine vp_callSi (W.runS (As := [.int b, .int a, .int (nI (cs_ln S r))]) (rest := []) ⟨hx, hb, hml, hown, hts⟩ (k_X2_in l D S th bd cy  b a (nI (cs_ln S r))) (va_cwS 3 hts gX2_sumOfPart_X2_in rfl rfl rfl (by decide +kernel) ⟨Nat.le_of_ble_eq_true rfl, Nat.le_of_ble_eq_true rfl⟩) ⟨cs_B.blind, cs_B.at hE cs_none hK⟩ rfl rfl hl.1 rfl (lv_room (Nat.le_of_ble_eq_true rfl)) dX2_sumOfPart_38 ⟨Nat.le_of_ble_eq_true rfl, Nat.le_of_ble_eq_true rfl⟩) (fun r_38 e_38 => ?_)
        subst e_38
        refine cs_ifeq (tgt := 48) hx hb dX2_sumOfPart_41 (by decide) (fun c_41 => ?_) (fun c_41 => ?_)
        · refine lv_iconst (v := 0) hx hb dX2_sumOfPart_48 (by decide) ?_
          refine cs_top (y := cs_z (cs_M S v && cs_in (nI r) 0 3 && cs_in a 0 (nI (cs_ln S (cs_c (nI r)))) && cs_in b a (nI (cs_ln S (cs_c (nI r)))))) (by simp [cs_z, cs_nS, cs_cI r31, c_5, c_12, c_26, c_41]) ?_
          exact j49
        · refine lv_iconst (v := 1) hx hb dX2_sumOfPart_44 (by decide) ?_
          refine lv_goto (tgt := 49) hx hb dX2_sumOfPart_45 (by decide) ?_
          refine cs_top (y := cs_z (cs_M S v && cs_in (nI r) 0 3 && cs_in a 0 (nI (cs_ln S (cs_c (nI r)))) && cs_in b a (nI (cs_ln S (cs_c (nI r)))))) (by simp [cs_z, cs_nS, cs_cI r31, c_5, c_12, c_26, c_41]) ?_
          exact j49
set_option maxHeartbeats 4000000 in
set_option maxRecDepth 100000 in
theorem k_X2_fletcherJoined (l : Launch) (D : va_G) (S : cs_St) (th : Int32) (bd : Nat → Nat) (cy : Nat → ClassId) (sz : Nat) (a b n : Int32) : cs_Mw l yX2_fletcherJoined wsX2_fletcherJoined ({ frames := 1, cells := 0, slots := 0, locals := 21 }) D (cs_tys cy) (cs_R S th bd cy) sz [.ref (bd 0), .int a, .int b, .int n] (fun (_ : Unit) => cs_R S (cs_kFlj a b n) bd cy) (fun rr _ => cs_kFlj a b n = 0 → rr = cs_vFlj a b n) := by
  refine Met.ofW (cc := cX2_fletcherJoined) (maxL := 7) (ret := (some .int)) (by decide) rfl ?_
  intro pg e s m args below meth c s₁ B hml hv
  obtain ⟨rfl, hsz, hE, hP, hK, hD0⟩ := hv
  subst hsz
  have hD := hD0.self (sz := s.heap.size)
  have hA : ∀ q : Nat, s.heap.size ≤ q → va_A (cs_R S th bd cy) s.heap.size q := fun q h => Or.inr h
  have hS9 : va_S (va_A (cs_R S th bd cy) s.heap.size) s.heap s.heap [] := va_S.rf
  have hx := B.exec
  have hb := B.bytes
  have hr := B.returns
  have hts := atoms_spec (ws := wsX2_fletcherJoined) B.pre
  have hown : s.vm.findClass RX2 = some m.cls := findClass_of_methodNamed B.named
  have hlocks := B.notSynchronized
  have hl := lv_entry ([.ref (bd 0), .int a, .int b, .int n]) (n := 7) (Nat.le_of_ble_eq_true rfl)
  rw [lg_entry_eq]
  generalize (lg_sl ([.ref (bd 0), .int a, .int b, .int n]) ++ List.replicate (7 - (lg_sl ([.ref (bd 0), .int a, .int b, .int n])).length) Slot.unset).toArray = ls at hl ⊢
  have hl : lv_has ls 7 [(0, .ref (bd 0)), (1, .int a), (2, .int b), (3, .int n)] := hl
  have hinX2 : ∀ w ∈ wsX20, w ∈ wsX2_fletcherJoined := fun _ h => by unfold wsX2_fletcherJoined; exact List.mem_cons_of_mem _ (List.mem_append_right _ h)
  refine lv_aload_n hx hb dX2_fletcherJoined_0 rfl (lv_at hl 0 rfl) ?_
  have j24 : W pg l e (headSpec wsX2_fletcherJoined ({ frames := 1, cells := 0, slots := 0, locals := 21 })).room s m [Value.ref (bd 0), Value.int a, Value.int b, Value.int n].toArray below meth c s.heap [] 0 0 (MQ below (cs_Qw D (cs_R S th bd cy) (fun (_ : Unit) => cs_R S (cs_kFlj a b n) bd cy) (fun rr _ => cs_kFlj a b n = 0 → rr = cs_vFlj a b n)) [Value.ref (bd 0), Value.int a, Value.int b, Value.int n].toArray s 0 0 (va_A (cs_R S th bd cy) s.heap.size)) (F0 m 24 ls [.int (cs_z (cs_fk a && cs_fk b && decide (0 ≤ n))), .ref (bd 0)]) := by
    have hF := cs_inW hD hS9 hA
    refine cs_wcalli (va_runV (As := [.int (cs_z (cs_fk a && cs_fk b && decide (0 ≤ n)))]) (rest := []) ⟨hx, hb, hml, hown, hts⟩ (k_X2_asked l D S th bd cy s.heap.size (cs_fk a && cs_fk b && decide (0 ≤ n))) (cwV 1 hts gX2_fletcherJoined_X2_asked rfl rfl rfl (by decide +kernel) ⟨Nat.le_of_ble_eq_true rfl, Nat.le_of_ble_eq_true rfl⟩) ⟨cs_Bw.blind, va_recv hK hP (ci := 2) (q0 := 0) rfl rfl, cs_Bw.at hE hP hK hD⟩ rfl rfl hl.1 rfl (lv_room (Nat.le_of_ble_eq_true rfl)) dX2_fletcherJoined_24 ⟨Nat.le_of_ble_eq_true rfl, Nat.le_of_ble_eq_true rfl⟩) hS9 hF (fun r_24 u9 H locs hp hP hD1 hz hk1 hS9 => ?_)
    have hP : va_P D vwCl (cs_R S (cs_k1 (cs_fk a && cs_fk b && decide (0 ≤ n))) bd cy) H := hP
    have hD : va_D (va_A (cs_R S th bd cy) s.heap.size) (cs_R S (cs_k1 (cs_fk a && cs_fk b && decide (0 ≤ n))) bd cy) := hD1.weaken (fun k q _ h => hF q.1 h)
    subst hp
    refine cs_ifne (tgt := 32) hx hb dX2_fletcherJoined_27 (by decide) (fun c_27 => ?_) (fun c_27 => ?_)
    · refine lv_iload_n hx hb dX2_fletcherJoined_32 rfl (lv_at hl 1 rfl) ?_
      refine lv_sipush (v := 256) hx hb dX2_fletcherJoined_33 (by decide) ?_
      refine lv_irem hx hb dX2_fletcherJoined_36 (by decide) ?_
      refine cs_top (y := cs_rem a 256) (rfl) ?_
      refine lv_iload_n hx hb dX2_fletcherJoined_37 rfl (lv_at hl 2 rfl) ?_
      refine lv_sipush (v := 256) hx hb dX2_fletcherJoined_38 (by decide) ?_
      refine lv_irem hx hb dX2_fletcherJoined_41 (by decide) ?_
      refine cs_top (y := cs_rem b 256) (rfl) ?_
      refine lv_iadd hx hb dX2_fletcherJoined_42 ?_
      refine lv_sipush (v := 255) hx hb dX2_fletcherJoined_43 (by decide) ?_
      refine lv_irem hx hb dX2_fletcherJoined_46 (by decide) ?_
      refine cs_top (y := cs_rem ((cs_rem a 256) + (cs_rem b 256)) 255) (rfl) ?_
      refine lv_istore (lv' := [(4, .int (cs_rem ((cs_rem a 256) + (cs_rem b 256)) 255)), (0, .ref (bd 0)), (1, .int a), (2, .int b), (3, .int n)]) hx hb dX2_fletcherJoined_47 hl (by decide) rfl (fun ls hl => ?_)
      refine lv_iload_n hx hb dX2_fletcherJoined_49 rfl (lv_at hl 2 rfl) ?_
      refine lv_sipush (v := 256) hx hb dX2_fletcherJoined_50 (by decide) ?_
      refine lv_idiv hx hb dX2_fletcherJoined_53 (by decide) ?_
      refine lv_iload_n hx hb dX2_fletcherJoined_54 rfl (lv_at hl 3 rfl) ?_
      refine lv_sipush (v := 256) hx hb dX2_fletcherJoined_55 (by decide) ?_
      refine lv_idiv hx hb dX2_fletcherJoined_58 (by decide) ?_
      refine lv_iadd hx hb dX2_fletcherJoined_59 ?_
      refine lv_i2l (v := ((a / 256) + (b / 256)).toInt64) hx hb dX2_fletcherJoined_60 rfl ?_
      refine lv_iload_n hx hb dX2_fletcherJoined_61 rfl (lv_at hl 4 rfl) ?_
      refine lv_i2l (v := n.toInt64) hx hb dX2_fletcherJoined_62 rfl ?_
      refine lv_iload_n hx hb dX2_fletcherJoined_63 rfl (lv_at hl 2 rfl) ?_
      refine lv_sipush (v := 256) hx hb dX2_fletcherJoined_64 (by decide) ?_
      refine lv_irem hx hb dX2_fletcherJoined_67 (by decide) ?_
      refine cs_top (y := cs_rem a 256) (rfl) ?_
      refine lv_i2l (v := (cs_rem a 256).toInt64) hx hb dX2_fletcherJoined_68 rfl ?_
      refine lv_lmul hx hb dX2_fletcherJoined_69 ?_
      refine lv_ladd hx hb dX2_fletcherJoined_70 ?_
      refine lv_ldc2 (v := 255) hx hb hown (hts (.constantLong RX2 111 255) (by decide +kernel)) dX2_fletcherJoined_71 ?_
      refine lv_lrem hx hb dX2_fletcherJoined_74 (by decide) ?_
      refine cs_topl (y := cs_remL ((((a / 256) + (b / 256)).toInt64) + (n.toInt64 * ((cs_rem a 256).toInt64))) 255) (rfl) ?_
      refine lv_lstore (lv' := [(5, .long (cs_remL ((((a / 256) + (b / 256)).toInt64) + (n.toInt64 * ((cs_rem a 256).toInt64))) 255)), (4, .int (cs_rem ((cs_rem a 256) + (cs_rem b 256)) 255)), (0, .ref (bd 0)), (1, .int a), (2, .int b), (3, .int n)]) hx hb dX2_fletcherJoined_75 hl (by decide) rfl (fun ls hl => ?_)
      refine lv_sipush (v := 256) hx hb dX2_fletcherJoined_77 (by decide) ?_
      refine lv_lload hx hb dX2_fletcherJoined_80 (lv_at hl 0 rfl) ?_
      refine lv_l2i (v := (cs_remL ((((a / 256) + (b / 256)).toInt64) + (n.toInt64 * ((cs_rem a 256).toInt64))) 255).toInt32) hx hb dX2_fletcherJoined_82 rfl ?_
      refine lv_imul hx hb dX2_fletcherJoined_83 ?_
      refine lv_iload hx hb dX2_fletcherJoined_84 (lv_at hl 1 rfl) ?_
      refine lv_iadd hx hb dX2_fletcherJoined_86 ?_
      exact W.iret (v := (256 * ((cs_remL ((((a / 256) + (b / 256)).toInt64) + (n.toInt64 * ((cs_rem a 256).toInt64))) 255).toInt32)) + (cs_rem ((cs_rem a 256) + (cs_rem b 256)) 255)) hx hb hr (fun t ht _ => ⟨(256 * ((cs_remL ((((a / 256) + (b / 256)).toInt64) + (n.toInt64 * ((cs_rem a 256).toInt64))) 255).toInt32)) + (cs_rem ((cs_rem a 256) + (cs_rem b 256)) 255), (), rfl, fun _ => rfl, by rw [ht]; exact hP, by exact hD, hS9.F ht⟩) hS9.2.2 dX2_fletcherJoined_87
    · refine lv_iconst (v := 0) hx hb dX2_fletcherJoined_30 (by decide) ?_
      exact W.iret (v := 0) hx hb hr (fun t ht _ => ⟨0, (), rfl, fun z => absurd (cs_k1_0.mp z) (by rw [c_27]; decide), by rw [ht]; exact hP, by exact hD, hS9.F ht⟩) hS9.2.2 dX2_fletcherJoined_31
  refine lv_iload_n hx hb dX2_fletcherJoined_1 rfl (lv_at hl 1 rfl) ?_
  refine vp_callSi (W.runS (As := [.int a]) (rest := [.ref (bd 0)]) ⟨hx, hb, hml, hown, hts⟩ (k_X2_isFletcher l D S th bd cy  a) (va_cwS 1 hts gX2_fletcherJoined_X2_isFletcher rfl rfl rfl (by decide +kernel) ⟨Nat.le_of_ble_eq_true rfl, Nat.le_of_ble_eq_true rfl⟩) ⟨cs_B.blind, cs_B.at hE cs_none hK⟩ rfl rfl hl.1 rfl (lv_room (Nat.le_of_ble_eq_true rfl)) dX2_fletcherJoined_2 ⟨Nat.le_of_ble_eq_true rfl, Nat.le_of_ble_eq_true rfl⟩) (fun r_2 e_2 => ?_)
  subst e_2
  refine cs_ifeq (tgt := 23) hx hb dX2_fletcherJoined_5 (by decide) (fun c_5 => ?_) (fun c_5 => ?_)
  · refine lv_iconst (v := 0) hx hb dX2_fletcherJoined_23 (by decide) ?_
    refine cs_top (y := cs_z (cs_fk a && cs_fk b && decide (0 ≤ n))) (by simp [cs_z, cs_nS, c_5]) ?_
    exact j24
  · refine lv_iload_n hx hb dX2_fletcherJoined_8 rfl (lv_at hl 2 rfl) ?_
    refine vp_callSi (W.runS (As := [.int b]) (rest := [.ref (bd 0)]) ⟨hx, hb, hml, hown, hts⟩ (k_X2_isFletcher l D S th bd cy  b) (va_cwS 1 hts gX2_fletcherJoined_X2_isFletcher rfl rfl rfl (by decide +kernel) ⟨Nat.le_of_ble_eq_true rfl, Nat.le_of_ble_eq_true rfl⟩) ⟨cs_B.blind, cs_B.at hE cs_none hK⟩ rfl rfl hl.1 rfl (lv_room (Nat.le_of_ble_eq_true rfl)) dX2_fletcherJoined_9 ⟨Nat.le_of_ble_eq_true rfl, Nat.le_of_ble_eq_true rfl⟩) (fun r_9 e_9 => ?_)
    subst e_9
    refine cs_ifeq (tgt := 23) hx hb dX2_fletcherJoined_12 (by decide) (fun c_12 => ?_) (fun c_12 => ?_)
    · refine lv_iconst (v := 0) hx hb dX2_fletcherJoined_23 (by decide) ?_
      refine cs_top (y := cs_z (cs_fk a && cs_fk b && decide (0 ≤ n))) (by simp [cs_z, cs_nS, c_5, c_12]) ?_
      exact j24
    · refine lv_iload_n hx hb dX2_fletcherJoined_15 rfl (lv_at hl 3 rfl) ?_
      refine lv_if_lt (tgt := 23) hx hb dX2_fletcherJoined_16 (by decide) (fun c_16 => ?_) (fun c_16 => ?_)
      · refine lv_iconst (v := 0) hx hb dX2_fletcherJoined_23 (by decide) ?_
        refine cs_top (y := cs_z (cs_fk a && cs_fk b && decide (0 ≤ n))) (by simp [cs_z, cs_nS, c_5, c_12, decide_eq_false (Int32.not_le.mpr c_16)]) ?_
        exact j24
      · refine lv_iconst (v := 1) hx hb dX2_fletcherJoined_19 (by decide) ?_
        refine lv_goto (tgt := 24) hx hb dX2_fletcherJoined_20 (by decide) ?_
        refine cs_top (y := cs_z (cs_fk a && cs_fk b && decide (0 ≤ n))) (by simp [cs_z, cs_nS, c_5, c_12, decide_eq_true (Int32.not_lt.mp c_16)]) ?_
        exact j24
set_option maxHeartbeats 4000000 in
set_option maxRecDepth 100000 in
theorem k_X2_adlerJoined (l : Launch) (D : va_G) (S : cs_St) (th : Int32) (bd : Nat → Nat) (cy : Nat → ClassId) (sz : Nat) (a b n : Int32) : cs_Mw l yX2_adlerJoined wsX2_adlerJoined ({ frames := 2, cells := 0, slots := 0, locals := 46 }) D (cs_tys cy) (cs_R S th bd cy) sz [.ref (bd 0), .int a, .int b, .int n] (fun (_ : Unit) => cs_R S (cs_kAdj a b n) bd cy) (fun rr _ => cs_kAdj a b n = 0 → rr = cs_vAdj a b n) := by
  refine Met.ofW (cc := cX2_adlerJoined) (maxL := 8) (ret := (some .int)) (by decide) rfl ?_
  intro pg e s m args below meth c s₁ B hml hv
  obtain ⟨rfl, hsz, hE, hP, hK, hD0⟩ := hv
  subst hsz
  have hD := hD0.self (sz := s.heap.size)
  have hA : ∀ q : Nat, s.heap.size ≤ q → va_A (cs_R S th bd cy) s.heap.size q := fun q h => Or.inr h
  have hS9 : va_S (va_A (cs_R S th bd cy) s.heap.size) s.heap s.heap [] := va_S.rf
  have hx := B.exec
  have hb := B.bytes
  have hr := B.returns
  have hts := atoms_spec (ws := wsX2_adlerJoined) B.pre
  have hown : s.vm.findClass RX2 = some m.cls := findClass_of_methodNamed B.named
  have hlocks := B.notSynchronized
  have hl := lv_entry ([.ref (bd 0), .int a, .int b, .int n]) (n := 8) (Nat.le_of_ble_eq_true rfl)
  rw [lg_entry_eq]
  generalize (lg_sl ([.ref (bd 0), .int a, .int b, .int n]) ++ List.replicate (8 - (lg_sl ([.ref (bd 0), .int a, .int b, .int n])).length) Slot.unset).toArray = ls at hl ⊢
  have hl : lv_has ls 8 [(0, .ref (bd 0)), (1, .int a), (2, .int b), (3, .int n)] := hl
  have hinX2 : ∀ w ∈ wsX20, w ∈ wsX2_adlerJoined := fun _ h => by unfold wsX2_adlerJoined; exact List.mem_cons_of_mem _ (List.mem_append_right _ h)
  refine lv_aload_n hx hb dX2_adlerJoined_0 rfl (lv_at hl 0 rfl) ?_
  have j24 : W pg l e (headSpec wsX2_adlerJoined ({ frames := 2, cells := 0, slots := 0, locals := 46 })).room s m [Value.ref (bd 0), Value.int a, Value.int b, Value.int n].toArray below meth c s.heap [] 0 0 (MQ below (cs_Qw D (cs_R S th bd cy) (fun (_ : Unit) => cs_R S (cs_kAdj a b n) bd cy) (fun rr _ => cs_kAdj a b n = 0 → rr = cs_vAdj a b n)) [Value.ref (bd 0), Value.int a, Value.int b, Value.int n].toArray s 0 0 (va_A (cs_R S th bd cy) s.heap.size)) (F0 m 24 ls [.int (cs_z (cs_ak a && cs_ak b && decide (0 ≤ n))), .ref (bd 0)]) := by
    have hF := cs_inW hD hS9 hA
    refine cs_wcalli (va_runV (As := [.int (cs_z (cs_ak a && cs_ak b && decide (0 ≤ n)))]) (rest := []) ⟨hx, hb, hml, hown, hts⟩ (k_X2_asked l D S th bd cy s.heap.size (cs_ak a && cs_ak b && decide (0 ≤ n))) (cwV 1 hts gX2_adlerJoined_X2_asked rfl rfl rfl (by decide +kernel) ⟨Nat.le_of_ble_eq_true rfl, Nat.le_of_ble_eq_true rfl⟩) ⟨cs_Bw.blind, va_recv hK hP (ci := 2) (q0 := 0) rfl rfl, cs_Bw.at hE hP hK hD⟩ rfl rfl hl.1 rfl (lv_room (Nat.le_of_ble_eq_true rfl)) dX2_adlerJoined_24 ⟨Nat.le_of_ble_eq_true rfl, Nat.le_of_ble_eq_true rfl⟩) hS9 hF (fun r_24 u9 H locs hp hP hD1 hz hk1 hS9 => ?_)
    have hP : va_P D vwCl (cs_R S (cs_k1 (cs_ak a && cs_ak b && decide (0 ≤ n))) bd cy) H := hP
    have hD : va_D (va_A (cs_R S th bd cy) s.heap.size) (cs_R S (cs_k1 (cs_ak a && cs_ak b && decide (0 ≤ n))) bd cy) := hD1.weaken (fun k q _ h => hF q.1 h)
    subst hp
    refine cs_ifne (tgt := 32) hx hb dX2_adlerJoined_27 (by decide) (fun c_27 => ?_) (fun c_27 => ?_)
    · refine lv_iload_n hx hb dX2_adlerJoined_32 rfl (lv_at hl 1 rfl) ?_
      refine vp_callSi (W.runS (As := [.int a]) (rest := []) ⟨hx, hb, hml, hown, hts⟩ (k_X2_low l D S (cs_k1 (cs_ak a && cs_ak b && decide (0 ≤ n))) bd cy  a) (va_cwS 1 hts gX2_adlerJoined_X2_low rfl rfl rfl (by decide +kernel) ⟨Nat.le_of_ble_eq_true rfl, Nat.le_of_ble_eq_true rfl⟩) ⟨cs_B.blind, cs_B.at hE cs_none hK⟩ rfl rfl hl.1 rfl (lv_room (Nat.le_of_ble_eq_true rfl)) dX2_adlerJoined_33 ⟨Nat.le_of_ble_eq_true rfl, Nat.le_of_ble_eq_true rfl⟩) (fun r_33 e_33 => ?_)
      subst e_33
      refine lv_iload_n hx hb dX2_adlerJoined_36 rfl (lv_at hl 2 rfl) ?_
      refine vp_callSi (W.runS (As := [.int b]) (rest := [.int (a &&& 65535)]) ⟨hx, hb, hml, hown, hts⟩ (k_X2_low l D S (cs_k1 (cs_ak a && cs_ak b && decide (0 ≤ n))) bd cy  b) (va_cwS 1 hts gX2_adlerJoined_X2_low rfl rfl rfl (by decide +kernel) ⟨Nat.le_of_ble_eq_true rfl, Nat.le_of_ble_eq_true rfl⟩) ⟨cs_B.blind, cs_B.at hE cs_none hK⟩ rfl rfl hl.1 rfl (lv_room (Nat.le_of_ble_eq_true rfl)) dX2_adlerJoined_37 ⟨Nat.le_of_ble_eq_true rfl, Nat.le_of_ble_eq_true rfl⟩) (fun r_37 e_37 => ?_)
      subst e_37
      refine lv_iadd hx hb dX2_adlerJoined_40 ?_
      refine lv_iconst (v := 1) hx hb dX2_adlerJoined_41 (by decide) ?_
      refine lv_isub hx hb dX2_adlerJoined_42 ?_
      refine lv_i2l (v := (((a &&& 65535) + (b &&& 65535)) - 1).toInt64) hx hb dX2_adlerJoined_43 rfl ?_
      refine lv_lstore (lv' := [(4, .long ((((a &&& 65535) + (b &&& 65535)) - 1).toInt64)), (0, .ref (bd 0)), (1, .int a), (2, .int b), (3, .int n)]) hx hb dX2_adlerJoined_44 hl (by decide) rfl (fun ls hl => ?_)
      refine lv_iload_n hx hb dX2_adlerJoined_46 rfl (lv_at hl 2 rfl) ?_
      refine vp_callSi (W.runS (As := [.int a]) (rest := []) ⟨hx, hb, hml, hown, hts⟩ (k_X2_high l D S (cs_k1 (cs_ak a && cs_ak b && decide (0 ≤ n))) bd cy  a) (va_cwS 1 hts gX2_adlerJoined_X2_high rfl rfl rfl (by decide +kernel) ⟨Nat.le_of_ble_eq_true rfl, Nat.le_of_ble_eq_true rfl⟩) ⟨cs_B.blind, cs_B.at hE cs_none hK⟩ rfl rfl hl.1 rfl (lv_room (Nat.le_of_ble_eq_true rfl)) dX2_adlerJoined_47 ⟨Nat.le_of_ble_eq_true rfl, Nat.le_of_ble_eq_true rfl⟩) (fun r_47 e_47 => ?_)
      subst e_47
      refine lv_iload_n hx hb dX2_adlerJoined_50 rfl (lv_at hl 3 rfl) ?_
      refine vp_callSi (W.runS (As := [.int b]) (rest := [.int (cs_ur a 16)]) ⟨hx, hb, hml, hown, hts⟩ (k_X2_high l D S (cs_k1 (cs_ak a && cs_ak b && decide (0 ≤ n))) bd cy  b) (va_cwS 1 hts gX2_adlerJoined_X2_high rfl rfl rfl (by decide +kernel) ⟨Nat.le_of_ble_eq_true rfl, Nat.le_of_ble_eq_true rfl⟩) ⟨cs_B.blind, cs_B.at hE cs_none hK⟩ rfl rfl hl.1 rfl (lv_room (Nat.le_of_ble_eq_true rfl)) dX2_adlerJoined_51 ⟨Nat.le_of_ble_eq_true rfl, Nat.le_of_ble_eq_true rfl⟩) (fun r_51 e_51 => ?_)
      subst e_51
      refine lv_iadd hx hb dX2_adlerJoined_54 ?_
      refine lv_i2l (v := ((cs_ur a 16) + (cs_ur b 16)).toInt64) hx hb dX2_adlerJoined_55 rfl ?_
      refine lv_iload_n hx hb dX2_adlerJoined_56 rfl (lv_at hl 4 rfl) ?_
      refine lv_i2l (v := n.toInt64) hx hb dX2_adlerJoined_57 rfl ?_
      refine lv_iload_n hx hb dX2_adlerJoined_58 rfl (lv_at hl 2 rfl) ?_
      refine vp_callSi (W.runS (As := [.int a]) (rest := [.long n.toInt64, .long (((cs_ur a 16) + (cs_ur b 16)).toInt64)]) ⟨hx, hb, hml, hown, hts⟩ (k_X2_low l D S (cs_k1 (cs_ak a && cs_ak b && decide (0 ≤ n))) bd cy  a) (va_cwS 1 hts gX2_adlerJoined_X2_low rfl rfl rfl (by decide +kernel) ⟨Nat.le_of_ble_eq_true rfl, Nat.le_of_ble_eq_true rfl⟩) ⟨cs_B.blind, cs_B.at hE cs_none hK⟩ rfl rfl hl.1 rfl (lv_room (Nat.le_of_ble_eq_true rfl)) dX2_adlerJoined_59 ⟨Nat.le_of_ble_eq_true rfl, Nat.le_of_ble_eq_true rfl⟩) (fun r_59 e_59 => ?_)
      subst e_59
      refine lv_iconst (v := 1) hx hb dX2_adlerJoined_62 (by decide) ?_
      refine lv_isub hx hb dX2_adlerJoined_63 ?_
      refine lv_i2l (v := ((a &&& 65535) - 1).toInt64) hx hb dX2_adlerJoined_64 rfl ?_
      refine lv_lmul hx hb dX2_adlerJoined_65 ?_
      refine lv_ladd hx hb dX2_adlerJoined_66 ?_
      refine lv_lstore (lv' := [(6, .long ((((cs_ur a 16) + (cs_ur b 16)).toInt64) + (n.toInt64 * (((a &&& 65535) - 1).toInt64)))), (4, .long ((((a &&& 65535) + (b &&& 65535)) - 1).toInt64)), (0, .ref (bd 0)), (1, .int a), (2, .int b), (3, .int n)]) hx hb dX2_adlerJoined_67 hl (by decide) rfl (fun ls hl => ?_)
      refine lv_lload hx hb dX2_adlerJoined_69 (lv_at hl 1 rfl) ?_
      refine lv_lload hx hb dX2_adlerJoined_71 (lv_at hl 0 rfl) ?_
      refine vp_callSi (W.runS (As := [.long ((((a &&& 65535) + (b &&& 65535)) - 1).toInt64), .long ((((cs_ur a 16) + (cs_ur b 16)).toInt64) + (n.toInt64 * (((a &&& 65535) - 1).toInt64)))]) (rest := []) ⟨hx, hb, hml, hown, hts⟩ (k_X2_adlerOf l D S (cs_k1 (cs_ak a && cs_ak b && decide (0 ≤ n))) bd cy  ((((a &&& 65535) + (b &&& 65535)) - 1).toInt64) ((((cs_ur a 16) + (cs_ur b 16)).toInt64) + (n.toInt64 * (((a &&& 65535) - 1).toInt64)))) (va_cwS 2 hts gX2_adlerJoined_X2_adlerOf rfl rfl rfl (by decide +kernel) ⟨Nat.le_of_ble_eq_true rfl, Nat.le_of_ble_eq_true rfl⟩) ⟨cs_B.blind, cs_B.at hE cs_none hK⟩ rfl rfl hl.1 rfl (lv_room (Nat.le_of_ble_eq_true rfl)) dX2_adlerJoined_73 ⟨Nat.le_of_ble_eq_true rfl, Nat.le_of_ble_eq_true rfl⟩) (fun r_73 e_73 => ?_)
      subst e_73
      exact W.iret (v := cs_ad ((((a &&& 65535) + (b &&& 65535)) - 1).toInt64) ((((cs_ur a 16) + (cs_ur b 16)).toInt64) + (n.toInt64 * (((a &&& 65535) - 1).toInt64)))) hx hb hr (fun t ht _ => ⟨cs_ad ((((a &&& 65535) + (b &&& 65535)) - 1).toInt64) ((((cs_ur a 16) + (cs_ur b 16)).toInt64) + (n.toInt64 * (((a &&& 65535) - 1).toInt64))), (), rfl, fun _ => rfl, by rw [ht]; exact hP, by exact hD, hS9.F ht⟩) hS9.2.2 dX2_adlerJoined_76
    · refine lv_iconst (v := 0) hx hb dX2_adlerJoined_30 (by decide) ?_
      exact W.iret (v := 0) hx hb hr (fun t ht _ => ⟨0, (), rfl, fun z => absurd (cs_k1_0.mp z) (by rw [c_27]; decide), by rw [ht]; exact hP, by exact hD, hS9.F ht⟩) hS9.2.2 dX2_adlerJoined_31
  refine lv_iload_n hx hb dX2_adlerJoined_1 rfl (lv_at hl 1 rfl) ?_
  refine vp_callSi (W.runS (As := [.int a]) (rest := [.ref (bd 0)]) ⟨hx, hb, hml, hown, hts⟩ (k_X2_isAdler l D S th bd cy  a) (va_cwS 1 hts gX2_adlerJoined_X2_isAdler rfl rfl rfl (by decide +kernel) ⟨Nat.le_of_ble_eq_true rfl, Nat.le_of_ble_eq_true rfl⟩) ⟨cs_B.blind, cs_B.at hE cs_none hK⟩ rfl rfl hl.1 rfl (lv_room (Nat.le_of_ble_eq_true rfl)) dX2_adlerJoined_2 ⟨Nat.le_of_ble_eq_true rfl, Nat.le_of_ble_eq_true rfl⟩) (fun r_2 e_2 => ?_)
  subst e_2
  refine cs_ifeq (tgt := 23) hx hb dX2_adlerJoined_5 (by decide) (fun c_5 => ?_) (fun c_5 => ?_)
  · refine lv_iconst (v := 0) hx hb dX2_adlerJoined_23 (by decide) ?_
    refine cs_top (y := cs_z (cs_ak a && cs_ak b && decide (0 ≤ n))) (by simp [cs_z, cs_nS, c_5]) ?_
    exact j24
  · refine lv_iload_n hx hb dX2_adlerJoined_8 rfl (lv_at hl 2 rfl) ?_
    refine vp_callSi (W.runS (As := [.int b]) (rest := [.ref (bd 0)]) ⟨hx, hb, hml, hown, hts⟩ (k_X2_isAdler l D S th bd cy  b) (va_cwS 1 hts gX2_adlerJoined_X2_isAdler rfl rfl rfl (by decide +kernel) ⟨Nat.le_of_ble_eq_true rfl, Nat.le_of_ble_eq_true rfl⟩) ⟨cs_B.blind, cs_B.at hE cs_none hK⟩ rfl rfl hl.1 rfl (lv_room (Nat.le_of_ble_eq_true rfl)) dX2_adlerJoined_9 ⟨Nat.le_of_ble_eq_true rfl, Nat.le_of_ble_eq_true rfl⟩) (fun r_9 e_9 => ?_)
    subst e_9
    refine cs_ifeq (tgt := 23) hx hb dX2_adlerJoined_12 (by decide) (fun c_12 => ?_) (fun c_12 => ?_)
    · refine lv_iconst (v := 0) hx hb dX2_adlerJoined_23 (by decide) ?_
      refine cs_top (y := cs_z (cs_ak a && cs_ak b && decide (0 ≤ n))) (by simp [cs_z, cs_nS, c_5, c_12]) ?_
      exact j24
    · refine lv_iload_n hx hb dX2_adlerJoined_15 rfl (lv_at hl 3 rfl) ?_
      refine lv_if_lt (tgt := 23) hx hb dX2_adlerJoined_16 (by decide) (fun c_16 => ?_) (fun c_16 => ?_)
      · refine lv_iconst (v := 0) hx hb dX2_adlerJoined_23 (by decide) ?_
        refine cs_top (y := cs_z (cs_ak a && cs_ak b && decide (0 ≤ n))) (by simp [cs_z, cs_nS, c_5, c_12, decide_eq_false (Int32.not_le.mpr c_16)]) ?_
        exact j24
      · refine lv_iconst (v := 1) hx hb dX2_adlerJoined_19 (by decide) ?_
        refine lv_goto (tgt := 24) hx hb dX2_adlerJoined_20 (by decide) ?_
        refine cs_top (y := cs_z (cs_ak a && cs_ak b && decide (0 ≤ n))) (by simp [cs_z, cs_nS, c_5, c_12, decide_eq_true (Int32.not_lt.mp c_16)]) ?_
        exact j24
set_option maxHeartbeats 4000000 in
set_option maxRecDepth 100000 in
theorem k_X2_adlerRolled (l : Launch) (D : va_G) (S : cs_St) (th : Int32) (bd : Nat → Nat) (cy : Nat → ClassId) (sz : Nat) (a n o i : Int32) : cs_Mw l yX2_adlerRolled wsX2_adlerRolled ({ frames := 2, cells := 0, slots := 0, locals := 46 }) D (cs_tys cy) (cs_R S th bd cy) sz [.ref (bd 0), .int a, .int n, .int o, .int i] (fun (_ : Unit) => cs_R S (cs_kAdr a n o i) bd cy) (fun rr _ => cs_kAdr a n o i = 0 → rr = cs_vAdr a n o i) := by
  refine Met.ofW (cc := cX2_adlerRolled) (maxL := 9) (ret := (some .int)) (by decide) rfl ?_
  intro pg e s m args below meth c s₁ B hml hv
  obtain ⟨rfl, hsz, hE, hP, hK, hD0⟩ := hv
  subst hsz
  have hD := hD0.self (sz := s.heap.size)
  have hA : ∀ q : Nat, s.heap.size ≤ q → va_A (cs_R S th bd cy) s.heap.size q := fun q h => Or.inr h
  have hS9 : va_S (va_A (cs_R S th bd cy) s.heap.size) s.heap s.heap [] := va_S.rf
  have hx := B.exec
  have hb := B.bytes
  have hr := B.returns
  have hts := atoms_spec (ws := wsX2_adlerRolled) B.pre
  have hown : s.vm.findClass RX2 = some m.cls := findClass_of_methodNamed B.named
  have hlocks := B.notSynchronized
  have hl := lv_entry ([.ref (bd 0), .int a, .int n, .int o, .int i]) (n := 9) (Nat.le_of_ble_eq_true rfl)
  rw [lg_entry_eq]
  generalize (lg_sl ([.ref (bd 0), .int a, .int n, .int o, .int i]) ++ List.replicate (9 - (lg_sl ([.ref (bd 0), .int a, .int n, .int o, .int i])).length) Slot.unset).toArray = ls at hl ⊢
  have hl : lv_has ls 9 [(0, .ref (bd 0)), (1, .int a), (2, .int n), (3, .int o), (4, .int i)] := hl
  have hinX2 : ∀ w ∈ wsX20, w ∈ wsX2_adlerRolled := fun _ h => by unfold wsX2_adlerRolled; exact List.mem_cons_of_mem _ (List.mem_append_right _ h)
  refine lv_aload_n hx hb dX2_adlerRolled_0 rfl (lv_at hl 0 rfl) ?_
  have j33 : W pg l e (headSpec wsX2_adlerRolled ({ frames := 2, cells := 0, slots := 0, locals := 46 })).room s m [Value.ref (bd 0), Value.int a, Value.int n, Value.int o, Value.int i].toArray below meth c s.heap [] 0 0 (MQ below (cs_Qw D (cs_R S th bd cy) (fun (_ : Unit) => cs_R S (cs_kAdr a n o i) bd cy) (fun rr _ => cs_kAdr a n o i = 0 → rr = cs_vAdr a n o i)) [Value.ref (bd 0), Value.int a, Value.int n, Value.int o, Value.int i].toArray s 0 0 (va_A (cs_R S th bd cy) s.heap.size)) (F0 m 33 ls [.int (cs_z (cs_ak a && decide (1 ≤ n) && cs_in o 0 255 && cs_in i 0 255)), .ref (bd 0)]) := by
    have hF := cs_inW hD hS9 hA
    refine cs_wcalli (va_runV (As := [.int (cs_z (cs_ak a && decide (1 ≤ n) && cs_in o 0 255 && cs_in i 0 255))]) (rest := []) ⟨hx, hb, hml, hown, hts⟩ (k_X2_asked l D S th bd cy s.heap.size (cs_ak a && decide (1 ≤ n) && cs_in o 0 255 && cs_in i 0 255)) (cwV 1 hts gX2_adlerRolled_X2_asked rfl rfl rfl (by decide +kernel) ⟨Nat.le_of_ble_eq_true rfl, Nat.le_of_ble_eq_true rfl⟩) ⟨cs_Bw.blind, va_recv hK hP (ci := 2) (q0 := 0) rfl rfl, cs_Bw.at hE hP hK hD⟩ rfl rfl hl.1 rfl (lv_room (Nat.le_of_ble_eq_true rfl)) dX2_adlerRolled_33 ⟨Nat.le_of_ble_eq_true rfl, Nat.le_of_ble_eq_true rfl⟩) hS9 hF (fun r_33 u9 H locs hp hP hD1 hz hk1 hS9 => ?_)
    have hP : va_P D vwCl (cs_R S (cs_k1 (cs_ak a && decide (1 ≤ n) && cs_in o 0 255 && cs_in i 0 255)) bd cy) H := hP
    have hD : va_D (va_A (cs_R S th bd cy) s.heap.size) (cs_R S (cs_k1 (cs_ak a && decide (1 ≤ n) && cs_in o 0 255 && cs_in i 0 255)) bd cy) := hD1.weaken (fun k q _ h => hF q.1 h)
    subst hp
    refine cs_ifne (tgt := 41) hx hb dX2_adlerRolled_36 (by decide) (fun c_36 => ?_) (fun c_36 => ?_)
    · refine lv_iload_n hx hb dX2_adlerRolled_41 rfl (lv_at hl 1 rfl) ?_
      refine vp_callSi (W.runS (As := [.int a]) (rest := []) ⟨hx, hb, hml, hown, hts⟩ (k_X2_low l D S (cs_k1 (cs_ak a && decide (1 ≤ n) && cs_in o 0 255 && cs_in i 0 255)) bd cy  a) (va_cwS 1 hts gX2_adlerRolled_X2_low rfl rfl rfl (by decide +kernel) ⟨Nat.le_of_ble_eq_true rfl, Nat.le_of_ble_eq_true rfl⟩) ⟨cs_B.blind, cs_B.at hE cs_none hK⟩ rfl rfl hl.1 rfl (lv_room (Nat.le_of_ble_eq_true rfl)) dX2_adlerRolled_42 ⟨Nat.le_of_ble_eq_true rfl, Nat.le_of_ble_eq_true rfl⟩) (fun r_42 e_42 => ?_)
      subst e_42
      refine lv_iload hx hb dX2_adlerRolled_45 (lv_at hl 4 rfl) ?_
      refine lv_iadd hx hb dX2_adlerRolled_47 ?_
      refine lv_iload_n hx hb dX2_adlerRolled_48 rfl (lv_at hl 3 rfl) ?_
      refine lv_isub hx hb dX2_adlerRolled_49 ?_
      refine lv_i2l (v := (((a &&& 65535) + i) - o).toInt64) hx hb dX2_adlerRolled_50 rfl ?_
      refine lv_lstore (lv' := [(5, .long ((((a &&& 65535) + i) - o).toInt64)), (0, .ref (bd 0)), (1, .int a), (2, .int n), (3, .int o), (4, .int i)]) hx hb dX2_adlerRolled_51 hl (by decide) rfl (fun ls hl => ?_)
      refine lv_iload_n hx hb dX2_adlerRolled_53 rfl (lv_at hl 2 rfl) ?_
      refine vp_callSi (W.runS (As := [.int a]) (rest := []) ⟨hx, hb, hml, hown, hts⟩ (k_X2_high l D S (cs_k1 (cs_ak a && decide (1 ≤ n) && cs_in o 0 255 && cs_in i 0 255)) bd cy  a) (va_cwS 1 hts gX2_adlerRolled_X2_high rfl rfl rfl (by decide +kernel) ⟨Nat.le_of_ble_eq_true rfl, Nat.le_of_ble_eq_true rfl⟩) ⟨cs_B.blind, cs_B.at hE cs_none hK⟩ rfl rfl hl.1 rfl (lv_room (Nat.le_of_ble_eq_true rfl)) dX2_adlerRolled_54 ⟨Nat.le_of_ble_eq_true rfl, Nat.le_of_ble_eq_true rfl⟩) (fun r_54 e_54 => ?_)
      subst e_54
      refine lv_i2l (v := (cs_ur a 16).toInt64) hx hb dX2_adlerRolled_57 rfl ?_
      refine lv_iload_n hx hb dX2_adlerRolled_58 rfl (lv_at hl 3 rfl) ?_
      refine lv_i2l (v := n.toInt64) hx hb dX2_adlerRolled_59 rfl ?_
      refine lv_iload_n hx hb dX2_adlerRolled_60 rfl (lv_at hl 4 rfl) ?_
      refine lv_i2l (v := o.toInt64) hx hb dX2_adlerRolled_61 rfl ?_
      refine lv_lmul hx hb dX2_adlerRolled_62 ?_
      refine lv_lsub hx hb dX2_adlerRolled_63 ?_
      refine lv_lload hx hb dX2_adlerRolled_64 (lv_at hl 0 rfl) ?_
      refine lv_ladd hx hb dX2_adlerRolled_66 ?_
      refine lv_lconst (v := 1) hx hb dX2_adlerRolled_67 (by decide) ?_
      refine lv_lsub hx hb dX2_adlerRolled_68 ?_
      refine lv_lstore (lv' := [(7, .long (((((cs_ur a 16).toInt64) - (n.toInt64 * o.toInt64)) + ((((a &&& 65535) + i) - o).toInt64)) - 1)), (5, .long ((((a &&& 65535) + i) - o).toInt64)), (0, .ref (bd 0)), (1, .int a), (2, .int n), (3, .int o), (4, .int i)]) hx hb dX2_adlerRolled_69 hl (by decide) rfl (fun ls hl => ?_)
      refine lv_lload hx hb dX2_adlerRolled_71 (lv_at hl 1 rfl) ?_
      refine lv_lload hx hb dX2_adlerRolled_73 (lv_at hl 0 rfl) ?_
      refine vp_callSi (W.runS (As := [.long ((((a &&& 65535) + i) - o).toInt64), .long (((((cs_ur a 16).toInt64) - (n.toInt64 * o.toInt64)) + ((((a &&& 65535) + i) - o).toInt64)) - 1)]) (rest := []) ⟨hx, hb, hml, hown, hts⟩ (k_X2_adlerOf l D S (cs_k1 (cs_ak a && decide (1 ≤ n) && cs_in o 0 255 && cs_in i 0 255)) bd cy  ((((a &&& 65535) + i) - o).toInt64) (((((cs_ur a 16).toInt64) - (n.toInt64 * o.toInt64)) + ((((a &&& 65535) + i) - o).toInt64)) - 1)) (va_cwS 2 hts gX2_adlerRolled_X2_adlerOf rfl rfl rfl (by decide +kernel) ⟨Nat.le_of_ble_eq_true rfl, Nat.le_of_ble_eq_true rfl⟩) ⟨cs_B.blind, cs_B.at hE cs_none hK⟩ rfl rfl hl.1 rfl (lv_room (Nat.le_of_ble_eq_true rfl)) dX2_adlerRolled_75 ⟨Nat.le_of_ble_eq_true rfl, Nat.le_of_ble_eq_true rfl⟩) (fun r_75 e_75 => ?_)
      subst e_75
      exact W.iret (v := cs_ad ((((a &&& 65535) + i) - o).toInt64) (((((cs_ur a 16).toInt64) - (n.toInt64 * o.toInt64)) + ((((a &&& 65535) + i) - o).toInt64)) - 1)) hx hb hr (fun t ht _ => ⟨cs_ad ((((a &&& 65535) + i) - o).toInt64) (((((cs_ur a 16).toInt64) - (n.toInt64 * o.toInt64)) + ((((a &&& 65535) + i) - o).toInt64)) - 1), (), rfl, fun _ => rfl, by rw [ht]; exact hP, by exact hD, hS9.F ht⟩) hS9.2.2 dX2_adlerRolled_78
    · refine lv_iconst (v := 0) hx hb dX2_adlerRolled_39 (by decide) ?_
      exact W.iret (v := 0) hx hb hr (fun t ht _ => ⟨0, (), rfl, fun z => absurd (cs_k1_0.mp z) (by rw [c_36]; decide), by rw [ht]; exact hP, by exact hD, hS9.F ht⟩) hS9.2.2 dX2_adlerRolled_40
  refine lv_iload_n hx hb dX2_adlerRolled_1 rfl (lv_at hl 1 rfl) ?_
  refine vp_callSi (W.runS (As := [.int a]) (rest := [.ref (bd 0)]) ⟨hx, hb, hml, hown, hts⟩ (k_X2_isAdler l D S th bd cy  a) (va_cwS 1 hts gX2_adlerRolled_X2_isAdler rfl rfl rfl (by decide +kernel) ⟨Nat.le_of_ble_eq_true rfl, Nat.le_of_ble_eq_true rfl⟩) ⟨cs_B.blind, cs_B.at hE cs_none hK⟩ rfl rfl hl.1 rfl (lv_room (Nat.le_of_ble_eq_true rfl)) dX2_adlerRolled_2 ⟨Nat.le_of_ble_eq_true rfl, Nat.le_of_ble_eq_true rfl⟩) (fun r_2 e_2 => ?_)
  subst e_2
  refine cs_ifeq (tgt := 32) hx hb dX2_adlerRolled_5 (by decide) (fun c_5 => ?_) (fun c_5 => ?_)
  · refine lv_iconst (v := 0) hx hb dX2_adlerRolled_32 (by decide) ?_
    refine cs_top (y := cs_z (cs_ak a && decide (1 ≤ n) && cs_in o 0 255 && cs_in i 0 255)) (by simp [cs_z, cs_nS, c_5]) ?_
    exact j33
  · refine lv_iload_n hx hb dX2_adlerRolled_8 rfl (lv_at hl 2 rfl) ?_
    refine lv_iconst (v := 1) hx hb dX2_adlerRolled_9 (by decide) ?_
    refine lv_icmp_lt (tgt := 32) hx hb dX2_adlerRolled_10 (by decide) (fun c_10 => ?_) (fun c_10 => ?_)
    · refine lv_iconst (v := 0) hx hb dX2_adlerRolled_32 (by decide) ?_
      refine cs_top (y := cs_z (cs_ak a && decide (1 ≤ n) && cs_in o 0 255 && cs_in i 0 255)) (by simp [cs_z, cs_nS, c_5, decide_eq_false (Int32.not_le.mpr c_10)]) ?_
      exact j33
    · refine lv_iload_n hx hb dX2_adlerRolled_13 rfl (lv_at hl 3 rfl) ?_
      refine vp_callSi (W.runS (As := [.int o]) (rest := [.ref (bd 0)]) ⟨hx, hb, hml, hown, hts⟩ (k_X2_isByte l D S th bd cy  o) (va_cwS 1 hts gX2_adlerRolled_X2_isByte rfl rfl rfl (by decide +kernel) ⟨Nat.le_of_ble_eq_true rfl, Nat.le_of_ble_eq_true rfl⟩) ⟨cs_B.blind, cs_B.at hE cs_none hK⟩ rfl rfl hl.1 rfl (lv_room (Nat.le_of_ble_eq_true rfl)) dX2_adlerRolled_14 ⟨Nat.le_of_ble_eq_true rfl, Nat.le_of_ble_eq_true rfl⟩) (fun r_14 e_14 => ?_)
      subst e_14
      refine cs_ifeq (tgt := 32) hx hb dX2_adlerRolled_17 (by decide) (fun c_17 => ?_) (fun c_17 => ?_)
      · refine lv_iconst (v := 0) hx hb dX2_adlerRolled_32 (by decide) ?_
        refine cs_top (y := cs_z (cs_ak a && decide (1 ≤ n) && cs_in o 0 255 && cs_in i 0 255)) (by simp [cs_z, cs_nS, c_5, decide_eq_true (Int32.not_lt.mp c_10), c_17]) ?_
        exact j33
      · refine lv_iload hx hb dX2_adlerRolled_20 (lv_at hl 4 rfl) ?_
        refine vp_callSi (W.runS (As := [.int i]) (rest := [.ref (bd 0)]) ⟨hx, hb, hml, hown, hts⟩ (k_X2_isByte l D S th bd cy  i) (va_cwS 1 hts gX2_adlerRolled_X2_isByte rfl rfl rfl (by decide +kernel) ⟨Nat.le_of_ble_eq_true rfl, Nat.le_of_ble_eq_true rfl⟩) ⟨cs_B.blind, cs_B.at hE cs_none hK⟩ rfl rfl hl.1 rfl (lv_room (Nat.le_of_ble_eq_true rfl)) dX2_adlerRolled_22 ⟨Nat.le_of_ble_eq_true rfl, Nat.le_of_ble_eq_true rfl⟩) (fun r_22 e_22 => ?_)
        subst e_22
        refine cs_ifeq (tgt := 32) hx hb dX2_adlerRolled_25 (by decide) (fun c_25 => ?_) (fun c_25 => ?_)
        · refine lv_iconst (v := 0) hx hb dX2_adlerRolled_32 (by decide) ?_
          refine cs_top (y := cs_z (cs_ak a && decide (1 ≤ n) && cs_in o 0 255 && cs_in i 0 255)) (by simp [cs_z, cs_nS, c_5, decide_eq_true (Int32.not_lt.mp c_10), c_17, c_25]) ?_
          exact j33
        · refine lv_iconst (v := 1) hx hb dX2_adlerRolled_28 (by decide) ?_
          refine lv_goto (tgt := 33) hx hb dX2_adlerRolled_29 (by decide) ?_
          refine cs_top (y := cs_z (cs_ak a && decide (1 ≤ n) && cs_in o 0 255 && cs_in i 0 255)) (by simp [cs_z, cs_nS, c_5, decide_eq_true (Int32.not_lt.mp c_10), c_17, c_25]) ?_
          exact j33
end
section
set_option maxHeartbeats 4000000 in
set_option maxRecDepth 100000 in
theorem k_X2_joined (l : Launch) (D : va_G) (S : cs_St) (th : Int32) (bd : Nat → Nat) (cy : Nat → ClassId) (sz : Nat) (hS : cs_ok S) (v a b n : Int32) : cs_Mw l yX2_joined wsX2_joined ({ frames := 3, cells := 0, slots := 0, locals := 75 }) D (cs_tys cy) (cs_R S th bd cy) sz [.ref (bd 0), .int v, .int a, .int b, .int n] (fun (_ : Unit) => cs_R S (cs_kJoi S v a b n) bd cy) (fun rr _ => cs_kJoi S v a b n = 0 → rr = cs_vJoi S v a b n) := by
  refine Met.ofW (cc := cX2_joined) (maxL := 8) (ret := (some .int)) (by decide) rfl ?_
  intro pg e s m args below meth c s₁ B hml hv
  obtain ⟨rfl, hsz, hE, hP, hK, hD0⟩ := hv
  subst hsz
  have hD := hD0.self (sz := s.heap.size)
  have hA : ∀ q : Nat, s.heap.size ≤ q → va_A (cs_R S th bd cy) s.heap.size q := fun q h => Or.inr h
  have hS9 : va_S (va_A (cs_R S th bd cy) s.heap.size) s.heap s.heap [] := va_S.rf
  have hx := B.exec
  have hb := B.bytes
  have hr := B.returns
  have hts := atoms_spec (ws := wsX2_joined) B.pre
  have hown : s.vm.findClass RX2 = some m.cls := findClass_of_methodNamed B.named
  have hlocks := B.notSynchronized
  have hl := lv_entry ([.ref (bd 0), .int v, .int a, .int b, .int n]) (n := 8) (Nat.le_of_ble_eq_true rfl)
  rw [lg_entry_eq]
  generalize (lg_sl ([.ref (bd 0), .int v, .int a, .int b, .int n]) ++ List.replicate (8 - (lg_sl ([.ref (bd 0), .int v, .int a, .int b, .int n])).length) Slot.unset).toArray = ls at hl ⊢
  have hl : lv_has ls 8 [(0, .ref (bd 0)), (1, .int v), (2, .int a), (3, .int b), (4, .int n)] := hl
  have hinX2 : ∀ w ∈ wsX20, w ∈ wsX2_joined := fun _ h => by unfold wsX2_joined; exact List.mem_cons_of_mem _ (List.mem_append_right _ h)
  have h6 := hS.1
  refine lv_aload_n hx hb dX2_joined_0 rfl (lv_at hl 0 rfl) ?_
  refine lv_iload_n hx hb dX2_joined_1 rfl (lv_at hl 1 rfl) ?_
  refine vp_callSi (W.runV (As := [.int v]) (rest := []) ⟨hx, hb, hml, hown, hts⟩ (k_X2_isModel l D S th bd cy  v) (cwV 1 hts gX2_joined_X2_isModel rfl rfl rfl (by decide +kernel) ⟨Nat.le_of_ble_eq_true rfl, Nat.le_of_ble_eq_true rfl⟩) ⟨cs_B.blind, va_recv hK hP (ci := 2) (q0 := 0) rfl rfl, cs_B.at hE hP hK⟩ rfl rfl hl.1 rfl (lv_room (Nat.le_of_ble_eq_true rfl)) dX2_joined_2 ⟨Nat.le_of_ble_eq_true rfl, Nat.le_of_ble_eq_true rfl⟩) (fun r_2 e_2 => ?_)
  subst e_2
  refine cs_top (y := cs_z (cs_M S v)) rfl ?_
  refine lv_istore (lv' := [(5, .int (cs_z (cs_M S v))), (0, .ref (bd 0)), (1, .int v), (2, .int a), (3, .int b), (4, .int n)]) hx hb dX2_joined_5 hl (by decide) rfl (fun ls hl => ?_)
  have j43 : W pg l e (headSpec wsX2_joined ({ frames := 3, cells := 0, slots := 0, locals := 75 })).room s m [Value.ref (bd 0), Value.int v, Value.int a, Value.int b, Value.int n].toArray below meth c s.heap [] 0 0 (MQ below (cs_Qw D (cs_R S th bd cy) (fun (_ : Unit) => cs_R S (cs_kJoi S v a b n) bd cy) (fun rr _ => cs_kJoi S v a b n = 0 → rr = cs_vJoi S v a b n)) [Value.ref (bd 0), Value.int v, Value.int a, Value.int b, Value.int n].toArray s 0 0 (va_A (cs_R S th bd cy) s.heap.size)) (F0 m 43 ls [.int (cs_z (cs_M S v && cs_nS S v a && cs_nS S v b && decide (0 ≤ n))), .int (cs_z (cs_M S v)), .ref (bd 0)]) := by
    have hF := cs_inW hD hS9 hA
    refine cs_wcalli (va_runV (As := [.int (cs_z (cs_M S v)), .int (cs_z (cs_M S v && cs_nS S v a && cs_nS S v b && decide (0 ≤ n)))]) (rest := []) ⟨hx, hb, hml, hown, hts⟩ (k_X2_asked_ l D S th bd cy s.heap.size (cs_M S v) (cs_M S v && cs_nS S v a && cs_nS S v b && decide (0 ≤ n))) (cwV 2 hts gX2_joined_X2_asked_ rfl rfl rfl (by decide +kernel) ⟨Nat.le_of_ble_eq_true rfl, Nat.le_of_ble_eq_true rfl⟩) ⟨cs_Bw.blind, va_recv hK hP (ci := 2) (q0 := 0) rfl rfl, cs_Bw.at hE hP hK hD⟩ rfl rfl hl.1 rfl (lv_room (Nat.le_of_ble_eq_true rfl)) dX2_joined_43 ⟨Nat.le_of_ble_eq_true rfl, Nat.le_of_ble_eq_true rfl⟩) hS9 hF (fun r_43 u9 H locs hp hP hD1 hz hk1 hS9 => ?_)
    have hP : va_P D vwCl (cs_R S (cs_k2 (cs_M S v) (cs_M S v && cs_nS S v a && cs_nS S v b && decide (0 ≤ n))) bd cy) H := hP
    have hD : va_D (va_A (cs_R S th bd cy) s.heap.size) (cs_R S (cs_k2 (cs_M S v) (cs_M S v && cs_nS S v a && cs_nS S v b && decide (0 ≤ n))) bd cy) := hD1.weaken (fun k q _ h => hF q.1 h)
    subst hp
    refine cs_ifne (tgt := 51) hx hb dX2_joined_46 (by decide) (fun c_46 => ?_) (fun c_46 => ?_)
    · have hm := (cs_and c_46).1
      obtain ⟨k, hk, rfl⟩ := cs_mod_of hS hm
      have hk31 : k < 2 ^ 31 := by omega
      obtain ⟨hw1, hw2⟩ := hS.2.1 k hk
      refine lv_aload_n hx hb dX2_joined_51 rfl (lv_at hl 1 rfl) ?_
      refine lv_iload_n hx hb dX2_joined_52 rfl (lv_at hl 2 rfl) ?_
      refine lv_iload_n hx hb dX2_joined_53 rfl (lv_at hl 3 rfl) ?_
      refine vp_callSi (W.runV (As := [.int (nI k), .int a]) (rest := []) ⟨hx, hb, hml, hown, hts⟩ (k_X2_registerOf l D S (cs_k2 (cs_M S (nI k)) (cs_M S (nI k) && cs_nS S (nI k) a && cs_nS S (nI k) b && decide (0 ≤ n))) bd cy hS k hk a) (cwV 2 hts gX2_joined_X2_registerOf rfl rfl rfl (by decide +kernel) ⟨Nat.le_of_ble_eq_true rfl, Nat.le_of_ble_eq_true rfl⟩) ⟨cs_B.blind, va_recv hK hP (ci := 2) (q0 := 0) rfl rfl, cs_B.at hE hP hK⟩ rfl rfl hl.1 rfl (lv_room (Nat.le_of_ble_eq_true rfl)) dX2_joined_54 ⟨Nat.le_of_ble_eq_true rfl, Nat.le_of_ble_eq_true rfl⟩) (fun r_54 e_54 => ?_)
      subst e_54
      refine lv_aload_n hx hb dX2_joined_57 rfl (lv_at hl 1 rfl) ?_
      refine va_get (D := D) (ci := 2) (v := .ref (bd 3)) (C := RX2) (T := TX2) (N := 10) hx hb hts hinX2 hown hK hP 0 cs_R0 rfl 2 (by decide) (hts (.fieldLink RX2 16 "ChecksumLabModel" "init" "[I") (by decide +kernel)) (fun _ h9 => h9) rfl dX2_joined_58 ?_
      refine lv_iload_n hx hb dX2_joined_61 rfl (lv_at hl 2 rfl) ?_
      refine cs_iald hx hb hK hP 3 0 cs_R3 rfl (k := k) (by omega) (by decide) dX2_joined_62 ?_
      refine lv_ixor hx hb dX2_joined_63 ?_
      refine lv_istore (lv' := [(6, .int ((cs_so (cs_ro S k) (cs_w S k) (a ^^^ cs_x S k)) ^^^ (cs_i S k))), (5, .int (cs_z (cs_M S (nI k)))), (0, .ref (bd 0)), (1, .int (nI k)), (2, .int a), (3, .int b), (4, .int n)]) hx hb dX2_joined_64 hl (by decide) rfl (fun ls hl => ?_)
      refine lv_aload_n hx hb dX2_joined_66 rfl (lv_at hl 2 rfl) ?_
      refine lv_iload_n hx hb dX2_joined_67 rfl (lv_at hl 3 rfl) ?_
      refine lv_iload_n hx hb dX2_joined_68 rfl (lv_at hl 5 rfl) ?_
      refine vp_callSi (W.runV (As := [.int (nI k), .int b]) (rest := []) ⟨hx, hb, hml, hown, hts⟩ (k_X2_registerOf l D S (cs_k2 (cs_M S (nI k)) (cs_M S (nI k) && cs_nS S (nI k) a && cs_nS S (nI k) b && decide (0 ≤ n))) bd cy hS k hk b) (cwV 2 hts gX2_joined_X2_registerOf rfl rfl rfl (by decide +kernel) ⟨Nat.le_of_ble_eq_true rfl, Nat.le_of_ble_eq_true rfl⟩) ⟨cs_B.blind, va_recv hK hP (ci := 2) (q0 := 0) rfl rfl, cs_B.at hE hP hK⟩ rfl rfl hl.1 rfl (lv_room (Nat.le_of_ble_eq_true rfl)) dX2_joined_69 ⟨Nat.le_of_ble_eq_true rfl, Nat.le_of_ble_eq_true rfl⟩) (fun r_69 e_69 => ?_)
      subst e_69
      refine lv_istore (lv' := [(7, .int (cs_so (cs_ro S k) (cs_w S k) (b ^^^ cs_x S k))), (6, .int ((cs_so (cs_ro S k) (cs_w S k) (a ^^^ cs_x S k)) ^^^ (cs_i S k))), (5, .int (cs_z (cs_M S (nI k)))), (0, .ref (bd 0)), (1, .int (nI k)), (2, .int a), (3, .int b), (4, .int n)]) hx hb dX2_joined_72 hl (by decide) rfl (fun ls hl => ?_)
      refine lv_aload_n hx hb dX2_joined_74 rfl (lv_at hl 3 rfl) ?_
      refine lv_iload_n hx hb dX2_joined_75 rfl (lv_at hl 4 rfl) ?_
      refine lv_iload hx hb dX2_joined_76 (lv_at hl 0 rfl) ?_
      refine lv_aload_n hx hb dX2_joined_78 rfl (lv_at hl 3 rfl) ?_
      refine lv_iload_n hx hb dX2_joined_79 rfl (lv_at hl 4 rfl) ?_
      refine lv_iload hx hb dX2_joined_80 (lv_at hl 1 rfl) ?_
      refine lv_aload_n hx hb dX2_joined_82 rfl (lv_at hl 3 rfl) ?_
      refine lv_iload_n hx hb dX2_joined_83 rfl (lv_at hl 4 rfl) ?_
      refine lv_ldc2 (v := 8) hx hb hown (hts (.constantLong RX2 106 8) (by decide +kernel)) dX2_joined_84 ?_
      refine lv_iload hx hb dX2_joined_87 (lv_at hl 7 rfl) ?_
      refine lv_i2l (v := n.toInt64) hx hb dX2_joined_89 rfl ?_
      refine lv_lmul hx hb dX2_joined_90 ?_
      refine vp_callSi (W.runV (As := [.int (nI k), .long (8 * n.toInt64)]) (rest := [.int ((cs_so (cs_ro S k) (cs_w S k) (a ^^^ cs_x S k)) ^^^ (cs_i S k)), .int (nI k), .ref (bd 0), .int (cs_so (cs_ro S k) (cs_w S k) (b ^^^ cs_x S k)), .int (nI k), .ref (bd 0)]) ⟨hx, hb, hml, hown, hts⟩ (k_X2_powerOf l D S (cs_k2 (cs_M S (nI k)) (cs_M S (nI k) && cs_nS S (nI k) a && cs_nS S (nI k) b && decide (0 ≤ n))) bd cy hS k hk (8 * n.toInt64)) (cwV 2 hts gX2_joined_X2_powerOf rfl rfl rfl (by decide +kernel) ⟨Nat.le_of_ble_eq_true rfl, Nat.le_of_ble_eq_true rfl⟩) ⟨cs_B.blind, va_recv hK hP (ci := 2) (q0 := 0) rfl rfl, cs_B.at hE hP hK⟩ rfl rfl hl.1 rfl (lv_room (Nat.le_of_ble_eq_true rfl)) dX2_joined_91 ⟨Nat.le_of_ble_eq_true rfl, Nat.le_of_ble_eq_true rfl⟩) (fun r_91 e_91 => ?_)
      subst e_91
      refine lv_aload_n hx hb dX2_joined_94 rfl (lv_at hl 3 rfl) ?_
      refine va_get (D := D) (ci := 2) (v := .ref (bd 1)) (C := RX2) (T := TX2) (N := 10) hx hb hts hinX2 hown hK hP 0 cs_R0 rfl 0 (by decide) (hts (.fieldLink RX2 7 "ChecksumLabModel" "width" "[I") (by decide +kernel)) (fun _ h9 => h9) rfl dX2_joined_95 ?_
      refine lv_iload_n hx hb dX2_joined_98 rfl (lv_at hl 4 rfl) ?_
      refine cs_iald hx hb hK hP 1 0 cs_R1 rfl (k := k) (by omega) (by decide) dX2_joined_99 ?_
      refine vp_callSi (W.runV (As := [.int (nI k), .int ((cs_so (cs_ro S k) (cs_w S k) (a ^^^ cs_x S k)) ^^^ (cs_i S k)), .int (cs_pow (cs_w S k) (cs_p S k) (8 * n.toInt64)), .int (nI (cs_w S k))]) (rest := [.int (cs_so (cs_ro S k) (cs_w S k) (b ^^^ cs_x S k)), .int (nI k), .ref (bd 0)]) ⟨hx, hb, hml, hown, hts⟩ (k_X2_times l D S (cs_k2 (cs_M S (nI k)) (cs_M S (nI k) && cs_nS S (nI k) a && cs_nS S (nI k) b && decide (0 ≤ n))) bd cy hS k hk ((cs_so (cs_ro S k) (cs_w S k) (a ^^^ cs_x S k)) ^^^ (cs_i S k)) (cs_pow (cs_w S k) (cs_p S k) (8 * n.toInt64)) (cs_w S k) hw2) (cwV 4 hts gX2_joined_X2_times rfl rfl rfl (by decide +kernel) ⟨Nat.le_of_ble_eq_true rfl, Nat.le_of_ble_eq_true rfl⟩) ⟨cs_B.blind, va_recv hK hP (ci := 2) (q0 := 0) rfl rfl, cs_B.at hE hP hK⟩ rfl rfl hl.1 rfl (lv_room (Nat.le_of_ble_eq_true rfl)) dX2_joined_100 ⟨Nat.le_of_ble_eq_true rfl, Nat.le_of_ble_eq_true rfl⟩) (fun r_100 e_100 => ?_)
      subst e_100
      refine lv_ixor hx hb dX2_joined_103 ?_
      refine vp_callSi (W.runV (As := [.int (nI k), .int ((cs_so (cs_ro S k) (cs_w S k) (b ^^^ cs_x S k)) ^^^ (cs_mul (cs_w S k) (cs_p S k) ((cs_so (cs_ro S k) (cs_w S k) (a ^^^ cs_x S k)) ^^^ (cs_i S k)) (cs_pow (cs_w S k) (cs_p S k) (8 * n.toInt64)) (cs_w S k)))]) (rest := []) ⟨hx, hb, hml, hown, hts⟩ (k_X2_sumOf l D S (cs_k2 (cs_M S (nI k)) (cs_M S (nI k) && cs_nS S (nI k) a && cs_nS S (nI k) b && decide (0 ≤ n))) bd cy hS k hk ((cs_so (cs_ro S k) (cs_w S k) (b ^^^ cs_x S k)) ^^^ (cs_mul (cs_w S k) (cs_p S k) ((cs_so (cs_ro S k) (cs_w S k) (a ^^^ cs_x S k)) ^^^ (cs_i S k)) (cs_pow (cs_w S k) (cs_p S k) (8 * n.toInt64)) (cs_w S k)))) (cwV 2 hts gX2_joined_X2_sumOf rfl rfl rfl (by decide +kernel) ⟨Nat.le_of_ble_eq_true rfl, Nat.le_of_ble_eq_true rfl⟩) ⟨cs_B.blind, va_recv hK hP (ci := 2) (q0 := 0) rfl rfl, cs_B.at hE hP hK⟩ rfl rfl hl.1 rfl (lv_room (Nat.le_of_ble_eq_true rfl)) dX2_joined_104 ⟨Nat.le_of_ble_eq_true rfl, Nat.le_of_ble_eq_true rfl⟩) (fun r_104 e_104 => ?_)
      subst e_104
      exact W.iret (v := cs_so (cs_ro S k) (cs_w S k) ((cs_so (cs_ro S k) (cs_w S k) (b ^^^ cs_x S k)) ^^^ (cs_mul (cs_w S k) (cs_p S k) ((cs_so (cs_ro S k) (cs_w S k) (a ^^^ cs_x S k)) ^^^ (cs_i S k)) (cs_pow (cs_w S k) (cs_p S k) (8 * n.toInt64)) (cs_w S k))) ^^^ cs_x S k) hx hb hr (fun t ht _ => ⟨cs_so (cs_ro S k) (cs_w S k) ((cs_so (cs_ro S k) (cs_w S k) (b ^^^ cs_x S k)) ^^^ (cs_mul (cs_w S k) (cs_p S k) ((cs_so (cs_ro S k) (cs_w S k) (a ^^^ cs_x S k)) ^^^ (cs_i S k)) (cs_pow (cs_w S k) (cs_p S k) (8 * n.toInt64)) (cs_w S k))) ^^^ cs_x S k, (), rfl, fun _ => by unfold cs_vJoi cs_sum cs_reg; rw [cs_cI hk31], by rw [ht]; exact hP, by exact hD, hS9.F ht⟩) hS9.2.2 dX2_joined_107
    · refine lv_iconst (v := 0) hx hb dX2_joined_49 (by decide) ?_
      exact W.iret (v := 0) hx hb hr (fun t ht _ => ⟨0, (), rfl, fun z => absurd (cs_k2_0.mp z) (by rw [c_46]; decide), by rw [ht]; exact hP, by exact hD, hS9.F ht⟩) hS9.2.2 dX2_joined_50
  refine lv_aload_n hx hb dX2_joined_7 rfl (lv_at hl 1 rfl) ?_
  refine lv_iload hx hb dX2_joined_8 (lv_at hl 0 rfl) ?_
  refine lv_iload hx hb dX2_joined_10 (lv_at hl 0 rfl) ?_
  refine cs_ifeq (tgt := 42) hx hb dX2_joined_12 (by decide) (fun c_12 => ?_) (fun c_12 => ?_)
  · refine lv_iconst (v := 0) hx hb dX2_joined_42 (by decide) ?_
    refine cs_top (y := cs_z (cs_M S v && cs_nS S v a && cs_nS S v b && decide (0 ≤ n))) (by simp [cs_z, cs_nS, c_12]) ?_
    exact j43
  · obtain ⟨k, hk, rfl⟩ := cs_mod_of hS c_12
    have hk31 : k < 2 ^ 31 := by omega
    refine lv_aload_n hx hb dX2_joined_15 rfl (lv_at hl 1 rfl) ?_
    refine lv_iload_n hx hb dX2_joined_16 rfl (lv_at hl 2 rfl) ?_
    refine lv_iload_n hx hb dX2_joined_17 rfl (lv_at hl 3 rfl) ?_
    refine vp_callSi (W.runV (As := [.int (nI k), .int a]) (rest := [.int (cs_z (cs_M S (nI k))), .ref (bd 0)]) ⟨hx, hb, hml, hown, hts⟩ (k_X2_isNumber l D S th bd cy hS k hk a) (cwV 2 hts gX2_joined_X2_isNumber rfl rfl rfl (by decide +kernel) ⟨Nat.le_of_ble_eq_true rfl, Nat.le_of_ble_eq_true rfl⟩) ⟨cs_B.blind, va_recv hK hP (ci := 2) (q0 := 0) rfl rfl, cs_B.at hE hP hK⟩ rfl rfl hl.1 rfl (lv_room (Nat.le_of_ble_eq_true rfl)) dX2_joined_18 ⟨Nat.le_of_ble_eq_true rfl, Nat.le_of_ble_eq_true rfl⟩) (fun r_18 e_18 => ?_)
    subst e_18
    refine cs_ifeq (tgt := 42) hx hb dX2_joined_21 (by decide) (fun c_21 => ?_) (fun c_21 => ?_)
    · refine lv_iconst (v := 0) hx hb dX2_joined_42 (by decide) ?_
      refine cs_top (y := cs_z (cs_M S (nI k) && cs_nS S (nI k) a && cs_nS S (nI k) b && decide (0 ≤ n))) (by simp [cs_z, cs_nS, cs_cI hk31, c_12, c_21]) ?_
      exact j43
    · refine lv_aload_n hx hb dX2_joined_24 rfl (lv_at hl 1 rfl) ?_
      refine lv_iload_n hx hb dX2_joined_25 rfl (lv_at hl 2 rfl) ?_
      refine lv_iload_n hx hb dX2_joined_26 rfl (lv_at hl 4 rfl) ?_
      refine vp_callSi (W.runV (As := [.int (nI k), .int b]) (rest := [.int (cs_z (cs_M S (nI k))), .ref (bd 0)]) ⟨hx, hb, hml, hown, hts⟩ (k_X2_isNumber l D S th bd cy hS k hk b) (cwV 2 hts gX2_joined_X2_isNumber rfl rfl rfl (by decide +kernel) ⟨Nat.le_of_ble_eq_true rfl, Nat.le_of_ble_eq_true rfl⟩) ⟨cs_B.blind, va_recv hK hP (ci := 2) (q0 := 0) rfl rfl, cs_B.at hE hP hK⟩ rfl rfl hl.1 rfl (lv_room (Nat.le_of_ble_eq_true rfl)) dX2_joined_27 ⟨Nat.le_of_ble_eq_true rfl, Nat.le_of_ble_eq_true rfl⟩) (fun r_27 e_27 => ?_)
      subst e_27
      refine cs_ifeq (tgt := 42) hx hb dX2_joined_30 (by decide) (fun c_30 => ?_) (fun c_30 => ?_)
      · refine lv_iconst (v := 0) hx hb dX2_joined_42 (by decide) ?_
        refine cs_top (y := cs_z (cs_M S (nI k) && cs_nS S (nI k) a && cs_nS S (nI k) b && decide (0 ≤ n))) (by simp [cs_z, cs_nS, cs_cI hk31, c_12, c_21, c_30]) ?_
        exact j43
      · refine lv_iload hx hb dX2_joined_33 (lv_at hl 5 rfl) ?_
        refine lv_if_lt (tgt := 42) hx hb dX2_joined_35 (by decide) (fun c_35 => ?_) (fun c_35 => ?_)
        · refine lv_iconst (v := 0) hx hb dX2_joined_42 (by decide) ?_
          refine cs_top (y := cs_z (cs_M S (nI k) && cs_nS S (nI k) a && cs_nS S (nI k) b && decide (0 ≤ n))) (by simp [cs_z, cs_nS, cs_cI hk31, c_12, c_21, c_30, decide_eq_false (Int32.not_le.mpr c_35)]) ?_
          exact j43
        · refine lv_iconst (v := 1) hx hb dX2_joined_38 (by decide) ?_
          refine lv_goto (tgt := 43) hx hb dX2_joined_39 (by decide) ?_
          refine cs_top (y := cs_z (cs_M S (nI k) && cs_nS S (nI k) a && cs_nS S (nI k) b && decide (0 ≤ n))) (by simp [cs_z, cs_nS, cs_cI hk31, c_12, c_21, c_30, decide_eq_true (Int32.not_lt.mp c_35)]) ?_
          exact j43
set_option maxHeartbeats 4000000 in
set_option maxRecDepth 100000 in
theorem k_X2_patched (l : Launch) (D : va_G) (S : cs_St) (th : Int32) (bd : Nat → Nat) (cy : Nat → ClassId) (sz : Nat) (hS : cs_ok S) (v a n d : Int32) : cs_Mw l yX2_patched wsX2_patched ({ frames := 3, cells := 0, slots := 0, locals := 75 }) D (cs_tys cy) (cs_R S th bd cy) sz [.ref (bd 0), .int v, .int a, .int n, .int d] (fun (_ : Unit) => cs_R S (cs_kPat S v a n d) bd cy) (fun rr _ => cs_kPat S v a n d = 0 → rr = cs_vPat S v a n d) := by
  refine Met.ofW (cc := cX2_patched) (maxL := 8) (ret := (some .int)) (by decide) rfl ?_
  intro pg e s m args below meth c s₁ B hml hv
  obtain ⟨rfl, hsz, hE, hP, hK, hD0⟩ := hv
  subst hsz
  have hD := hD0.self (sz := s.heap.size)
  have hA : ∀ q : Nat, s.heap.size ≤ q → va_A (cs_R S th bd cy) s.heap.size q := fun q h => Or.inr h
  have hS9 : va_S (va_A (cs_R S th bd cy) s.heap.size) s.heap s.heap [] := va_S.rf
  have hx := B.exec
  have hb := B.bytes
  have hr := B.returns
  have hts := atoms_spec (ws := wsX2_patched) B.pre
  have hown : s.vm.findClass RX2 = some m.cls := findClass_of_methodNamed B.named
  have hlocks := B.notSynchronized
  have hl := lv_entry ([.ref (bd 0), .int v, .int a, .int n, .int d]) (n := 8) (Nat.le_of_ble_eq_true rfl)
  rw [lg_entry_eq]
  generalize (lg_sl ([.ref (bd 0), .int v, .int a, .int n, .int d]) ++ List.replicate (8 - (lg_sl ([.ref (bd 0), .int v, .int a, .int n, .int d])).length) Slot.unset).toArray = ls at hl ⊢
  have hl : lv_has ls 8 [(0, .ref (bd 0)), (1, .int v), (2, .int a), (3, .int n), (4, .int d)] := hl
  have hinX2 : ∀ w ∈ wsX20, w ∈ wsX2_patched := fun _ h => by unfold wsX2_patched; exact List.mem_cons_of_mem _ (List.mem_append_right _ h)
  have h6 := hS.1
  refine lv_aload_n hx hb dX2_patched_0 rfl (lv_at hl 0 rfl) ?_
  refine lv_iload_n hx hb dX2_patched_1 rfl (lv_at hl 1 rfl) ?_
  refine vp_callSi (W.runV (As := [.int v]) (rest := []) ⟨hx, hb, hml, hown, hts⟩ (k_X2_isModel l D S th bd cy  v) (cwV 1 hts gX2_patched_X2_isModel rfl rfl rfl (by decide +kernel) ⟨Nat.le_of_ble_eq_true rfl, Nat.le_of_ble_eq_true rfl⟩) ⟨cs_B.blind, va_recv hK hP (ci := 2) (q0 := 0) rfl rfl, cs_B.at hE hP hK⟩ rfl rfl hl.1 rfl (lv_room (Nat.le_of_ble_eq_true rfl)) dX2_patched_2 ⟨Nat.le_of_ble_eq_true rfl, Nat.le_of_ble_eq_true rfl⟩) (fun r_2 e_2 => ?_)
  subst e_2
  refine cs_top (y := cs_z (cs_M S v)) rfl ?_
  refine lv_istore (lv' := [(5, .int (cs_z (cs_M S v))), (0, .ref (bd 0)), (1, .int v), (2, .int a), (3, .int n), (4, .int d)]) hx hb dX2_patched_5 hl (by decide) rfl (fun ls hl => ?_)
  have j41 : W pg l e (headSpec wsX2_patched ({ frames := 3, cells := 0, slots := 0, locals := 75 })).room s m [Value.ref (bd 0), Value.int v, Value.int a, Value.int n, Value.int d].toArray below meth c s.heap [] 0 0 (MQ below (cs_Qw D (cs_R S th bd cy) (fun (_ : Unit) => cs_R S (cs_kPat S v a n d) bd cy) (fun rr _ => cs_kPat S v a n d = 0 → rr = cs_vPat S v a n d)) [Value.ref (bd 0), Value.int v, Value.int a, Value.int n, Value.int d].toArray s 0 0 (va_A (cs_R S th bd cy) s.heap.size)) (F0 m 41 ls [.int (cs_z (cs_M S v && cs_nS S v a && decide (0 ≤ n) && cs_in d 0 255)), .int (cs_z (cs_M S v)), .ref (bd 0)]) := by
    have hF := cs_inW hD hS9 hA
    refine cs_wcalli (va_runV (As := [.int (cs_z (cs_M S v)), .int (cs_z (cs_M S v && cs_nS S v a && decide (0 ≤ n) && cs_in d 0 255))]) (rest := []) ⟨hx, hb, hml, hown, hts⟩ (k_X2_asked_ l D S th bd cy s.heap.size (cs_M S v) (cs_M S v && cs_nS S v a && decide (0 ≤ n) && cs_in d 0 255)) (cwV 2 hts gX2_patched_X2_asked_ rfl rfl rfl (by decide +kernel) ⟨Nat.le_of_ble_eq_true rfl, Nat.le_of_ble_eq_true rfl⟩) ⟨cs_Bw.blind, va_recv hK hP (ci := 2) (q0 := 0) rfl rfl, cs_Bw.at hE hP hK hD⟩ rfl rfl hl.1 rfl (lv_room (Nat.le_of_ble_eq_true rfl)) dX2_patched_41 ⟨Nat.le_of_ble_eq_true rfl, Nat.le_of_ble_eq_true rfl⟩) hS9 hF (fun r_41 u9 H locs hp hP hD1 hz hk1 hS9 => ?_)
    have hP : va_P D vwCl (cs_R S (cs_k2 (cs_M S v) (cs_M S v && cs_nS S v a && decide (0 ≤ n) && cs_in d 0 255)) bd cy) H := hP
    have hD : va_D (va_A (cs_R S th bd cy) s.heap.size) (cs_R S (cs_k2 (cs_M S v) (cs_M S v && cs_nS S v a && decide (0 ≤ n) && cs_in d 0 255)) bd cy) := hD1.weaken (fun k q _ h => hF q.1 h)
    subst hp
    refine cs_ifne (tgt := 49) hx hb dX2_patched_44 (by decide) (fun c_44 => ?_) (fun c_44 => ?_)
    · have hm := (cs_and c_44).1
      obtain ⟨k, hk, rfl⟩ := cs_mod_of hS hm
      have hk31 : k < 2 ^ 31 := by omega
      obtain ⟨hw1, hw2⟩ := hS.2.1 k hk
      refine lv_aload_n hx hb dX2_patched_49 rfl (lv_at hl 1 rfl) ?_
      refine va_get (D := D) (ci := 2) (v := .ref (bd 5)) (C := RX2) (T := TX2) (N := 10) hx hb hts hinX2 hown hK hP 0 cs_R0 rfl 4 (by decide) (hts (.fieldLink RX2 22 "ChecksumLabModel" "reflectIn" "[Z") (by decide +kernel)) (fun _ h9 => h9) rfl dX2_patched_50 ?_
      refine lv_iload_n hx hb dX2_patched_53 rfl (lv_at hl 2 rfl) ?_
      refine cs_zald hx hb hK hP 5 1 cs_R5 rfl (k := k) (by omega) (by decide) dX2_patched_54 ?_
      refine cs_ifeq (tgt := 68) hx hb dX2_patched_55 (by decide) (fun c_55 => ?_) (fun c_55 => ?_)
      · refine lv_iload hx hb dX2_patched_68 (lv_at hl 5 rfl) ?_
        refine cs_top (y := cs_od (cs_ri S k) d) ((if_neg (by rw [c_55]; decide)).symm) ?_
        refine lv_istore (lv' := [(6, .int (cs_od (cs_ri S k) d)), (5, .int (cs_z (cs_M S (nI k)))), (0, .ref (bd 0)), (1, .int (nI k)), (2, .int a), (3, .int n), (4, .int d)]) hx hb dX2_patched_70 hl (by decide) rfl (fun ls hl => ?_)
        refine lv_aload_n hx hb dX2_patched_72 rfl (lv_at hl 2 rfl) ?_
        refine lv_iload_n hx hb dX2_patched_73 rfl (lv_at hl 3 rfl) ?_
        refine lv_ldc2 (v := 8) hx hb hown (hts (.constantLong RX2 106 8) (by decide +kernel)) dX2_patched_74 ?_
        refine lv_iload_n hx hb dX2_patched_77 rfl (lv_at hl 5 rfl) ?_
        refine lv_i2l (v := n.toInt64) hx hb dX2_patched_78 rfl ?_
        refine lv_lmul hx hb dX2_patched_79 ?_
        refine lv_aload_n hx hb dX2_patched_80 rfl (lv_at hl 2 rfl) ?_
        refine va_get (D := D) (ci := 2) (v := .ref (bd 1)) (C := RX2) (T := TX2) (N := 10) hx hb hts hinX2 hown hK hP 0 cs_R0 rfl 0 (by decide) (hts (.fieldLink RX2 7 "ChecksumLabModel" "width" "[I") (by decide +kernel)) (fun _ h9 => h9) rfl dX2_patched_81 ?_
        refine lv_iload_n hx hb dX2_patched_84 rfl (lv_at hl 3 rfl) ?_
        refine cs_iald hx hb hK hP 1 0 cs_R1 rfl (k := k) (by omega) (by decide) dX2_patched_85 ?_
        refine lv_i2l (v := (nI (cs_w S k)).toInt64) hx hb dX2_patched_86 rfl ?_
        refine lv_ladd hx hb dX2_patched_87 ?_
        refine vp_callSi (W.runV (As := [.int (nI k), .long ((8 * n.toInt64) + ((nI (cs_w S k)).toInt64))]) (rest := []) ⟨hx, hb, hml, hown, hts⟩ (k_X2_powerOf l D S (cs_k2 (cs_M S (nI k)) (cs_M S (nI k) && cs_nS S (nI k) a && decide (0 ≤ n) && cs_in d 0 255)) bd cy hS k hk ((8 * n.toInt64) + ((nI (cs_w S k)).toInt64))) (cwV 2 hts gX2_patched_X2_powerOf rfl rfl rfl (by decide +kernel) ⟨Nat.le_of_ble_eq_true rfl, Nat.le_of_ble_eq_true rfl⟩) ⟨cs_B.blind, va_recv hK hP (ci := 2) (q0 := 0) rfl rfl, cs_B.at hE hP hK⟩ rfl rfl hl.1 rfl (lv_room (Nat.le_of_ble_eq_true rfl)) dX2_patched_88 ⟨Nat.le_of_ble_eq_true rfl, Nat.le_of_ble_eq_true rfl⟩) (fun r_88 e_88 => ?_)
        subst e_88
        refine lv_istore (lv' := [(7, .int (cs_pow (cs_w S k) (cs_p S k) ((8 * n.toInt64) + ((nI (cs_w S k)).toInt64)))), (6, .int (cs_od (cs_ri S k) d)), (5, .int (cs_z (cs_M S (nI k)))), (0, .ref (bd 0)), (1, .int (nI k)), (2, .int a), (3, .int n), (4, .int d)]) hx hb dX2_patched_91 hl (by decide) rfl (fun ls hl => ?_)
        refine lv_aload_n hx hb dX2_patched_93 rfl (lv_at hl 3 rfl) ?_
        refine lv_iload_n hx hb dX2_patched_94 rfl (lv_at hl 4 rfl) ?_
        refine lv_aload_n hx hb dX2_patched_95 rfl (lv_at hl 3 rfl) ?_
        refine lv_iload_n hx hb dX2_patched_96 rfl (lv_at hl 4 rfl) ?_
        refine lv_iload_n hx hb dX2_patched_97 rfl (lv_at hl 5 rfl) ?_
        refine vp_callSi (W.runV (As := [.int (nI k), .int a]) (rest := [.int (nI k), .ref (bd 0)]) ⟨hx, hb, hml, hown, hts⟩ (k_X2_registerOf l D S (cs_k2 (cs_M S (nI k)) (cs_M S (nI k) && cs_nS S (nI k) a && decide (0 ≤ n) && cs_in d 0 255)) bd cy hS k hk a) (cwV 2 hts gX2_patched_X2_registerOf rfl rfl rfl (by decide +kernel) ⟨Nat.le_of_ble_eq_true rfl, Nat.le_of_ble_eq_true rfl⟩) ⟨cs_B.blind, va_recv hK hP (ci := 2) (q0 := 0) rfl rfl, cs_B.at hE hP hK⟩ rfl rfl hl.1 rfl (lv_room (Nat.le_of_ble_eq_true rfl)) dX2_patched_98 ⟨Nat.le_of_ble_eq_true rfl, Nat.le_of_ble_eq_true rfl⟩) (fun r_98 e_98 => ?_)
        subst e_98
        refine lv_aload_n hx hb dX2_patched_101 rfl (lv_at hl 3 rfl) ?_
        refine lv_iload_n hx hb dX2_patched_102 rfl (lv_at hl 4 rfl) ?_
        refine lv_iload hx hb dX2_patched_103 (lv_at hl 0 rfl) ?_
        refine lv_iload hx hb dX2_patched_105 (lv_at hl 1 rfl) ?_
        refine lv_bipush (v := 8) hx hb dX2_patched_107 (by decide) ?_
        refine cs_top (y := nI 8) (rfl) ?_
        refine vp_callSi (W.runV (As := [.int (nI k), .int (cs_pow (cs_w S k) (cs_p S k) ((8 * n.toInt64) + ((nI (cs_w S k)).toInt64))), .int (cs_od (cs_ri S k) d), .int (nI 8)]) (rest := [.int (cs_so (cs_ro S k) (cs_w S k) (a ^^^ cs_x S k)), .int (nI k), .ref (bd 0)]) ⟨hx, hb, hml, hown, hts⟩ (k_X2_times l D S (cs_k2 (cs_M S (nI k)) (cs_M S (nI k) && cs_nS S (nI k) a && decide (0 ≤ n) && cs_in d 0 255)) bd cy hS k hk (cs_pow (cs_w S k) (cs_p S k) ((8 * n.toInt64) + ((nI (cs_w S k)).toInt64))) (cs_od (cs_ri S k) d) 8 (by decide)) (cwV 4 hts gX2_patched_X2_times rfl rfl rfl (by decide +kernel) ⟨Nat.le_of_ble_eq_true rfl, Nat.le_of_ble_eq_true rfl⟩) ⟨cs_B.blind, va_recv hK hP (ci := 2) (q0 := 0) rfl rfl, cs_B.at hE hP hK⟩ rfl rfl hl.1 rfl (lv_room (Nat.le_of_ble_eq_true rfl)) dX2_patched_109 ⟨Nat.le_of_ble_eq_true rfl, Nat.le_of_ble_eq_true rfl⟩) (fun r_109 e_109 => ?_)
        subst e_109
        refine lv_ixor hx hb dX2_patched_112 ?_
        refine vp_callSi (W.runV (As := [.int (nI k), .int ((cs_so (cs_ro S k) (cs_w S k) (a ^^^ cs_x S k)) ^^^ (cs_mul (cs_w S k) (cs_p S k) (cs_pow (cs_w S k) (cs_p S k) ((8 * n.toInt64) + ((nI (cs_w S k)).toInt64))) (cs_od (cs_ri S k) d) 8))]) (rest := []) ⟨hx, hb, hml, hown, hts⟩ (k_X2_sumOf l D S (cs_k2 (cs_M S (nI k)) (cs_M S (nI k) && cs_nS S (nI k) a && decide (0 ≤ n) && cs_in d 0 255)) bd cy hS k hk ((cs_so (cs_ro S k) (cs_w S k) (a ^^^ cs_x S k)) ^^^ (cs_mul (cs_w S k) (cs_p S k) (cs_pow (cs_w S k) (cs_p S k) ((8 * n.toInt64) + ((nI (cs_w S k)).toInt64))) (cs_od (cs_ri S k) d) 8))) (cwV 2 hts gX2_patched_X2_sumOf rfl rfl rfl (by decide +kernel) ⟨Nat.le_of_ble_eq_true rfl, Nat.le_of_ble_eq_true rfl⟩) ⟨cs_B.blind, va_recv hK hP (ci := 2) (q0 := 0) rfl rfl, cs_B.at hE hP hK⟩ rfl rfl hl.1 rfl (lv_room (Nat.le_of_ble_eq_true rfl)) dX2_patched_113 ⟨Nat.le_of_ble_eq_true rfl, Nat.le_of_ble_eq_true rfl⟩) (fun r_113 e_113 => ?_)
        subst e_113
        exact W.iret (v := cs_so (cs_ro S k) (cs_w S k) ((cs_so (cs_ro S k) (cs_w S k) (a ^^^ cs_x S k)) ^^^ (cs_mul (cs_w S k) (cs_p S k) (cs_pow (cs_w S k) (cs_p S k) ((8 * n.toInt64) + ((nI (cs_w S k)).toInt64))) (cs_od (cs_ri S k) d) 8)) ^^^ cs_x S k) hx hb hr (fun t ht _ => ⟨cs_so (cs_ro S k) (cs_w S k) ((cs_so (cs_ro S k) (cs_w S k) (a ^^^ cs_x S k)) ^^^ (cs_mul (cs_w S k) (cs_p S k) (cs_pow (cs_w S k) (cs_p S k) ((8 * n.toInt64) + ((nI (cs_w S k)).toInt64))) (cs_od (cs_ri S k) d) 8)) ^^^ cs_x S k, (), rfl, fun _ => by unfold cs_vPat cs_sum cs_reg; rw [cs_cI hk31], by rw [ht]; exact hP, by exact hD, hS9.F ht⟩) hS9.2.2 dX2_patched_116
      · refine lv_iload hx hb dX2_patched_58 (lv_at hl 5 rfl) ?_
        refine lv_bipush (v := 8) hx hb dX2_patched_60 (by decide) ?_
        refine cs_top (y := nI 8) (rfl) ?_
        refine vp_callSi (W.runS (As := [.int d, .int (nI 8)]) (rest := []) ⟨hx, hb, hml, hown, hts⟩ (k_X2_reversed l D S (cs_k2 (cs_M S (nI k)) (cs_M S (nI k) && cs_nS S (nI k) a && decide (0 ≤ n) && cs_in d 0 255)) bd cy d 8 (by decide)) (va_cwS 2 hts gX2_patched_X2_reversed rfl rfl rfl (by decide +kernel) ⟨Nat.le_of_ble_eq_true rfl, Nat.le_of_ble_eq_true rfl⟩) ⟨cs_B.blind, cs_B.at hE cs_none hK⟩ rfl rfl hl.1 rfl (lv_room (Nat.le_of_ble_eq_true rfl)) dX2_patched_62 ⟨Nat.le_of_ble_eq_true rfl, Nat.le_of_ble_eq_true rfl⟩) (fun r_62 e_62 => ?_)
        subst e_62
        refine lv_goto (tgt := 70) hx hb dX2_patched_65 (by decide) ?_
        refine cs_top (y := cs_od (cs_ri S k) d) ((if_pos c_55).symm) ?_
        refine lv_istore (lv' := [(6, .int (cs_od (cs_ri S k) d)), (5, .int (cs_z (cs_M S (nI k)))), (0, .ref (bd 0)), (1, .int (nI k)), (2, .int a), (3, .int n), (4, .int d)]) hx hb dX2_patched_70 hl (by decide) rfl (fun ls hl => ?_)
        refine lv_aload_n hx hb dX2_patched_72 rfl (lv_at hl 2 rfl) ?_
        refine lv_iload_n hx hb dX2_patched_73 rfl (lv_at hl 3 rfl) ?_
        refine lv_ldc2 (v := 8) hx hb hown (hts (.constantLong RX2 106 8) (by decide +kernel)) dX2_patched_74 ?_
        refine lv_iload_n hx hb dX2_patched_77 rfl (lv_at hl 5 rfl) ?_
        refine lv_i2l (v := n.toInt64) hx hb dX2_patched_78 rfl ?_
        refine lv_lmul hx hb dX2_patched_79 ?_
        refine lv_aload_n hx hb dX2_patched_80 rfl (lv_at hl 2 rfl) ?_
        refine va_get (D := D) (ci := 2) (v := .ref (bd 1)) (C := RX2) (T := TX2) (N := 10) hx hb hts hinX2 hown hK hP 0 cs_R0 rfl 0 (by decide) (hts (.fieldLink RX2 7 "ChecksumLabModel" "width" "[I") (by decide +kernel)) (fun _ h9 => h9) rfl dX2_patched_81 ?_
        refine lv_iload_n hx hb dX2_patched_84 rfl (lv_at hl 3 rfl) ?_
        refine cs_iald hx hb hK hP 1 0 cs_R1 rfl (k := k) (by omega) (by decide) dX2_patched_85 ?_
        refine lv_i2l (v := (nI (cs_w S k)).toInt64) hx hb dX2_patched_86 rfl ?_
        refine lv_ladd hx hb dX2_patched_87 ?_
        refine vp_callSi (W.runV (As := [.int (nI k), .long ((8 * n.toInt64) + ((nI (cs_w S k)).toInt64))]) (rest := []) ⟨hx, hb, hml, hown, hts⟩ (k_X2_powerOf l D S (cs_k2 (cs_M S (nI k)) (cs_M S (nI k) && cs_nS S (nI k) a && decide (0 ≤ n) && cs_in d 0 255)) bd cy hS k hk ((8 * n.toInt64) + ((nI (cs_w S k)).toInt64))) (cwV 2 hts gX2_patched_X2_powerOf rfl rfl rfl (by decide +kernel) ⟨Nat.le_of_ble_eq_true rfl, Nat.le_of_ble_eq_true rfl⟩) ⟨cs_B.blind, va_recv hK hP (ci := 2) (q0 := 0) rfl rfl, cs_B.at hE hP hK⟩ rfl rfl hl.1 rfl (lv_room (Nat.le_of_ble_eq_true rfl)) dX2_patched_88 ⟨Nat.le_of_ble_eq_true rfl, Nat.le_of_ble_eq_true rfl⟩) (fun r_88 e_88 => ?_)
        subst e_88
        refine lv_istore (lv' := [(7, .int (cs_pow (cs_w S k) (cs_p S k) ((8 * n.toInt64) + ((nI (cs_w S k)).toInt64)))), (6, .int (cs_od (cs_ri S k) d)), (5, .int (cs_z (cs_M S (nI k)))), (0, .ref (bd 0)), (1, .int (nI k)), (2, .int a), (3, .int n), (4, .int d)]) hx hb dX2_patched_91 hl (by decide) rfl (fun ls hl => ?_)
        refine lv_aload_n hx hb dX2_patched_93 rfl (lv_at hl 3 rfl) ?_
        refine lv_iload_n hx hb dX2_patched_94 rfl (lv_at hl 4 rfl) ?_
        refine lv_aload_n hx hb dX2_patched_95 rfl (lv_at hl 3 rfl) ?_
        refine lv_iload_n hx hb dX2_patched_96 rfl (lv_at hl 4 rfl) ?_
        refine lv_iload_n hx hb dX2_patched_97 rfl (lv_at hl 5 rfl) ?_
        refine vp_callSi (W.runV (As := [.int (nI k), .int a]) (rest := [.int (nI k), .ref (bd 0)]) ⟨hx, hb, hml, hown, hts⟩ (k_X2_registerOf l D S (cs_k2 (cs_M S (nI k)) (cs_M S (nI k) && cs_nS S (nI k) a && decide (0 ≤ n) && cs_in d 0 255)) bd cy hS k hk a) (cwV 2 hts gX2_patched_X2_registerOf rfl rfl rfl (by decide +kernel) ⟨Nat.le_of_ble_eq_true rfl, Nat.le_of_ble_eq_true rfl⟩) ⟨cs_B.blind, va_recv hK hP (ci := 2) (q0 := 0) rfl rfl, cs_B.at hE hP hK⟩ rfl rfl hl.1 rfl (lv_room (Nat.le_of_ble_eq_true rfl)) dX2_patched_98 ⟨Nat.le_of_ble_eq_true rfl, Nat.le_of_ble_eq_true rfl⟩) (fun r_98 e_98 => ?_)
        subst e_98
        refine lv_aload_n hx hb dX2_patched_101 rfl (lv_at hl 3 rfl) ?_
        refine lv_iload_n hx hb dX2_patched_102 rfl (lv_at hl 4 rfl) ?_
        refine lv_iload hx hb dX2_patched_103 (lv_at hl 0 rfl) ?_
        refine lv_iload hx hb dX2_patched_105 (lv_at hl 1 rfl) ?_
        refine lv_bipush (v := 8) hx hb dX2_patched_107 (by decide) ?_
        refine cs_top (y := nI 8) (rfl) ?_
        refine vp_callSi (W.runV (As := [.int (nI k), .int (cs_pow (cs_w S k) (cs_p S k) ((8 * n.toInt64) + ((nI (cs_w S k)).toInt64))), .int (cs_od (cs_ri S k) d), .int (nI 8)]) (rest := [.int (cs_so (cs_ro S k) (cs_w S k) (a ^^^ cs_x S k)), .int (nI k), .ref (bd 0)]) ⟨hx, hb, hml, hown, hts⟩ (k_X2_times l D S (cs_k2 (cs_M S (nI k)) (cs_M S (nI k) && cs_nS S (nI k) a && decide (0 ≤ n) && cs_in d 0 255)) bd cy hS k hk (cs_pow (cs_w S k) (cs_p S k) ((8 * n.toInt64) + ((nI (cs_w S k)).toInt64))) (cs_od (cs_ri S k) d) 8 (by decide)) (cwV 4 hts gX2_patched_X2_times rfl rfl rfl (by decide +kernel) ⟨Nat.le_of_ble_eq_true rfl, Nat.le_of_ble_eq_true rfl⟩) ⟨cs_B.blind, va_recv hK hP (ci := 2) (q0 := 0) rfl rfl, cs_B.at hE hP hK⟩ rfl rfl hl.1 rfl (lv_room (Nat.le_of_ble_eq_true rfl)) dX2_patched_109 ⟨Nat.le_of_ble_eq_true rfl, Nat.le_of_ble_eq_true rfl⟩) (fun r_109 e_109 => ?_)
        subst e_109
        refine lv_ixor hx hb dX2_patched_112 ?_
        refine vp_callSi (W.runV (As := [.int (nI k), .int ((cs_so (cs_ro S k) (cs_w S k) (a ^^^ cs_x S k)) ^^^ (cs_mul (cs_w S k) (cs_p S k) (cs_pow (cs_w S k) (cs_p S k) ((8 * n.toInt64) + ((nI (cs_w S k)).toInt64))) (cs_od (cs_ri S k) d) 8))]) (rest := []) ⟨hx, hb, hml, hown, hts⟩ (k_X2_sumOf l D S (cs_k2 (cs_M S (nI k)) (cs_M S (nI k) && cs_nS S (nI k) a && decide (0 ≤ n) && cs_in d 0 255)) bd cy hS k hk ((cs_so (cs_ro S k) (cs_w S k) (a ^^^ cs_x S k)) ^^^ (cs_mul (cs_w S k) (cs_p S k) (cs_pow (cs_w S k) (cs_p S k) ((8 * n.toInt64) + ((nI (cs_w S k)).toInt64))) (cs_od (cs_ri S k) d) 8))) (cwV 2 hts gX2_patched_X2_sumOf rfl rfl rfl (by decide +kernel) ⟨Nat.le_of_ble_eq_true rfl, Nat.le_of_ble_eq_true rfl⟩) ⟨cs_B.blind, va_recv hK hP (ci := 2) (q0 := 0) rfl rfl, cs_B.at hE hP hK⟩ rfl rfl hl.1 rfl (lv_room (Nat.le_of_ble_eq_true rfl)) dX2_patched_113 ⟨Nat.le_of_ble_eq_true rfl, Nat.le_of_ble_eq_true rfl⟩) (fun r_113 e_113 => ?_)
        subst e_113
        exact W.iret (v := cs_so (cs_ro S k) (cs_w S k) ((cs_so (cs_ro S k) (cs_w S k) (a ^^^ cs_x S k)) ^^^ (cs_mul (cs_w S k) (cs_p S k) (cs_pow (cs_w S k) (cs_p S k) ((8 * n.toInt64) + ((nI (cs_w S k)).toInt64))) (cs_od (cs_ri S k) d) 8)) ^^^ cs_x S k) hx hb hr (fun t ht _ => ⟨cs_so (cs_ro S k) (cs_w S k) ((cs_so (cs_ro S k) (cs_w S k) (a ^^^ cs_x S k)) ^^^ (cs_mul (cs_w S k) (cs_p S k) (cs_pow (cs_w S k) (cs_p S k) ((8 * n.toInt64) + ((nI (cs_w S k)).toInt64))) (cs_od (cs_ri S k) d) 8)) ^^^ cs_x S k, (), rfl, fun _ => by unfold cs_vPat cs_sum cs_reg; rw [cs_cI hk31], by rw [ht]; exact hP, by exact hD, hS9.F ht⟩) hS9.2.2 dX2_patched_116
    · refine lv_iconst (v := 0) hx hb dX2_patched_47 (by decide) ?_
      exact W.iret (v := 0) hx hb hr (fun t ht _ => ⟨0, (), rfl, fun z => absurd (cs_k2_0.mp z) (by rw [c_44]; decide), by rw [ht]; exact hP, by exact hD, hS9.F ht⟩) hS9.2.2 dX2_patched_48
  refine lv_aload_n hx hb dX2_patched_7 rfl (lv_at hl 1 rfl) ?_
  refine lv_iload hx hb dX2_patched_8 (lv_at hl 0 rfl) ?_
  refine lv_iload hx hb dX2_patched_10 (lv_at hl 0 rfl) ?_
  refine cs_ifeq (tgt := 40) hx hb dX2_patched_12 (by decide) (fun c_12 => ?_) (fun c_12 => ?_)
  · refine lv_iconst (v := 0) hx hb dX2_patched_40 (by decide) ?_
    refine cs_top (y := cs_z (cs_M S v && cs_nS S v a && decide (0 ≤ n) && cs_in d 0 255)) (by simp [cs_z, cs_nS, c_12]) ?_
    exact j41
  · obtain ⟨k, hk, rfl⟩ := cs_mod_of hS c_12
    have hk31 : k < 2 ^ 31 := by omega
    refine lv_aload_n hx hb dX2_patched_15 rfl (lv_at hl 1 rfl) ?_
    refine lv_iload_n hx hb dX2_patched_16 rfl (lv_at hl 2 rfl) ?_
    refine lv_iload_n hx hb dX2_patched_17 rfl (lv_at hl 3 rfl) ?_
    refine vp_callSi (W.runV (As := [.int (nI k), .int a]) (rest := [.int (cs_z (cs_M S (nI k))), .ref (bd 0)]) ⟨hx, hb, hml, hown, hts⟩ (k_X2_isNumber l D S th bd cy hS k hk a) (cwV 2 hts gX2_patched_X2_isNumber rfl rfl rfl (by decide +kernel) ⟨Nat.le_of_ble_eq_true rfl, Nat.le_of_ble_eq_true rfl⟩) ⟨cs_B.blind, va_recv hK hP (ci := 2) (q0 := 0) rfl rfl, cs_B.at hE hP hK⟩ rfl rfl hl.1 rfl (lv_room (Nat.le_of_ble_eq_true rfl)) dX2_patched_18 ⟨Nat.le_of_ble_eq_true rfl, Nat.le_of_ble_eq_true rfl⟩) (fun r_18 e_18 => ?_)
    subst e_18
    refine cs_ifeq (tgt := 40) hx hb dX2_patched_21 (by decide) (fun c_21 => ?_) (fun c_21 => ?_)
    · refine lv_iconst (v := 0) hx hb dX2_patched_40 (by decide) ?_
      refine cs_top (y := cs_z (cs_M S (nI k) && cs_nS S (nI k) a && decide (0 ≤ n) && cs_in d 0 255)) (by simp [cs_z, cs_nS, cs_cI hk31, c_12, c_21]) ?_
      exact j41
    · refine lv_iload_n hx hb dX2_patched_24 rfl (lv_at hl 4 rfl) ?_
      refine lv_if_lt (tgt := 40) hx hb dX2_patched_25 (by decide) (fun c_25 => ?_) (fun c_25 => ?_)
      · refine lv_iconst (v := 0) hx hb dX2_patched_40 (by decide) ?_
        refine cs_top (y := cs_z (cs_M S (nI k) && cs_nS S (nI k) a && decide (0 ≤ n) && cs_in d 0 255)) (by simp [cs_z, cs_nS, cs_cI hk31, c_12, c_21, decide_eq_false (Int32.not_le.mpr c_25)]) ?_
        exact j41
      · refine lv_iload hx hb dX2_patched_28 (lv_at hl 5 rfl) ?_
        refine vp_callSi (W.runS (As := [.int d]) (rest := [.int (cs_z (cs_M S (nI k))), .ref (bd 0)]) ⟨hx, hb, hml, hown, hts⟩ (k_X2_isByte l D S th bd cy  d) (va_cwS 1 hts gX2_patched_X2_isByte rfl rfl rfl (by decide +kernel) ⟨Nat.le_of_ble_eq_true rfl, Nat.le_of_ble_eq_true rfl⟩) ⟨cs_B.blind, cs_B.at hE cs_none hK⟩ rfl rfl hl.1 rfl (lv_room (Nat.le_of_ble_eq_true rfl)) dX2_patched_30 ⟨Nat.le_of_ble_eq_true rfl, Nat.le_of_ble_eq_true rfl⟩) (fun r_30 e_30 => ?_)
        subst e_30
        refine cs_ifeq (tgt := 40) hx hb dX2_patched_33 (by decide) (fun c_33 => ?_) (fun c_33 => ?_)
        · refine lv_iconst (v := 0) hx hb dX2_patched_40 (by decide) ?_
          refine cs_top (y := cs_z (cs_M S (nI k) && cs_nS S (nI k) a && decide (0 ≤ n) && cs_in d 0 255)) (by simp [cs_z, cs_nS, cs_cI hk31, c_12, c_21, decide_eq_true (Int32.not_lt.mp c_25), c_33]) ?_
          exact j41
        · refine lv_iconst (v := 1) hx hb dX2_patched_36 (by decide) ?_
          refine lv_goto (tgt := 41) hx hb dX2_patched_37 (by decide) ?_
          refine cs_top (y := cs_z (cs_M S (nI k) && cs_nS S (nI k) a && decide (0 ≤ n) && cs_in d 0 255)) (by simp [cs_z, cs_nS, cs_cI hk31, c_12, c_21, decide_eq_true (Int32.not_lt.mp c_25), c_33]) ?_
          exact j41
set_option maxHeartbeats 4000000 in
set_option maxRecDepth 100000 in
theorem k_X2_wrongBit (l : Launch) (D : va_G) (S : cs_St) (th : Int32) (bd : Nat → Nat) (cy : Nat → ClassId) (sz : Nat) (hS : cs_ok S) (v d n : Int32) : cs_Mw l yX2_wrongBit wsX2_wrongBit ({ frames := 2, cells := 0, slots := 0, locals := 43 }) D (cs_tys cy) (cs_R S th bd cy) sz [.ref (bd 0), .int v, .int d, .int n] (fun (_ : Unit) => cs_R S (cs_kWro S v d n) bd cy) (fun rr _ => cs_kWro S v d n = 0 → rr = cs_vWro S v d n) := by
  refine Met.ofW (cc := cX2_wrongBit) (maxL := 9) (ret := (some .int)) (by decide) rfl ?_
  intro pg e s m args below meth c s₁ B hml hv
  obtain ⟨rfl, hsz, hE, hP, hK, hD0⟩ := hv
  subst hsz
  have hD := hD0.self (sz := s.heap.size)
  have hA : ∀ q : Nat, s.heap.size ≤ q → va_A (cs_R S th bd cy) s.heap.size q := fun q h => Or.inr h
  have hS9 : va_S (va_A (cs_R S th bd cy) s.heap.size) s.heap s.heap [] := va_S.rf
  have hx := B.exec
  have hb := B.bytes
  have hr := B.returns
  have hts := atoms_spec (ws := wsX2_wrongBit) B.pre
  have hown : s.vm.findClass RX2 = some m.cls := findClass_of_methodNamed B.named
  have hlocks := B.notSynchronized
  have hl := lv_entry ([.ref (bd 0), .int v, .int d, .int n]) (n := 9) (Nat.le_of_ble_eq_true rfl)
  rw [lg_entry_eq]
  generalize (lg_sl ([.ref (bd 0), .int v, .int d, .int n]) ++ List.replicate (9 - (lg_sl ([.ref (bd 0), .int v, .int d, .int n])).length) Slot.unset).toArray = ls at hl ⊢
  have hl : lv_has ls 9 [(0, .ref (bd 0)), (1, .int v), (2, .int d), (3, .int n)] := hl
  have hinX2 : ∀ w ∈ wsX20, w ∈ wsX2_wrongBit := fun _ h => by unfold wsX2_wrongBit; exact List.mem_cons_of_mem _ (List.mem_append_right _ h)
  have h6 := hS.1
  refine lv_aload_n hx hb dX2_wrongBit_0 rfl (lv_at hl 0 rfl) ?_
  refine lv_iload_n hx hb dX2_wrongBit_1 rfl (lv_at hl 1 rfl) ?_
  refine vp_callSi (W.runV (As := [.int v]) (rest := []) ⟨hx, hb, hml, hown, hts⟩ (k_X2_isModel l D S th bd cy  v) (cwV 1 hts gX2_wrongBit_X2_isModel rfl rfl rfl (by decide +kernel) ⟨Nat.le_of_ble_eq_true rfl, Nat.le_of_ble_eq_true rfl⟩) ⟨cs_B.blind, va_recv hK hP (ci := 2) (q0 := 0) rfl rfl, cs_B.at hE hP hK⟩ rfl rfl hl.1 rfl (lv_room (Nat.le_of_ble_eq_true rfl)) dX2_wrongBit_2 ⟨Nat.le_of_ble_eq_true rfl, Nat.le_of_ble_eq_true rfl⟩) (fun r_2 e_2 => ?_)
  subst e_2
  refine cs_top (y := cs_z (cs_M S v)) rfl ?_
  refine lv_istore (lv' := [(4, .int (cs_z (cs_M S v))), (0, .ref (bd 0)), (1, .int v), (2, .int d), (3, .int n)]) hx hb dX2_wrongBit_5 hl (by decide) rfl (fun ls hl => ?_)
  have j40 : W pg l e (headSpec wsX2_wrongBit ({ frames := 2, cells := 0, slots := 0, locals := 43 })).room s m [Value.ref (bd 0), Value.int v, Value.int d, Value.int n].toArray below meth c s.heap [] 0 0 (MQ below (cs_Qw D (cs_R S th bd cy) (fun (_ : Unit) => cs_R S (cs_kWro S v d n) bd cy) (fun rr _ => cs_kWro S v d n = 0 → rr = cs_vWro S v d n)) [Value.ref (bd 0), Value.int v, Value.int d, Value.int n].toArray s 0 0 (va_A (cs_R S th bd cy) s.heap.size)) (F0 m 40 ls [.int (cs_z (cs_M S v && cs_nS S v d && cs_in n 0 4000)), .int (cs_z (cs_M S v)), .ref (bd 0)]) := by
    have hF := cs_inW hD hS9 hA
    refine cs_wcalli (va_runV (As := [.int (cs_z (cs_M S v)), .int (cs_z (cs_M S v && cs_nS S v d && cs_in n 0 4000))]) (rest := []) ⟨hx, hb, hml, hown, hts⟩ (k_X2_asked_ l D S th bd cy s.heap.size (cs_M S v) (cs_M S v && cs_nS S v d && cs_in n 0 4000)) (cwV 2 hts gX2_wrongBit_X2_asked_ rfl rfl rfl (by decide +kernel) ⟨Nat.le_of_ble_eq_true rfl, Nat.le_of_ble_eq_true rfl⟩) ⟨cs_Bw.blind, va_recv hK hP (ci := 2) (q0 := 0) rfl rfl, cs_Bw.at hE hP hK hD⟩ rfl rfl hl.1 rfl (lv_room (Nat.le_of_ble_eq_true rfl)) dX2_wrongBit_40 ⟨Nat.le_of_ble_eq_true rfl, Nat.le_of_ble_eq_true rfl⟩) hS9 hF (fun r_40 u9 H locs hp hP hD1 hz hk1 hS9 => ?_)
    have hP : va_P D vwCl (cs_R S (cs_k2 (cs_M S v) (cs_M S v && cs_nS S v d && cs_in n 0 4000)) bd cy) H := hP
    have hD : va_D (va_A (cs_R S th bd cy) s.heap.size) (cs_R S (cs_k2 (cs_M S v) (cs_M S v && cs_nS S v d && cs_in n 0 4000)) bd cy) := hD1.weaken (fun k q _ h => hF q.1 h)
    subst hp
    refine cs_ifne (tgt := 48) hx hb dX2_wrongBit_43 (by decide) (fun c_43 => ?_) (fun c_43 => ?_)
    · obtain ⟨hm, hm3⟩ := cs_and c_43
      obtain ⟨k, hk, rfl⟩ := cs_mod_of hS hm
      have hk31 : k < 2 ^ 31 := by omega
      obtain ⟨hw1, hw2⟩ := hS.2.1 k hk
      obtain ⟨N9, hN, rfl⟩ := cs_in_of (n := 4000) (by decide) (cs_and hm3).2
      have hV : cs_vWro S (nI k) d (nI N9) = cs_wb (cs_w S k) (cs_p S k) (cs_so (cs_ro S k) (cs_w S k) d) (8 * N9) (-1) (cs_p S k) := by unfold cs_vWro; rw [cs_cI hk31, cs_cI (by omega)]
      have loop : ∀ (n : Nat) (f t b : Int32), b = nI n - 1 → n ≤ 32000 → cs_vWro S (nI k) d (nI N9) = cs_wb (cs_w S k) (cs_p S k) (cs_so (cs_ro S k) (cs_w S k) d) n f t → ∀ ls : Array Slot, lv_has ls 9 [(0, .ref (bd 0)), (1, .int (nI k)), (5, .int (cs_so (cs_ro S k) (cs_w S k) d)), (6, .int f), (7, .int t), (8, .int b)] → W pg l e (headSpec wsX2_wrongBit ({ frames := 2, cells := 0, slots := 0, locals := 43 })).room s m [Value.ref (bd 0), Value.int (nI k), Value.int d, Value.int (nI N9)].toArray below meth c H locs 0 0 (MQ below (cs_Qw D (cs_R S th bd cy) (fun (_ : Unit) => cs_R S (cs_kWro S (nI k) d (nI N9)) bd cy) (fun rr _ => cs_kWro S (nI k) d (nI N9) = 0 → rr = cs_vWro S (nI k) d (nI N9))) [Value.ref (bd 0), Value.int (nI k), Value.int d, Value.int (nI N9)].toArray s 0 0 (va_A (cs_R S th bd cy) s.heap.size)) (F0 m 92 ls []) := by
        intro n
        induction n with
        | zero =>
          intro f t b eb hn h0 ls hl
          subst eb
          refine lv_iload hx hb dX2_wrongBit_92 (lv_at hl 5 rfl) ?_
          refine lv_if_lt (tgt := 128) hx hb dX2_wrongBit_94 (by decide) (fun c_94 => ?_) (fun c_94 => ?_)
          · refine lv_iload hx hb dX2_wrongBit_128 (lv_at hl 3 rfl) ?_
            exact W.iret (v := f) hx hb hr (fun t ht _ => ⟨f, (), rfl, fun _ => h0.symm, by rw [ht]; exact hP, by exact hD, hS9.F ht⟩) hS9.2.2 dX2_wrongBit_130
          · exact absurd cs_m1 c_94
        | succ n ih =>
          intro f t b eb hn h0 ls hl
          rw [nI_pred] at eb
          subst eb
          refine lv_iload hx hb dX2_wrongBit_92 (lv_at hl 5 rfl) ?_
          refine lv_if_lt (tgt := 128) hx hb dX2_wrongBit_94 (by decide) (fun c_94 => ?_) (fun c_94 => ?_)
          · exact absurd c_94 (nI_pos (by omega))
          · refine lv_iload hx hb dX2_wrongBit_97 (lv_at hl 4 rfl) ?_
            refine lv_iload hx hb dX2_wrongBit_99 (lv_at hl 2 rfl) ?_
            refine lv_icmp_ne (tgt := 109) hx hb dX2_wrongBit_101 (by decide) (fun c_101 => ?_) (fun c_101 => ?_)
            · refine lv_iload hx hb dX2_wrongBit_109 (lv_at hl 3 rfl) ?_
              refine lv_istore (lv' := [(6, .int f), (0, .ref (bd 0)), (1, .int (nI k)), (5, .int (cs_so (cs_ro S k) (cs_w S k) d)), (7, .int t), (8, .int (nI n))]) hx hb dX2_wrongBit_111 hl (by decide) rfl (fun ls hl => ?_)
              refine lv_aload_n hx hb dX2_wrongBit_113 rfl (lv_at hl 1 rfl) ?_
              refine lv_iload_n hx hb dX2_wrongBit_114 rfl (lv_at hl 2 rfl) ?_
              refine lv_iload hx hb dX2_wrongBit_115 (lv_at hl 4 rfl) ?_
              refine vp_callSi (W.runV (As := [.int (nI k), .int t]) (rest := []) ⟨hx, hb, hml, hown, hts⟩ (k_X2_timesX l D S (cs_k2 (cs_M S (nI k)) (cs_M S (nI k) && cs_nS S (nI k) d && cs_in (nI N9) 0 4000)) bd cy hS k hk t) (cwV 2 hts gX2_wrongBit_X2_timesX rfl rfl rfl (by decide +kernel) ⟨Nat.le_of_ble_eq_true rfl, Nat.le_of_ble_eq_true rfl⟩) ⟨cs_B.blind, va_recv hK hP (ci := 2) (q0 := 0) rfl rfl, cs_B.at hE hP hK⟩ rfl rfl hl.1 rfl (lv_room (Nat.le_of_ble_eq_true rfl)) dX2_wrongBit_117 ⟨Nat.le_of_ble_eq_true rfl, Nat.le_of_ble_eq_true rfl⟩) (fun r_117 e_117 => ?_)
              subst e_117
              refine lv_istore (lv' := [(7, .int (cs_T (cs_w S k) (cs_p S k) t)), (6, .int f), (0, .ref (bd 0)), (1, .int (nI k)), (5, .int (cs_so (cs_ro S k) (cs_w S k) d)), (8, .int (nI n))]) hx hb dX2_wrongBit_120 hl (by decide) rfl (fun ls hl => ?_)
              refine lv_iinc (v := (nI n) - 1) (lv' := [(8, .int ((nI n) - 1)), (7, .int (cs_T (cs_w S k) (cs_p S k) t)), (6, .int f), (0, .ref (bd 0)), (1, .int (nI k)), (5, .int (cs_so (cs_ro S k) (cs_w S k) d))]) hx hb dX2_wrongBit_122 hl (k := 5) rfl (cs_dec (nI n)) (by decide) rfl (fun ls hl => ?_)
              refine lv_goto (tgt := 92) hx hb dX2_wrongBit_125 (by decide) ?_
              exact ih _ _ _ rfl (by omega) (h0.trans (by rw [cs_wb, if_neg c_101])) ls (lv_sub hl [3, 4, 5, 2, 1, 0] rfl)
            · refine lv_iload hx hb dX2_wrongBit_104 (lv_at hl 5 rfl) ?_
              refine lv_goto (tgt := 111) hx hb dX2_wrongBit_106 (by decide) ?_
              refine lv_istore (lv' := [(6, .int (nI n)), (0, .ref (bd 0)), (1, .int (nI k)), (5, .int (cs_so (cs_ro S k) (cs_w S k) d)), (7, .int t), (8, .int (nI n))]) hx hb dX2_wrongBit_111 hl (by decide) rfl (fun ls hl => ?_)
              refine lv_aload_n hx hb dX2_wrongBit_113 rfl (lv_at hl 1 rfl) ?_
              refine lv_iload_n hx hb dX2_wrongBit_114 rfl (lv_at hl 2 rfl) ?_
              refine lv_iload hx hb dX2_wrongBit_115 (lv_at hl 4 rfl) ?_
              refine vp_callSi (W.runV (As := [.int (nI k), .int t]) (rest := []) ⟨hx, hb, hml, hown, hts⟩ (k_X2_timesX l D S (cs_k2 (cs_M S (nI k)) (cs_M S (nI k) && cs_nS S (nI k) d && cs_in (nI N9) 0 4000)) bd cy hS k hk t) (cwV 2 hts gX2_wrongBit_X2_timesX rfl rfl rfl (by decide +kernel) ⟨Nat.le_of_ble_eq_true rfl, Nat.le_of_ble_eq_true rfl⟩) ⟨cs_B.blind, va_recv hK hP (ci := 2) (q0 := 0) rfl rfl, cs_B.at hE hP hK⟩ rfl rfl hl.1 rfl (lv_room (Nat.le_of_ble_eq_true rfl)) dX2_wrongBit_117 ⟨Nat.le_of_ble_eq_true rfl, Nat.le_of_ble_eq_true rfl⟩) (fun r_117 e_117 => ?_)
              subst e_117
              refine lv_istore (lv' := [(7, .int (cs_T (cs_w S k) (cs_p S k) t)), (6, .int (nI n)), (0, .ref (bd 0)), (1, .int (nI k)), (5, .int (cs_so (cs_ro S k) (cs_w S k) d)), (8, .int (nI n))]) hx hb dX2_wrongBit_120 hl (by decide) rfl (fun ls hl => ?_)
              refine lv_iinc (v := (nI n) - 1) (lv' := [(8, .int ((nI n) - 1)), (7, .int (cs_T (cs_w S k) (cs_p S k) t)), (6, .int (nI n)), (0, .ref (bd 0)), (1, .int (nI k)), (5, .int (cs_so (cs_ro S k) (cs_w S k) d))]) hx hb dX2_wrongBit_122 hl (k := 5) rfl (cs_dec (nI n)) (by decide) rfl (fun ls hl => ?_)
              refine lv_goto (tgt := 92) hx hb dX2_wrongBit_125 (by decide) ?_
              exact ih _ _ _ rfl (by omega) (h0.trans (by rw [cs_wb, if_pos c_101])) ls (lv_sub hl [3, 4, 5, 2, 1, 0] rfl)
      refine lv_aload_n hx hb dX2_wrongBit_48 rfl (lv_at hl 1 rfl) ?_
      refine va_get (D := D) (ci := 2) (v := .ref (bd 6)) (C := RX2) (T := TX2) (N := 10) hx hb hts hinX2 hown hK hP 0 cs_R0 rfl 5 (by decide) (hts (.fieldLink RX2 26 "ChecksumLabModel" "reflectOut" "[Z") (by decide +kernel)) (fun _ h9 => h9) rfl dX2_wrongBit_49 ?_
      refine lv_iload_n hx hb dX2_wrongBit_52 rfl (lv_at hl 2 rfl) ?_
      refine cs_zald hx hb hK hP 6 1 cs_R6 rfl (k := k) (by omega) (by decide) dX2_wrongBit_53 ?_
      refine cs_ifeq (tgt := 70) hx hb dX2_wrongBit_54 (by decide) (fun c_54 => ?_) (fun c_54 => ?_)
      · refine lv_iload_n hx hb dX2_wrongBit_70 rfl (lv_at hl 3 rfl) ?_
        refine cs_top (y := (cs_so (cs_ro S k) (cs_w S k) d)) ((if_neg (by rw [c_54]; decide)).symm) ?_
        refine lv_istore (lv' := [(5, .int (cs_so (cs_ro S k) (cs_w S k) d)), (4, .int (cs_z (cs_M S (nI k)))), (0, .ref (bd 0)), (1, .int (nI k)), (2, .int d), (3, .int (nI N9))]) hx hb dX2_wrongBit_71 hl (by decide) rfl (fun ls hl => ?_)
        refine lv_iconst (v := (-1)) hx hb dX2_wrongBit_73 (by decide) ?_
        refine lv_istore (lv' := [(6, .int (-1)), (5, .int (cs_so (cs_ro S k) (cs_w S k) d)), (4, .int (cs_z (cs_M S (nI k)))), (0, .ref (bd 0)), (1, .int (nI k)), (2, .int d), (3, .int (nI N9))]) hx hb dX2_wrongBit_74 hl (by decide) rfl (fun ls hl => ?_)
        refine lv_aload_n hx hb dX2_wrongBit_76 rfl (lv_at hl 3 rfl) ?_
        refine va_get (D := D) (ci := 2) (v := .ref (bd 2)) (C := RX2) (T := TX2) (N := 10) hx hb hts hinX2 hown hK hP 0 cs_R0 rfl 1 (by decide) (hts (.fieldLink RX2 13 "ChecksumLabModel" "poly" "[I") (by decide +kernel)) (fun _ h9 => h9) rfl dX2_wrongBit_77 ?_
        refine lv_iload_n hx hb dX2_wrongBit_80 rfl (lv_at hl 4 rfl) ?_
        refine cs_iald hx hb hK hP 2 0 cs_R2 rfl (k := k) (by omega) (by decide) dX2_wrongBit_81 ?_
        refine lv_istore (lv' := [(7, .int (cs_p S k)), (6, .int (-1)), (5, .int (cs_so (cs_ro S k) (cs_w S k) d)), (4, .int (cs_z (cs_M S (nI k)))), (0, .ref (bd 0)), (1, .int (nI k)), (2, .int d), (3, .int (nI N9))]) hx hb dX2_wrongBit_82 hl (by decide) rfl (fun ls hl => ?_)
        refine lv_bipush (v := 8) hx hb dX2_wrongBit_84 (by decide) ?_
        refine lv_iload_n hx hb dX2_wrongBit_86 rfl (lv_at hl 7 rfl) ?_
        refine lv_imul hx hb dX2_wrongBit_87 ?_
        refine cs_top (y := nI (8 * N9)) (pk_mul 8 N9) ?_
        refine lv_iconst (v := 1) hx hb dX2_wrongBit_88 (by decide) ?_
        refine lv_isub hx hb dX2_wrongBit_89 ?_
        refine lv_istore (lv' := [(8, .int ((nI (8 * N9)) - 1)), (7, .int (cs_p S k)), (6, .int (-1)), (5, .int (cs_so (cs_ro S k) (cs_w S k) d)), (4, .int (cs_z (cs_M S (nI k)))), (0, .ref (bd 0)), (1, .int (nI k)), (2, .int d), (3, .int (nI N9))]) hx hb dX2_wrongBit_90 hl (by decide) rfl (fun ls hl => ?_)
        exact loop (8 * N9) (-1) (cs_p S k) _ rfl (by omega) hV ls (lv_sub hl [5, 6, 3, 2, 1, 0] rfl)
      · refine lv_iload_n hx hb dX2_wrongBit_57 rfl (lv_at hl 3 rfl) ?_
        refine lv_aload_n hx hb dX2_wrongBit_58 rfl (lv_at hl 1 rfl) ?_
        refine va_get (D := D) (ci := 2) (v := .ref (bd 1)) (C := RX2) (T := TX2) (N := 10) hx hb hts hinX2 hown hK hP 0 cs_R0 rfl 0 (by decide) (hts (.fieldLink RX2 7 "ChecksumLabModel" "width" "[I") (by decide +kernel)) (fun _ h9 => h9) rfl dX2_wrongBit_59 ?_
        refine lv_iload_n hx hb dX2_wrongBit_62 rfl (lv_at hl 2 rfl) ?_
        refine cs_iald hx hb hK hP 1 0 cs_R1 rfl (k := k) (by omega) (by decide) dX2_wrongBit_63 ?_
        refine vp_callSi (W.runS (As := [.int d, .int (nI (cs_w S k))]) (rest := []) ⟨hx, hb, hml, hown, hts⟩ (k_X2_reversed l D S (cs_k2 (cs_M S (nI k)) (cs_M S (nI k) && cs_nS S (nI k) d && cs_in (nI N9) 0 4000)) bd cy d (cs_w S k) hw2) (va_cwS 2 hts gX2_wrongBit_X2_reversed rfl rfl rfl (by decide +kernel) ⟨Nat.le_of_ble_eq_true rfl, Nat.le_of_ble_eq_true rfl⟩) ⟨cs_B.blind, cs_B.at hE cs_none hK⟩ rfl rfl hl.1 rfl (lv_room (Nat.le_of_ble_eq_true rfl)) dX2_wrongBit_64 ⟨Nat.le_of_ble_eq_true rfl, Nat.le_of_ble_eq_true rfl⟩) (fun r_64 e_64 => ?_)
        subst e_64
        refine lv_goto (tgt := 71) hx hb dX2_wrongBit_67 (by decide) ?_
        refine cs_top (y := (cs_so (cs_ro S k) (cs_w S k) d)) ((if_pos c_54).symm) ?_
        refine lv_istore (lv' := [(5, .int (cs_so (cs_ro S k) (cs_w S k) d)), (4, .int (cs_z (cs_M S (nI k)))), (0, .ref (bd 0)), (1, .int (nI k)), (2, .int d), (3, .int (nI N9))]) hx hb dX2_wrongBit_71 hl (by decide) rfl (fun ls hl => ?_)
        refine lv_iconst (v := (-1)) hx hb dX2_wrongBit_73 (by decide) ?_
        refine lv_istore (lv' := [(6, .int (-1)), (5, .int (cs_so (cs_ro S k) (cs_w S k) d)), (4, .int (cs_z (cs_M S (nI k)))), (0, .ref (bd 0)), (1, .int (nI k)), (2, .int d), (3, .int (nI N9))]) hx hb dX2_wrongBit_74 hl (by decide) rfl (fun ls hl => ?_)
        refine lv_aload_n hx hb dX2_wrongBit_76 rfl (lv_at hl 3 rfl) ?_
        refine va_get (D := D) (ci := 2) (v := .ref (bd 2)) (C := RX2) (T := TX2) (N := 10) hx hb hts hinX2 hown hK hP 0 cs_R0 rfl 1 (by decide) (hts (.fieldLink RX2 13 "ChecksumLabModel" "poly" "[I") (by decide +kernel)) (fun _ h9 => h9) rfl dX2_wrongBit_77 ?_
        refine lv_iload_n hx hb dX2_wrongBit_80 rfl (lv_at hl 4 rfl) ?_
        refine cs_iald hx hb hK hP 2 0 cs_R2 rfl (k := k) (by omega) (by decide) dX2_wrongBit_81 ?_
        refine lv_istore (lv' := [(7, .int (cs_p S k)), (6, .int (-1)), (5, .int (cs_so (cs_ro S k) (cs_w S k) d)), (4, .int (cs_z (cs_M S (nI k)))), (0, .ref (bd 0)), (1, .int (nI k)), (2, .int d), (3, .int (nI N9))]) hx hb dX2_wrongBit_82 hl (by decide) rfl (fun ls hl => ?_)
        refine lv_bipush (v := 8) hx hb dX2_wrongBit_84 (by decide) ?_
        refine lv_iload_n hx hb dX2_wrongBit_86 rfl (lv_at hl 7 rfl) ?_
        refine lv_imul hx hb dX2_wrongBit_87 ?_
        refine cs_top (y := nI (8 * N9)) (pk_mul 8 N9) ?_
        refine lv_iconst (v := 1) hx hb dX2_wrongBit_88 (by decide) ?_
        refine lv_isub hx hb dX2_wrongBit_89 ?_
        refine lv_istore (lv' := [(8, .int ((nI (8 * N9)) - 1)), (7, .int (cs_p S k)), (6, .int (-1)), (5, .int (cs_so (cs_ro S k) (cs_w S k) d)), (4, .int (cs_z (cs_M S (nI k)))), (0, .ref (bd 0)), (1, .int (nI k)), (2, .int d), (3, .int (nI N9))]) hx hb dX2_wrongBit_90 hl (by decide) rfl (fun ls hl => ?_)
        exact loop (8 * N9) (-1) (cs_p S k) _ rfl (by omega) hV ls (lv_sub hl [5, 6, 3, 2, 1, 0] rfl)
    · refine lv_iconst (v := 0) hx hb dX2_wrongBit_46 (by decide) ?_
      exact W.iret (v := 0) hx hb hr (fun t ht _ => ⟨0, (), rfl, fun z => absurd (cs_k2_0.mp z) (by rw [c_43]; decide), by rw [ht]; exact hP, by exact hD, hS9.F ht⟩) hS9.2.2 dX2_wrongBit_47
  refine lv_aload_n hx hb dX2_wrongBit_7 rfl (lv_at hl 1 rfl) ?_
  refine lv_iload hx hb dX2_wrongBit_8 (lv_at hl 0 rfl) ?_
  refine lv_iload hx hb dX2_wrongBit_10 (lv_at hl 0 rfl) ?_
  refine cs_ifeq (tgt := 39) hx hb dX2_wrongBit_12 (by decide) (fun c_12 => ?_) (fun c_12 => ?_)
  · refine lv_iconst (v := 0) hx hb dX2_wrongBit_39 (by decide) ?_
    refine cs_top (y := cs_z (cs_M S v && cs_nS S v d && cs_in n 0 4000)) (by simp [cs_z, cs_nS, c_12]) ?_
    exact j40
  · obtain ⟨k, hk, rfl⟩ := cs_mod_of hS c_12
    have hk31 : k < 2 ^ 31 := by omega
    refine lv_aload_n hx hb dX2_wrongBit_15 rfl (lv_at hl 1 rfl) ?_
    refine lv_iload_n hx hb dX2_wrongBit_16 rfl (lv_at hl 2 rfl) ?_
    refine lv_iload_n hx hb dX2_wrongBit_17 rfl (lv_at hl 3 rfl) ?_
    refine vp_callSi (W.runV (As := [.int (nI k), .int d]) (rest := [.int (cs_z (cs_M S (nI k))), .ref (bd 0)]) ⟨hx, hb, hml, hown, hts⟩ (k_X2_isNumber l D S th bd cy hS k hk d) (cwV 2 hts gX2_wrongBit_X2_isNumber rfl rfl rfl (by decide +kernel) ⟨Nat.le_of_ble_eq_true rfl, Nat.le_of_ble_eq_true rfl⟩) ⟨cs_B.blind, va_recv hK hP (ci := 2) (q0 := 0) rfl rfl, cs_B.at hE hP hK⟩ rfl rfl hl.1 rfl (lv_room (Nat.le_of_ble_eq_true rfl)) dX2_wrongBit_18 ⟨Nat.le_of_ble_eq_true rfl, Nat.le_of_ble_eq_true rfl⟩) (fun r_18 e_18 => ?_)
    subst e_18
    refine cs_ifeq (tgt := 39) hx hb dX2_wrongBit_21 (by decide) (fun c_21 => ?_) (fun c_21 => ?_)
    · refine lv_iconst (v := 0) hx hb dX2_wrongBit_39 (by decide) ?_
      refine cs_top (y := cs_z (cs_M S (nI k) && cs_nS S (nI k) d && cs_in n 0 4000)) (by simp [cs_z, cs_nS, cs_cI hk31, c_12, c_21]) ?_
      exact j40
    · refine lv_iload_n hx hb dX2_wrongBit_24 rfl (lv_at hl 4 rfl) ?_
      refine lv_iconst (v := 0) hx hb dX2_wrongBit_25 (by decide) ?_
      refine lv_sipush (v := 4000) hx hb dX2_wrongBit_26 (by decide) ?_
      refine vp_callSi (W.runS (As := [.int n, .int 0, .int 4000]) (rest := [.int (cs_z (cs_M S (nI k))), .ref (bd 0)]) ⟨hx, hb, hml, hown, hts⟩ (k_X2_in l D S th bd cy  n 0 4000) (va_cwS 3 hts gX2_wrongBit_X2_in rfl rfl rfl (by decide +kernel) ⟨Nat.le_of_ble_eq_true rfl, Nat.le_of_ble_eq_true rfl⟩) ⟨cs_B.blind, cs_B.at hE cs_none hK⟩ rfl rfl hl.1 rfl (lv_room (Nat.le_of_ble_eq_true rfl)) dX2_wrongBit_29 ⟨Nat.le_of_ble_eq_true rfl, Nat.le_of_ble_eq_true rfl⟩) (fun r_29 e_29 => ?_)
      subst e_29
      refine cs_ifeq (tgt := 39) hx hb dX2_wrongBit_32 (by decide) (fun c_32 => ?_) (fun c_32 => ?_)
      · refine lv_iconst (v := 0) hx hb dX2_wrongBit_39 (by decide) ?_
        refine cs_top (y := cs_z (cs_M S (nI k) && cs_nS S (nI k) d && cs_in n 0 4000)) (by simp [cs_z, cs_nS, cs_cI hk31, c_12, c_21, c_32]) ?_
        exact j40
      · refine lv_iconst (v := 1) hx hb dX2_wrongBit_35 (by decide) ?_
        refine lv_goto (tgt := 40) hx hb dX2_wrongBit_36 (by decide) ?_
        refine cs_top (y := cs_z (cs_M S (nI k) && cs_nS S (nI k) d && cs_in n 0 4000)) (by simp [cs_z, cs_nS, cs_cI hk31, c_12, c_21, c_32]) ?_
        exact j40
set_option maxHeartbeats 4000000 in
set_option maxRecDepth 100000 in
theorem k_X2_remainder (l : Launch) (D : va_G) (S : cs_St) (th : Int32) (bd : Nat → Nat) (cy : Nat → ClassId) (sz : Nat) (hS : cs_ok S) (v u : Int32) : cs_Mw l yX2_remainder wsX2_remainder ({ frames := 2, cells := 0, slots := 0, locals := 43 }) D (cs_tys cy) (cs_R S th bd cy) sz [.ref (bd 0), .int v, .int u] (fun (_ : Unit) => cs_R S (cs_k1 (cs_M S v && cs_in u 0 3)) bd cy) (fun rr _ => cs_k1 (cs_M S v && cs_in u 0 3) = 0 → rr = cs_vRem S v u) := by
  refine Met.ofW (cc := cX2_remainder) (maxL := 6) (ret := (some .int)) (by decide) rfl ?_
  intro pg e s m args below meth c s₁ B hml hv
  obtain ⟨rfl, hsz, hE, hP, hK, hD0⟩ := hv
  subst hsz
  have hD := hD0.self (sz := s.heap.size)
  have hA : ∀ q : Nat, s.heap.size ≤ q → va_A (cs_R S th bd cy) s.heap.size q := fun q h => Or.inr h
  have hS9 : va_S (va_A (cs_R S th bd cy) s.heap.size) s.heap s.heap [] := va_S.rf
  have hx := B.exec
  have hb := B.bytes
  have hr := B.returns
  have hts := atoms_spec (ws := wsX2_remainder) B.pre
  have hown : s.vm.findClass RX2 = some m.cls := findClass_of_methodNamed B.named
  have hlocks := B.notSynchronized
  have hl := lv_entry ([.ref (bd 0), .int v, .int u]) (n := 6) (Nat.le_of_ble_eq_true rfl)
  rw [lg_entry_eq]
  generalize (lg_sl ([.ref (bd 0), .int v, .int u]) ++ List.replicate (6 - (lg_sl ([.ref (bd 0), .int v, .int u])).length) Slot.unset).toArray = ls at hl ⊢
  have hl : lv_has ls 6 [(0, .ref (bd 0)), (1, .int v), (2, .int u)] := hl
  have hinX2 : ∀ w ∈ wsX20, w ∈ wsX2_remainder := fun _ h => by unfold wsX2_remainder; exact List.mem_cons_of_mem _ (List.mem_append_right _ h)
  have h6 := hS.1
  refine lv_iconst (v := 0) hx hb dX2_remainder_0 (by decide) ?_
  refine lv_istore_n (lv' := [(3, .int 0), (0, .ref (bd 0)), (1, .int v), (2, .int u)]) hx hb dX2_remainder_1 rfl hl (by decide) rfl (fun ls hl => ?_)
  refine lv_aload_n hx hb dX2_remainder_2 rfl (lv_at hl 1 rfl) ?_
  refine lv_aload_n hx hb dX2_remainder_3 rfl (lv_at hl 1 rfl) ?_
  refine lv_iload_n hx hb dX2_remainder_4 rfl (lv_at hl 2 rfl) ?_
  refine vp_callSi (W.runV (As := [.int v]) (rest := [.ref (bd 0)]) ⟨hx, hb, hml, hown, hts⟩ (k_X2_isModel l D S th bd cy  v) (cwV 1 hts gX2_remainder_X2_isModel rfl rfl rfl (by decide +kernel) ⟨Nat.le_of_ble_eq_true rfl, Nat.le_of_ble_eq_true rfl⟩) ⟨cs_B.blind, va_recv hK hP (ci := 2) (q0 := 0) rfl rfl, cs_B.at hE hP hK⟩ rfl rfl hl.1 rfl (lv_room (Nat.le_of_ble_eq_true rfl)) dX2_remainder_5 ⟨Nat.le_of_ble_eq_true rfl, Nat.le_of_ble_eq_true rfl⟩) (fun r_5 e_5 => ?_)
  subst e_5
  refine cs_top (y := cs_z (cs_M S v)) rfl ?_
  have j23 : W pg l e (headSpec wsX2_remainder ({ frames := 2, cells := 0, slots := 0, locals := 43 })).room s m [Value.ref (bd 0), Value.int v, Value.int u].toArray below meth c s.heap [] 0 0 (MQ below (cs_Qw D (cs_R S th bd cy) (fun (_ : Unit) => cs_R S (cs_k1 (cs_M S v && cs_in u 0 3)) bd cy) (fun rr _ => cs_k1 (cs_M S v && cs_in u 0 3) = 0 → rr = cs_vRem S v u)) [Value.ref (bd 0), Value.int v, Value.int u].toArray s 0 0 (va_A (cs_R S th bd cy) s.heap.size)) (F0 m 23 ls [.int (cs_z (cs_M S v && cs_in u 0 3)), .ref (bd 0)]) := by
    have hF := cs_inW hD hS9 hA
    refine cs_wcalli (va_runV (As := [.int (cs_z (cs_M S v && cs_in u 0 3))]) (rest := []) ⟨hx, hb, hml, hown, hts⟩ (k_X2_asked l D S th bd cy s.heap.size (cs_M S v && cs_in u 0 3)) (cwV 1 hts gX2_remainder_X2_asked rfl rfl rfl (by decide +kernel) ⟨Nat.le_of_ble_eq_true rfl, Nat.le_of_ble_eq_true rfl⟩) ⟨cs_Bw.blind, va_recv hK hP (ci := 2) (q0 := 0) rfl rfl, cs_Bw.at hE hP hK hD⟩ rfl rfl hl.1 rfl (lv_room (Nat.le_of_ble_eq_true rfl)) dX2_remainder_23 ⟨Nat.le_of_ble_eq_true rfl, Nat.le_of_ble_eq_true rfl⟩) hS9 hF (fun r_23 u9 H locs hp hP hD1 hz hk1 hS9 => ?_)
    have hP : va_P D vwCl (cs_R S (cs_k1 (cs_M S v && cs_in u 0 3)) bd cy) H := hP
    have hD : va_D (va_A (cs_R S th bd cy) s.heap.size) (cs_R S (cs_k1 (cs_M S v && cs_in u 0 3)) bd cy) := hD1.weaken (fun k q _ h => hF q.1 h)
    subst hp
    refine lv_istore (lv' := [(4, .int (cs_z (cs_M S v && cs_in u 0 3))), (3, .int 0), (0, .ref (bd 0)), (1, .int v), (2, .int u)]) hx hb dX2_remainder_26 hl (by decide) rfl (fun ls hl => ?_)
    refine lv_iconst (v := 0) hx hb dX2_remainder_28 (by decide) ?_
    refine lv_istore (lv' := [(5, .int 0), (4, .int (cs_z (cs_M S v && cs_in u 0 3))), (3, .int 0), (0, .ref (bd 0)), (1, .int v), (2, .int u)]) hx hb dX2_remainder_29 hl (by decide) rfl (fun ls hl => ?_)
    rcases Bool.eq_false_or_eq_true (cs_M S v && cs_in u 0 3) with hB | hB
    · obtain ⟨hm, hrw⟩ := cs_and hB
      obtain ⟨k, hk, rfl⟩ := cs_mod_of hS hm
      have hk31 : k < 2 ^ 31 := by omega
      obtain ⟨r, hr4, rfl⟩ := cs_row_of hrw
      have r31 : r < 2 ^ 31 := by omega
      have hl8 := hS.2.2.1 r
      have loop : ∀ (n i : Nat), i + n = 8 * cs_ln S r → ∀ ls : Array Slot, lv_has ls 6 [(0, .ref (bd 0)), (1, .int (nI k)), (2, .int (nI r)), (3, .int (cs_rm (cs_w S k) (cs_p S k) (cs_by S r) i)), (4, .int (cs_z (cs_M S (nI k) && cs_in (nI r) 0 3))), (5, .int (nI i))] → W pg l e (headSpec wsX2_remainder ({ frames := 2, cells := 0, slots := 0, locals := 43 })).room s m [Value.ref (bd 0), Value.int (nI k), Value.int (nI r)].toArray below meth c H locs 0 0 (MQ below (cs_Qw D (cs_R S th bd cy) (fun (_ : Unit) => cs_R S (cs_k1 (cs_M S (nI k) && cs_in (nI r) 0 3)) bd cy) (fun rr _ => cs_k1 (cs_M S (nI k) && cs_in (nI r) 0 3) = 0 → rr = cs_vRem S (nI k) (nI r))) [Value.ref (bd 0), Value.int (nI k), Value.int (nI r)].toArray s 0 0 (va_A (cs_R S th bd cy) s.heap.size)) (F0 m 31 ls []) := by
        intro n
        induction n with
        | zero =>
          intro i hi ls hl
          refine lv_iload hx hb dX2_remainder_31 (lv_at hl 4 rfl) ?_
          refine cs_ifeq (tgt := 91) hx hb dX2_remainder_33 (by decide) (fun c_33 => ?_) (fun c_33 => ?_)
          · exact absurd (c_33.symm.trans hB) (by decide)
          · refine lv_iload hx hb dX2_remainder_36 (lv_at hl 5 rfl) ?_
            refine lv_bipush (v := 8) hx hb dX2_remainder_38 (by decide) ?_
            refine lv_aload_n hx hb dX2_remainder_40 rfl (lv_at hl 0 rfl) ?_
            refine va_get (D := D) (ci := 2) (v := .ref (bd 8)) (C := RX2) (T := TX2) (N := 10) hx hb hts hinX2 hown hK hP 0 cs_R0 rfl 8 (by decide) (hts (.fieldLink RX2 32 "ChecksumLabModel" "length" "[I") (by decide +kernel)) (fun _ h9 => h9) rfl dX2_remainder_41 ?_
            refine lv_iload_n hx hb dX2_remainder_44 rfl (lv_at hl 2 rfl) ?_
            refine cs_iald hx hb hK hP 8 0 cs_R8 rfl (k := r) (hr4) (by decide) dX2_remainder_45 ?_
            refine lv_imul hx hb dX2_remainder_46 ?_
            refine cs_top (y := nI (8 * cs_ln S r)) (pk_mul 8 (cs_ln S r)) ?_
            refine lv_icmp_ge (tgt := 91) hx hb dX2_remainder_47 (by decide) (fun c_47 => ?_) (fun c_47 => ?_)
            · refine lv_iload_n hx hb dX2_remainder_91 rfl (lv_at hl 3 rfl) ?_
              exact W.iret (v := (cs_rm (cs_w S k) (cs_p S k) (cs_by S r) i)) hx hb hr (fun t ht _ => ⟨(cs_rm (cs_w S k) (cs_p S k) (cs_by S r) i), (), rfl, fun _ => by unfold cs_vRem; rw [cs_cI hk31, cs_cI r31, ← cs_rm_rs (hS.2.2.2 r), ← hi, Nat.add_zero], by rw [ht]; exact hP, by exact hD, hS9.F ht⟩) hS9.2.2 dX2_remainder_92
            · exact absurd (nI_le (a := 8 * cs_ln S r) (b := i) (by omega) (by omega)) c_47
        | succ n ih =>
          intro i hi ls hl
          refine lv_iload hx hb dX2_remainder_31 (lv_at hl 4 rfl) ?_
          refine cs_ifeq (tgt := 91) hx hb dX2_remainder_33 (by decide) (fun c_33 => ?_) (fun c_33 => ?_)
          · exact absurd (c_33.symm.trans hB) (by decide)
          · refine lv_iload hx hb dX2_remainder_36 (lv_at hl 5 rfl) ?_
            refine lv_bipush (v := 8) hx hb dX2_remainder_38 (by decide) ?_
            refine lv_aload_n hx hb dX2_remainder_40 rfl (lv_at hl 0 rfl) ?_
            refine va_get (D := D) (ci := 2) (v := .ref (bd 8)) (C := RX2) (T := TX2) (N := 10) hx hb hts hinX2 hown hK hP 0 cs_R0 rfl 8 (by decide) (hts (.fieldLink RX2 32 "ChecksumLabModel" "length" "[I") (by decide +kernel)) (fun _ h9 => h9) rfl dX2_remainder_41 ?_
            refine lv_iload_n hx hb dX2_remainder_44 rfl (lv_at hl 2 rfl) ?_
            refine cs_iald hx hb hK hP 8 0 cs_R8 rfl (k := r) (hr4) (by decide) dX2_remainder_45 ?_
            refine lv_imul hx hb dX2_remainder_46 ?_
            refine cs_top (y := nI (8 * cs_ln S r)) (pk_mul 8 (cs_ln S r)) ?_
            refine lv_icmp_ge (tgt := 91) hx hb dX2_remainder_47 (by decide) (fun c_47 => ?_) (fun c_47 => ?_)
            · exact absurd c_47 (nI_ge (a := i) (b := 8 * cs_ln S r) (by omega) (by omega))
            · refine lv_aload_n hx hb dX2_remainder_50 rfl (lv_at hl 0 rfl) ?_
              refine lv_iload_n hx hb dX2_remainder_51 rfl (lv_at hl 1 rfl) ?_
              refine lv_iload_n hx hb dX2_remainder_52 rfl (lv_at hl 3 rfl) ?_
              refine vp_callSi (W.runV (As := [.int (nI k), .int (cs_rm (cs_w S k) (cs_p S k) (cs_by S r) i)]) (rest := []) ⟨hx, hb, hml, hown, hts⟩ (k_X2_timesX l D S (cs_k1 (cs_M S (nI k) && cs_in (nI r) 0 3)) bd cy hS k hk (cs_rm (cs_w S k) (cs_p S k) (cs_by S r) i)) (cwV 2 hts gX2_remainder_X2_timesX rfl rfl rfl (by decide +kernel) ⟨Nat.le_of_ble_eq_true rfl, Nat.le_of_ble_eq_true rfl⟩) ⟨cs_B.blind, va_recv hK hP (ci := 2) (q0 := 0) rfl rfl, cs_B.at hE hP hK⟩ rfl rfl hl.1 rfl (lv_room (Nat.le_of_ble_eq_true rfl)) dX2_remainder_53 ⟨Nat.le_of_ble_eq_true rfl, Nat.le_of_ble_eq_true rfl⟩) (fun r_53 e_53 => ?_)
              subst e_53
              refine lv_aload_n hx hb dX2_remainder_56 rfl (lv_at hl 0 rfl) ?_
              refine va_get (D := D) (ci := 2) (v := .ref (bd 7)) (C := RX2) (T := TX2) (N := 10) hx hb hts hinX2 hown hK hP 0 cs_R0 rfl 7 (by decide) (hts (.fieldLink RX2 29 "ChecksumLabModel" "bytes" "[I") (by decide +kernel)) (fun _ h9 => h9) rfl dX2_remainder_57 ?_
              refine lv_sipush (v := 256) hx hb dX2_remainder_60 (by decide) ?_
              refine lv_iload_n hx hb dX2_remainder_63 rfl (lv_at hl 2 rfl) ?_
              refine lv_imul hx hb dX2_remainder_64 ?_
              refine lv_iload hx hb dX2_remainder_65 (lv_at hl 5 rfl) ?_
              refine lv_bipush (v := 8) hx hb dX2_remainder_67 (by decide) ?_
              refine lv_idiv hx hb dX2_remainder_69 (by decide) ?_
              refine cs_top (y := nI (i / 8)) (pk_div (a := i) (d := 8) (by omega) (by decide) (by decide)) ?_
              refine lv_iadd hx hb dX2_remainder_70 ?_
              refine cs_top (y := nI (256 * r + (i / 8))) (cs_256 r (i / 8)) ?_
              refine cs_iald hx hb hK hP 7 0 cs_R7 rfl (k := 256 * r + (i / 8)) (by omega) (by decide) dX2_remainder_71 ?_
              refine cs_top (y := nI (cs_by S r (i / 8))) (congrArg nI (cs_byE (by omega))) ?_
              refine lv_bipush (v := 7) hx hb dX2_remainder_72 (by decide) ?_
              refine lv_iload hx hb dX2_remainder_74 (lv_at hl 5 rfl) ?_
              refine lv_bipush (v := 8) hx hb dX2_remainder_76 (by decide) ?_
              refine lv_irem hx hb dX2_remainder_78 (by decide) ?_
              refine cs_top (y := cs_rem (nI i) 8) (rfl) ?_
              refine cs_top (y := nI (i % 8)) (pk_rem (a := i) (d := 8) (by omega) (by decide) (by decide)) ?_
              refine lv_isub hx hb dX2_remainder_79 ?_
              refine lv_ishr hx hb dX2_remainder_80 ?_
              refine lv_iconst (v := 1) hx hb dX2_remainder_81 (by decide) ?_
              refine lv_iand hx hb dX2_remainder_82 ?_
              refine lv_ixor hx hb dX2_remainder_83 ?_
              refine lv_istore_n (lv' := [(3, .int ((cs_T (cs_w S k) (cs_p S k) (cs_rm (cs_w S k) (cs_p S k) (cs_by S r) i)) ^^^ (((nI (cs_by S r (i / 8))) >>> ((7 - (nI (i % 8))) &&& 31)) &&& 1))), (0, .ref (bd 0)), (1, .int (nI k)), (2, .int (nI r)), (4, .int (cs_z (cs_M S (nI k) && cs_in (nI r) 0 3))), (5, .int (nI i))]) hx hb dX2_remainder_84 rfl hl (by decide) rfl (fun ls hl => ?_)
              refine lv_iinc (v := nI (i + 1)) (lv' := [(5, .int (nI (i + 1))), (3, .int ((cs_T (cs_w S k) (cs_p S k) (cs_rm (cs_w S k) (cs_p S k) (cs_by S r) i)) ^^^ (((nI (cs_by S r (i / 8))) >>> ((7 - (nI (i % 8))) &&& 31)) &&& 1))), (0, .ref (bd 0)), (1, .int (nI k)), (2, .int (nI r)), (4, .int (cs_z (cs_M S (nI k) && cs_in (nI r) 0 3)))]) hx hb dX2_remainder_85 hl (k := 5) rfl (cs_inc1 i) (by decide) rfl (fun ls hl => ?_)
              refine lv_goto (tgt := 31) hx hb dX2_remainder_88 (by decide) ?_
              exact ih (i + 1) (by omega) ls (lv_sub hl [2, 3, 4, 1, 5, 0] rfl)
      exact loop (8 * cs_ln S r) 0 (by omega) ls (lv_sub hl [3, 4, 5, 2, 1, 0] rfl)
    · refine lv_iload hx hb dX2_remainder_31 (lv_at hl 1 rfl) ?_
      refine cs_ifeq (tgt := 91) hx hb dX2_remainder_33 (by decide) (fun c_33 => ?_) (fun c_33 => ?_)
      · refine lv_iload_n hx hb dX2_remainder_91 rfl (lv_at hl 2 rfl) ?_
        exact W.iret (v := 0) hx hb hr (fun t ht _ => ⟨0, (), rfl, fun z => absurd (cs_k1_0.mp z) (by rw [hB]; decide), by rw [ht]; exact hP, by exact hD, hS9.F ht⟩) hS9.2.2 dX2_remainder_92
      · exact absurd (c_33.symm.trans hB) (by decide)
  refine cs_ifeq (tgt := 22) hx hb dX2_remainder_8 (by decide) (fun c_8 => ?_) (fun c_8 => ?_)
  · refine lv_iconst (v := 0) hx hb dX2_remainder_22 (by decide) ?_
    refine cs_top (y := cs_z (cs_M S v && cs_in u 0 3)) (by simp [cs_z, cs_nS, c_8]) ?_
    exact j23
  · refine lv_iload_n hx hb dX2_remainder_11 rfl (lv_at hl 3 rfl) ?_
    refine vp_callSi (W.runS (As := [.int u]) (rest := [.ref (bd 0)]) ⟨hx, hb, hml, hown, hts⟩ (k_X2_isRow l D S th bd cy  u) (va_cwS 1 hts gX2_remainder_X2_isRow rfl rfl rfl (by decide +kernel) ⟨Nat.le_of_ble_eq_true rfl, Nat.le_of_ble_eq_true rfl⟩) ⟨cs_B.blind, cs_B.at hE cs_none hK⟩ rfl rfl hl.1 rfl (lv_room (Nat.le_of_ble_eq_true rfl)) dX2_remainder_12 ⟨Nat.le_of_ble_eq_true rfl, Nat.le_of_ble_eq_true rfl⟩) (fun r_12 e_12 => ?_)
    subst e_12
    refine cs_ifeq (tgt := 22) hx hb dX2_remainder_15 (by decide) (fun c_15 => ?_) (fun c_15 => ?_)
    · refine lv_iconst (v := 0) hx hb dX2_remainder_22 (by decide) ?_
      refine cs_top (y := cs_z (cs_M S v && cs_in u 0 3)) (by simp [cs_z, cs_nS, c_8, c_15]) ?_
      exact j23
    · refine lv_iconst (v := 1) hx hb dX2_remainder_18 (by decide) ?_
      refine lv_goto (tgt := 23) hx hb dX2_remainder_19 (by decide) ?_
      refine cs_top (y := cs_z (cs_M S v && cs_in u 0 3)) (by simp [cs_z, cs_nS, c_8, c_15]) ?_
      exact j23
set_option maxHeartbeats 4000000 in
set_option maxRecDepth 100000 in
theorem k_X2_fletcher (l : Launch) (D : va_G) (S : cs_St) (th : Int32) (bd : Nat → Nat) (cy : Nat → ClassId) (sz : Nat) (hS : cs_ok S) (v : Int32) : cs_Mw l yX2_fletcher wsX2_fletcher ({ frames := 2, cells := 0, slots := 0, locals := 42 }) D (cs_tys cy) (cs_R S th bd cy) sz [.ref (bd 0), .int v] (fun (_ : Unit) => cs_R S (cs_k1 (cs_in v 0 3)) bd cy) (fun rr _ => cs_k1 (cs_in v 0 3) = 0 → rr = cs_vFle S v) := by
  refine Met.ofW (cc := cX2_fletcher) (maxL := 6) (ret := (some .int)) (by decide) rfl ?_
  intro pg e s m args below meth c s₁ B hml hv
  obtain ⟨rfl, hsz, hE, hP, hK, hD0⟩ := hv
  subst hsz
  have hD := hD0.self (sz := s.heap.size)
  have hA : ∀ q : Nat, s.heap.size ≤ q → va_A (cs_R S th bd cy) s.heap.size q := fun q h => Or.inr h
  have hS9 : va_S (va_A (cs_R S th bd cy) s.heap.size) s.heap s.heap [] := va_S.rf
  have hx := B.exec
  have hb := B.bytes
  have hr := B.returns
  have hts := atoms_spec (ws := wsX2_fletcher) B.pre
  have hown : s.vm.findClass RX2 = some m.cls := findClass_of_methodNamed B.named
  have hlocks := B.notSynchronized
  have hl := lv_entry ([.ref (bd 0), .int v]) (n := 6) (Nat.le_of_ble_eq_true rfl)
  rw [lg_entry_eq]
  generalize (lg_sl ([.ref (bd 0), .int v]) ++ List.replicate (6 - (lg_sl ([.ref (bd 0), .int v])).length) Slot.unset).toArray = ls at hl ⊢
  have hl : lv_has ls 6 [(0, .ref (bd 0)), (1, .int v)] := hl
  have hinX2 : ∀ w ∈ wsX20, w ∈ wsX2_fletcher := fun _ h => by unfold wsX2_fletcher; exact List.mem_cons_of_mem _ (List.mem_append_right _ h)
  refine lv_iconst (v := 0) hx hb dX2_fletcher_0 (by decide) ?_
  refine lv_istore_n (lv' := [(2, .int 0), (0, .ref (bd 0)), (1, .int v)]) hx hb dX2_fletcher_1 rfl hl (by decide) rfl (fun ls hl => ?_)
  refine lv_iconst (v := 0) hx hb dX2_fletcher_2 (by decide) ?_
  refine lv_istore_n (lv' := [(3, .int 0), (2, .int 0), (0, .ref (bd 0)), (1, .int v)]) hx hb dX2_fletcher_3 rfl hl (by decide) rfl (fun ls hl => ?_)
  refine lv_aload_n hx hb dX2_fletcher_4 rfl (lv_at hl 2 rfl) ?_
  refine lv_iload_n hx hb dX2_fletcher_5 rfl (lv_at hl 3 rfl) ?_
  refine vp_callSi (W.runS (As := [.int v]) (rest := [.ref (bd 0)]) ⟨hx, hb, hml, hown, hts⟩ (k_X2_isRow l D S th bd cy  v) (va_cwS 1 hts gX2_fletcher_X2_isRow rfl rfl rfl (by decide +kernel) ⟨Nat.le_of_ble_eq_true rfl, Nat.le_of_ble_eq_true rfl⟩) ⟨cs_B.blind, cs_B.at hE cs_none hK⟩ rfl rfl hl.1 rfl (lv_room (Nat.le_of_ble_eq_true rfl)) dX2_fletcher_6 ⟨Nat.le_of_ble_eq_true rfl, Nat.le_of_ble_eq_true rfl⟩) (fun r_6 e_6 => ?_)
  subst e_6
  have hF := cs_inW hD hS9 hA
  refine cs_wcalli (va_runV (As := [.int (cs_z (cs_in v 0 3))]) (rest := []) ⟨hx, hb, hml, hown, hts⟩ (k_X2_asked l D S th bd cy s.heap.size (cs_in v 0 3)) (cwV 1 hts gX2_fletcher_X2_asked rfl rfl rfl (by decide +kernel) ⟨Nat.le_of_ble_eq_true rfl, Nat.le_of_ble_eq_true rfl⟩) ⟨cs_Bw.blind, va_recv hK hP (ci := 2) (q0 := 0) rfl rfl, cs_Bw.at hE hP hK hD⟩ rfl rfl hl.1 rfl (lv_room (Nat.le_of_ble_eq_true rfl)) dX2_fletcher_9 ⟨Nat.le_of_ble_eq_true rfl, Nat.le_of_ble_eq_true rfl⟩) hS9 hF (fun r_9 u9 H locs hp hP hD1 hz hk1 hS9 => ?_)
  have hP : va_P D vwCl (cs_R S (cs_k1 (cs_in v 0 3)) bd cy) H := hP
  have hD : va_D (va_A (cs_R S th bd cy) s.heap.size) (cs_R S (cs_k1 (cs_in v 0 3)) bd cy) := hD1.weaken (fun k q _ h => hF q.1 h)
  subst hp
  refine lv_istore (lv' := [(4, .int (cs_z (cs_in v 0 3))), (3, .int 0), (2, .int 0), (0, .ref (bd 0)), (1, .int v)]) hx hb dX2_fletcher_12 hl (by decide) rfl (fun ls hl => ?_)
  refine lv_iconst (v := 0) hx hb dX2_fletcher_14 (by decide) ?_
  refine lv_istore (lv' := [(5, .int 0), (4, .int (cs_z (cs_in v 0 3))), (3, .int 0), (2, .int 0), (0, .ref (bd 0)), (1, .int v)]) hx hb dX2_fletcher_15 hl (by decide) rfl (fun ls hl => ?_)
  rcases Bool.eq_false_or_eq_true (cs_in v 0 3) with hB | hB
  · obtain ⟨r, hr4, rfl⟩ := cs_row_of hB
    have r31 : r < 2 ^ 31 := by omega
    have hl8 := hS.2.2.1 r
    have loop : ∀ (n i : Nat), i + n = cs_ln S r → ∀ ls : Array Slot, lv_has ls 6 [(0, .ref (bd 0)), (1, .int (nI r)), (2, .int ((cs_ra 255 0 (cs_by S r) i).1)), (3, .int ((cs_ra 255 0 (cs_by S r) i).2)), (4, .int (cs_z (cs_in (nI r) 0 3))), (5, .int (nI i))] → W pg l e (headSpec wsX2_fletcher ({ frames := 2, cells := 0, slots := 0, locals := 42 })).room s m [Value.ref (bd 0), Value.int (nI r)].toArray below meth c H locs 0 0 (MQ below (cs_Qw D (cs_R S th bd cy) (fun (_ : Unit) => cs_R S (cs_k1 (cs_in (nI r) 0 3)) bd cy) (fun rr _ => cs_k1 (cs_in (nI r) 0 3) = 0 → rr = cs_vFle S (nI r))) [Value.ref (bd 0), Value.int (nI r)].toArray s 0 0 (va_A (cs_R S th bd cy) s.heap.size)) (F0 m 17 ls []) := by
      intro n
      induction n with
      | zero =>
        intro i hi ls hl
        refine lv_iload hx hb dX2_fletcher_17 (lv_at hl 4 rfl) ?_
        refine cs_ifeq (tgt := 67) hx hb dX2_fletcher_19 (by decide) (fun c_19 => ?_) (fun c_19 => ?_)
        · exact absurd (c_19.symm.trans hB) (by decide)
        · refine lv_iload hx hb dX2_fletcher_22 (lv_at hl 5 rfl) ?_
          refine lv_aload_n hx hb dX2_fletcher_24 rfl (lv_at hl 0 rfl) ?_
          refine va_get (D := D) (ci := 2) (v := .ref (bd 8)) (C := RX2) (T := TX2) (N := 10) hx hb hts hinX2 hown hK hP 0 cs_R0 rfl 8 (by decide) (hts (.fieldLink RX2 32 "ChecksumLabModel" "length" "[I") (by decide +kernel)) (fun _ h9 => h9) rfl dX2_fletcher_25 ?_
          refine lv_iload_n hx hb dX2_fletcher_28 rfl (lv_at hl 1 rfl) ?_
          refine cs_iald hx hb hK hP 8 0 cs_R8 rfl (k := r) (hr4) (by decide) dX2_fletcher_29 ?_
          refine lv_icmp_ge (tgt := 67) hx hb dX2_fletcher_30 (by decide) (fun c_30 => ?_) (fun c_30 => ?_)
          · refine lv_sipush (v := 256) hx hb dX2_fletcher_67 (by decide) ?_
            refine lv_iload_n hx hb dX2_fletcher_70 rfl (lv_at hl 3 rfl) ?_
            refine lv_imul hx hb dX2_fletcher_71 ?_
            refine lv_iload_n hx hb dX2_fletcher_72 rfl (lv_at hl 2 rfl) ?_
            refine lv_iadd hx hb dX2_fletcher_73 ?_
            exact W.iret (v := (256 * ((cs_ra 255 0 (cs_by S r) i).2)) + ((cs_ra 255 0 (cs_by S r) i).1)) hx hb hr (fun t ht _ => ⟨(256 * ((cs_ra 255 0 (cs_by S r) i).2)) + ((cs_ra 255 0 (cs_by S r) i).1), (), rfl, fun _ => by unfold cs_vFle; rw [cs_cI r31, ← hi, Nat.add_zero], by rw [ht]; exact hP, by exact hD, hS9.F ht⟩) hS9.2.2 dX2_fletcher_74
          · exact absurd (nI_le (a := cs_ln S r) (b := i) (by omega) (by omega)) c_30
      | succ n ih =>
        intro i hi ls hl
        refine lv_iload hx hb dX2_fletcher_17 (lv_at hl 4 rfl) ?_
        refine cs_ifeq (tgt := 67) hx hb dX2_fletcher_19 (by decide) (fun c_19 => ?_) (fun c_19 => ?_)
        · exact absurd (c_19.symm.trans hB) (by decide)
        · refine lv_iload hx hb dX2_fletcher_22 (lv_at hl 5 rfl) ?_
          refine lv_aload_n hx hb dX2_fletcher_24 rfl (lv_at hl 0 rfl) ?_
          refine va_get (D := D) (ci := 2) (v := .ref (bd 8)) (C := RX2) (T := TX2) (N := 10) hx hb hts hinX2 hown hK hP 0 cs_R0 rfl 8 (by decide) (hts (.fieldLink RX2 32 "ChecksumLabModel" "length" "[I") (by decide +kernel)) (fun _ h9 => h9) rfl dX2_fletcher_25 ?_
          refine lv_iload_n hx hb dX2_fletcher_28 rfl (lv_at hl 1 rfl) ?_
          refine cs_iald hx hb hK hP 8 0 cs_R8 rfl (k := r) (hr4) (by decide) dX2_fletcher_29 ?_
          refine lv_icmp_ge (tgt := 67) hx hb dX2_fletcher_30 (by decide) (fun c_30 => ?_) (fun c_30 => ?_)
          · exact absurd c_30 (nI_ge (a := i) (b := cs_ln S r) (by omega) (by omega))
          · refine lv_iload_n hx hb dX2_fletcher_33 rfl (lv_at hl 2 rfl) ?_
            refine lv_aload_n hx hb dX2_fletcher_34 rfl (lv_at hl 0 rfl) ?_
            refine va_get (D := D) (ci := 2) (v := .ref (bd 7)) (C := RX2) (T := TX2) (N := 10) hx hb hts hinX2 hown hK hP 0 cs_R0 rfl 7 (by decide) (hts (.fieldLink RX2 29 "ChecksumLabModel" "bytes" "[I") (by decide +kernel)) (fun _ h9 => h9) rfl dX2_fletcher_35 ?_
            refine lv_sipush (v := 256) hx hb dX2_fletcher_38 (by decide) ?_
            refine lv_iload_n hx hb dX2_fletcher_41 rfl (lv_at hl 1 rfl) ?_
            refine lv_imul hx hb dX2_fletcher_42 ?_
            refine lv_iload hx hb dX2_fletcher_43 (lv_at hl 5 rfl) ?_
            refine lv_iadd hx hb dX2_fletcher_45 ?_
            refine cs_top (y := nI (256 * r + i)) (cs_256 r i) ?_
            refine cs_iald hx hb hK hP 7 0 cs_R7 rfl (k := 256 * r + i) (by omega) (by decide) dX2_fletcher_46 ?_
            refine cs_top (y := nI (cs_by S r i)) (congrArg nI (cs_byE (by omega))) ?_
            refine lv_iadd hx hb dX2_fletcher_47 ?_
            refine lv_sipush (v := 255) hx hb dX2_fletcher_48 (by decide) ?_
            refine lv_irem hx hb dX2_fletcher_51 (by decide) ?_
            refine cs_top (y := cs_rem (((cs_ra 255 0 (cs_by S r) i).1) + (nI (cs_by S r i))) 255) (rfl) ?_
            refine lv_istore_n (lv' := [(2, .int (cs_rem (((cs_ra 255 0 (cs_by S r) i).1) + (nI (cs_by S r i))) 255)), (0, .ref (bd 0)), (1, .int (nI r)), (3, .int ((cs_ra 255 0 (cs_by S r) i).2)), (4, .int (cs_z (cs_in (nI r) 0 3))), (5, .int (nI i))]) hx hb dX2_fletcher_52 rfl hl (by decide) rfl (fun ls hl => ?_)
            refine lv_iload_n hx hb dX2_fletcher_53 rfl (lv_at hl 3 rfl) ?_
            refine lv_iload_n hx hb dX2_fletcher_54 rfl (lv_at hl 0 rfl) ?_
            refine lv_iadd hx hb dX2_fletcher_55 ?_
            refine lv_sipush (v := 255) hx hb dX2_fletcher_56 (by decide) ?_
            refine lv_irem hx hb dX2_fletcher_59 (by decide) ?_
            refine cs_top (y := cs_rem (((cs_ra 255 0 (cs_by S r) i).2) + (cs_rem (((cs_ra 255 0 (cs_by S r) i).1) + (nI (cs_by S r i))) 255)) 255) (rfl) ?_
            refine lv_istore_n (lv' := [(3, .int (cs_rem (((cs_ra 255 0 (cs_by S r) i).2) + (cs_rem (((cs_ra 255 0 (cs_by S r) i).1) + (nI (cs_by S r i))) 255)) 255)), (2, .int (cs_rem (((cs_ra 255 0 (cs_by S r) i).1) + (nI (cs_by S r i))) 255)), (0, .ref (bd 0)), (1, .int (nI r)), (4, .int (cs_z (cs_in (nI r) 0 3))), (5, .int (nI i))]) hx hb dX2_fletcher_60 rfl hl (by decide) rfl (fun ls hl => ?_)
            refine lv_iinc (v := nI (i + 1)) (lv' := [(5, .int (nI (i + 1))), (3, .int (cs_rem (((cs_ra 255 0 (cs_by S r) i).2) + (cs_rem (((cs_ra 255 0 (cs_by S r) i).1) + (nI (cs_by S r i))) 255)) 255)), (2, .int (cs_rem (((cs_ra 255 0 (cs_by S r) i).1) + (nI (cs_by S r i))) 255)), (0, .ref (bd 0)), (1, .int (nI r)), (4, .int (cs_z (cs_in (nI r) 0 3)))]) hx hb dX2_fletcher_61 hl (k := 5) rfl (cs_inc1 i) (by decide) rfl (fun ls hl => ?_)
            refine lv_goto (tgt := 17) hx hb dX2_fletcher_64 (by decide) ?_
            exact ih (i + 1) (by omega) ls (lv_sub hl [3, 4, 2, 1, 5, 0] rfl)
    exact loop (cs_ln S r) 0 (by omega) ls (lv_sub hl [4, 5, 3, 2, 1, 0] rfl)
  · refine lv_iload hx hb dX2_fletcher_17 (lv_at hl 1 rfl) ?_
    refine cs_ifeq (tgt := 67) hx hb dX2_fletcher_19 (by decide) (fun c_19 => ?_) (fun c_19 => ?_)
    · refine lv_sipush (v := 256) hx hb dX2_fletcher_67 (by decide) ?_
      refine lv_iload_n hx hb dX2_fletcher_70 rfl (lv_at hl 2 rfl) ?_
      refine lv_imul hx hb dX2_fletcher_71 ?_
      refine lv_iload_n hx hb dX2_fletcher_72 rfl (lv_at hl 3 rfl) ?_
      refine lv_iadd hx hb dX2_fletcher_73 ?_
      exact W.iret (v := (256 * 0) + 0) hx hb hr (fun t ht _ => ⟨(256 * 0) + 0, (), rfl, fun z => absurd (cs_k1_0.mp z) (by rw [hB]; decide), by rw [ht]; exact hP, by exact hD, hS9.F ht⟩) hS9.2.2 dX2_fletcher_74
    · exact absurd (c_19.symm.trans hB) (by decide)
set_option maxHeartbeats 4000000 in
set_option maxRecDepth 100000 in
theorem k_X2_adler (l : Launch) (D : va_G) (S : cs_St) (th : Int32) (bd : Nat → Nat) (cy : Nat → ClassId) (sz : Nat) (hS : cs_ok S) (v : Int32) : cs_Mw l yX2_adler wsX2_adler ({ frames := 2, cells := 0, slots := 0, locals := 42 }) D (cs_tys cy) (cs_R S th bd cy) sz [.ref (bd 0), .int v] (fun (_ : Unit) => cs_R S (cs_k1 (cs_in v 0 3)) bd cy) (fun rr _ => cs_k1 (cs_in v 0 3) = 0 → rr = cs_vAdl S v) := by
  refine Met.ofW (cc := cX2_adler) (maxL := 6) (ret := (some .int)) (by decide) rfl ?_
  intro pg e s m args below meth c s₁ B hml hv
  obtain ⟨rfl, hsz, hE, hP, hK, hD0⟩ := hv
  subst hsz
  have hD := hD0.self (sz := s.heap.size)
  have hA : ∀ q : Nat, s.heap.size ≤ q → va_A (cs_R S th bd cy) s.heap.size q := fun q h => Or.inr h
  have hS9 : va_S (va_A (cs_R S th bd cy) s.heap.size) s.heap s.heap [] := va_S.rf
  have hx := B.exec
  have hb := B.bytes
  have hr := B.returns
  have hts := atoms_spec (ws := wsX2_adler) B.pre
  have hown : s.vm.findClass RX2 = some m.cls := findClass_of_methodNamed B.named
  have hlocks := B.notSynchronized
  have hl := lv_entry ([.ref (bd 0), .int v]) (n := 6) (Nat.le_of_ble_eq_true rfl)
  rw [lg_entry_eq]
  generalize (lg_sl ([.ref (bd 0), .int v]) ++ List.replicate (6 - (lg_sl ([.ref (bd 0), .int v])).length) Slot.unset).toArray = ls at hl ⊢
  have hl : lv_has ls 6 [(0, .ref (bd 0)), (1, .int v)] := hl
  have hinX2 : ∀ w ∈ wsX20, w ∈ wsX2_adler := fun _ h => by unfold wsX2_adler; exact List.mem_cons_of_mem _ (List.mem_append_right _ h)
  refine lv_iconst (v := 1) hx hb dX2_adler_0 (by decide) ?_
  refine lv_istore_n (lv' := [(2, .int 1), (0, .ref (bd 0)), (1, .int v)]) hx hb dX2_adler_1 rfl hl (by decide) rfl (fun ls hl => ?_)
  refine lv_iconst (v := 0) hx hb dX2_adler_2 (by decide) ?_
  refine lv_istore_n (lv' := [(3, .int 0), (2, .int 1), (0, .ref (bd 0)), (1, .int v)]) hx hb dX2_adler_3 rfl hl (by decide) rfl (fun ls hl => ?_)
  refine lv_aload_n hx hb dX2_adler_4 rfl (lv_at hl 2 rfl) ?_
  refine lv_iload_n hx hb dX2_adler_5 rfl (lv_at hl 3 rfl) ?_
  refine vp_callSi (W.runS (As := [.int v]) (rest := [.ref (bd 0)]) ⟨hx, hb, hml, hown, hts⟩ (k_X2_isRow l D S th bd cy  v) (va_cwS 1 hts gX2_adler_X2_isRow rfl rfl rfl (by decide +kernel) ⟨Nat.le_of_ble_eq_true rfl, Nat.le_of_ble_eq_true rfl⟩) ⟨cs_B.blind, cs_B.at hE cs_none hK⟩ rfl rfl hl.1 rfl (lv_room (Nat.le_of_ble_eq_true rfl)) dX2_adler_6 ⟨Nat.le_of_ble_eq_true rfl, Nat.le_of_ble_eq_true rfl⟩) (fun r_6 e_6 => ?_)
  subst e_6
  have hF := cs_inW hD hS9 hA
  refine cs_wcalli (va_runV (As := [.int (cs_z (cs_in v 0 3))]) (rest := []) ⟨hx, hb, hml, hown, hts⟩ (k_X2_asked l D S th bd cy s.heap.size (cs_in v 0 3)) (cwV 1 hts gX2_adler_X2_asked rfl rfl rfl (by decide +kernel) ⟨Nat.le_of_ble_eq_true rfl, Nat.le_of_ble_eq_true rfl⟩) ⟨cs_Bw.blind, va_recv hK hP (ci := 2) (q0 := 0) rfl rfl, cs_Bw.at hE hP hK hD⟩ rfl rfl hl.1 rfl (lv_room (Nat.le_of_ble_eq_true rfl)) dX2_adler_9 ⟨Nat.le_of_ble_eq_true rfl, Nat.le_of_ble_eq_true rfl⟩) hS9 hF (fun r_9 u9 H locs hp hP hD1 hz hk1 hS9 => ?_)
  have hP : va_P D vwCl (cs_R S (cs_k1 (cs_in v 0 3)) bd cy) H := hP
  have hD : va_D (va_A (cs_R S th bd cy) s.heap.size) (cs_R S (cs_k1 (cs_in v 0 3)) bd cy) := hD1.weaken (fun k q _ h => hF q.1 h)
  subst hp
  refine lv_istore (lv' := [(4, .int (cs_z (cs_in v 0 3))), (3, .int 0), (2, .int 1), (0, .ref (bd 0)), (1, .int v)]) hx hb dX2_adler_12 hl (by decide) rfl (fun ls hl => ?_)
  refine lv_iconst (v := 0) hx hb dX2_adler_14 (by decide) ?_
  refine lv_istore (lv' := [(5, .int 0), (4, .int (cs_z (cs_in v 0 3))), (3, .int 0), (2, .int 1), (0, .ref (bd 0)), (1, .int v)]) hx hb dX2_adler_15 hl (by decide) rfl (fun ls hl => ?_)
  rcases Bool.eq_false_or_eq_true (cs_in v 0 3) with hB | hB
  · obtain ⟨r, hr4, rfl⟩ := cs_row_of hB
    have r31 : r < 2 ^ 31 := by omega
    have hl8 := hS.2.2.1 r
    have loop : ∀ (n i : Nat), i + n = cs_ln S r → ∀ ls : Array Slot, lv_has ls 6 [(0, .ref (bd 0)), (1, .int (nI r)), (2, .int ((cs_ra 65521 1 (cs_by S r) i).1)), (3, .int ((cs_ra 65521 1 (cs_by S r) i).2)), (4, .int (cs_z (cs_in (nI r) 0 3))), (5, .int (nI i))] → W pg l e (headSpec wsX2_adler ({ frames := 2, cells := 0, slots := 0, locals := 42 })).room s m [Value.ref (bd 0), Value.int (nI r)].toArray below meth c H locs 0 0 (MQ below (cs_Qw D (cs_R S th bd cy) (fun (_ : Unit) => cs_R S (cs_k1 (cs_in (nI r) 0 3)) bd cy) (fun rr _ => cs_k1 (cs_in (nI r) 0 3) = 0 → rr = cs_vAdl S (nI r))) [Value.ref (bd 0), Value.int (nI r)].toArray s 0 0 (va_A (cs_R S th bd cy) s.heap.size)) (F0 m 17 ls []) := by
      intro n
      induction n with
      | zero =>
        intro i hi ls hl
        refine lv_iload hx hb dX2_adler_17 (lv_at hl 4 rfl) ?_
        refine cs_ifeq (tgt := 65) hx hb dX2_adler_19 (by decide) (fun c_19 => ?_) (fun c_19 => ?_)
        · exact absurd (c_19.symm.trans hB) (by decide)
        · refine lv_iload hx hb dX2_adler_22 (lv_at hl 5 rfl) ?_
          refine lv_aload_n hx hb dX2_adler_24 rfl (lv_at hl 0 rfl) ?_
          refine va_get (D := D) (ci := 2) (v := .ref (bd 8)) (C := RX2) (T := TX2) (N := 10) hx hb hts hinX2 hown hK hP 0 cs_R0 rfl 8 (by decide) (hts (.fieldLink RX2 32 "ChecksumLabModel" "length" "[I") (by decide +kernel)) (fun _ h9 => h9) rfl dX2_adler_25 ?_
          refine lv_iload_n hx hb dX2_adler_28 rfl (lv_at hl 1 rfl) ?_
          refine cs_iald hx hb hK hP 8 0 cs_R8 rfl (k := r) (hr4) (by decide) dX2_adler_29 ?_
          refine lv_icmp_ge (tgt := 65) hx hb dX2_adler_30 (by decide) (fun c_30 => ?_) (fun c_30 => ?_)
          · refine lv_iload hx hb dX2_adler_65 (lv_at hl 4 rfl) ?_
            refine cs_ifeq (tgt := 79) hx hb dX2_adler_67 (by decide) (fun c_67 => ?_) (fun c_67 => ?_)
            · exact absurd (c_67.symm.trans hB) (by decide)
            · refine lv_ldc (v := 65536) hx hb hown (hts (.constant RX2 114 65536) (by decide +kernel)) dX2_adler_70 ?_
              refine lv_iload_n hx hb dX2_adler_72 rfl (lv_at hl 3 rfl) ?_
              refine lv_imul hx hb dX2_adler_73 ?_
              refine lv_iload_n hx hb dX2_adler_74 rfl (lv_at hl 2 rfl) ?_
              refine lv_iadd hx hb dX2_adler_75 ?_
              refine lv_goto (tgt := 80) hx hb dX2_adler_76 (by decide) ?_
              exact W.iret (v := (65536 * ((cs_ra 65521 1 (cs_by S r) i).2)) + ((cs_ra 65521 1 (cs_by S r) i).1)) hx hb hr (fun t ht _ => ⟨(65536 * ((cs_ra 65521 1 (cs_by S r) i).2)) + ((cs_ra 65521 1 (cs_by S r) i).1), (), rfl, fun _ => by unfold cs_vAdl; rw [cs_cI r31, ← hi, Nat.add_zero], by rw [ht]; exact hP, by exact hD, hS9.F ht⟩) hS9.2.2 dX2_adler_80
          · exact absurd (nI_le (a := cs_ln S r) (b := i) (by omega) (by omega)) c_30
      | succ n ih =>
        intro i hi ls hl
        refine lv_iload hx hb dX2_adler_17 (lv_at hl 4 rfl) ?_
        refine cs_ifeq (tgt := 65) hx hb dX2_adler_19 (by decide) (fun c_19 => ?_) (fun c_19 => ?_)
        · exact absurd (c_19.symm.trans hB) (by decide)
        · refine lv_iload hx hb dX2_adler_22 (lv_at hl 5 rfl) ?_
          refine lv_aload_n hx hb dX2_adler_24 rfl (lv_at hl 0 rfl) ?_
          refine va_get (D := D) (ci := 2) (v := .ref (bd 8)) (C := RX2) (T := TX2) (N := 10) hx hb hts hinX2 hown hK hP 0 cs_R0 rfl 8 (by decide) (hts (.fieldLink RX2 32 "ChecksumLabModel" "length" "[I") (by decide +kernel)) (fun _ h9 => h9) rfl dX2_adler_25 ?_
          refine lv_iload_n hx hb dX2_adler_28 rfl (lv_at hl 1 rfl) ?_
          refine cs_iald hx hb hK hP 8 0 cs_R8 rfl (k := r) (hr4) (by decide) dX2_adler_29 ?_
          refine lv_icmp_ge (tgt := 65) hx hb dX2_adler_30 (by decide) (fun c_30 => ?_) (fun c_30 => ?_)
          · exact absurd c_30 (nI_ge (a := i) (b := cs_ln S r) (by omega) (by omega))
          · refine lv_iload_n hx hb dX2_adler_33 rfl (lv_at hl 2 rfl) ?_
            refine lv_aload_n hx hb dX2_adler_34 rfl (lv_at hl 0 rfl) ?_
            refine va_get (D := D) (ci := 2) (v := .ref (bd 7)) (C := RX2) (T := TX2) (N := 10) hx hb hts hinX2 hown hK hP 0 cs_R0 rfl 7 (by decide) (hts (.fieldLink RX2 29 "ChecksumLabModel" "bytes" "[I") (by decide +kernel)) (fun _ h9 => h9) rfl dX2_adler_35 ?_
            refine lv_sipush (v := 256) hx hb dX2_adler_38 (by decide) ?_
            refine lv_iload_n hx hb dX2_adler_41 rfl (lv_at hl 1 rfl) ?_
            refine lv_imul hx hb dX2_adler_42 ?_
            refine lv_iload hx hb dX2_adler_43 (lv_at hl 5 rfl) ?_
            refine lv_iadd hx hb dX2_adler_45 ?_
            refine cs_top (y := nI (256 * r + i)) (cs_256 r i) ?_
            refine cs_iald hx hb hK hP 7 0 cs_R7 rfl (k := 256 * r + i) (by omega) (by decide) dX2_adler_46 ?_
            refine cs_top (y := nI (cs_by S r i)) (congrArg nI (cs_byE (by omega))) ?_
            refine lv_iadd hx hb dX2_adler_47 ?_
            refine lv_ldc (v := 65521) hx hb hown (hts (.constant RX2 113 65521) (by decide +kernel)) dX2_adler_48 ?_
            refine lv_irem hx hb dX2_adler_50 (by decide) ?_
            refine cs_top (y := cs_rem (((cs_ra 65521 1 (cs_by S r) i).1) + (nI (cs_by S r i))) 65521) (rfl) ?_
            refine lv_istore_n (lv' := [(2, .int (cs_rem (((cs_ra 65521 1 (cs_by S r) i).1) + (nI (cs_by S r i))) 65521)), (0, .ref (bd 0)), (1, .int (nI r)), (3, .int ((cs_ra 65521 1 (cs_by S r) i).2)), (4, .int (cs_z (cs_in (nI r) 0 3))), (5, .int (nI i))]) hx hb dX2_adler_51 rfl hl (by decide) rfl (fun ls hl => ?_)
            refine lv_iload_n hx hb dX2_adler_52 rfl (lv_at hl 3 rfl) ?_
            refine lv_iload_n hx hb dX2_adler_53 rfl (lv_at hl 0 rfl) ?_
            refine lv_iadd hx hb dX2_adler_54 ?_
            refine lv_ldc (v := 65521) hx hb hown (hts (.constant RX2 113 65521) (by decide +kernel)) dX2_adler_55 ?_
            refine lv_irem hx hb dX2_adler_57 (by decide) ?_
            refine cs_top (y := cs_rem (((cs_ra 65521 1 (cs_by S r) i).2) + (cs_rem (((cs_ra 65521 1 (cs_by S r) i).1) + (nI (cs_by S r i))) 65521)) 65521) (rfl) ?_
            refine lv_istore_n (lv' := [(3, .int (cs_rem (((cs_ra 65521 1 (cs_by S r) i).2) + (cs_rem (((cs_ra 65521 1 (cs_by S r) i).1) + (nI (cs_by S r i))) 65521)) 65521)), (2, .int (cs_rem (((cs_ra 65521 1 (cs_by S r) i).1) + (nI (cs_by S r i))) 65521)), (0, .ref (bd 0)), (1, .int (nI r)), (4, .int (cs_z (cs_in (nI r) 0 3))), (5, .int (nI i))]) hx hb dX2_adler_58 rfl hl (by decide) rfl (fun ls hl => ?_)
            refine lv_iinc (v := nI (i + 1)) (lv' := [(5, .int (nI (i + 1))), (3, .int (cs_rem (((cs_ra 65521 1 (cs_by S r) i).2) + (cs_rem (((cs_ra 65521 1 (cs_by S r) i).1) + (nI (cs_by S r i))) 65521)) 65521)), (2, .int (cs_rem (((cs_ra 65521 1 (cs_by S r) i).1) + (nI (cs_by S r i))) 65521)), (0, .ref (bd 0)), (1, .int (nI r)), (4, .int (cs_z (cs_in (nI r) 0 3)))]) hx hb dX2_adler_59 hl (k := 5) rfl (cs_inc1 i) (by decide) rfl (fun ls hl => ?_)
            refine lv_goto (tgt := 17) hx hb dX2_adler_62 (by decide) ?_
            exact ih (i + 1) (by omega) ls (lv_sub hl [3, 4, 2, 1, 5, 0] rfl)
    exact loop (cs_ln S r) 0 (by omega) ls (lv_sub hl [4, 5, 3, 2, 1, 0] rfl)
  · refine lv_iload hx hb dX2_adler_17 (lv_at hl 1 rfl) ?_
    refine cs_ifeq (tgt := 65) hx hb dX2_adler_19 (by decide) (fun c_19 => ?_) (fun c_19 => ?_)
    · refine lv_iload hx hb dX2_adler_65 (lv_at hl 1 rfl) ?_
      refine cs_ifeq (tgt := 79) hx hb dX2_adler_67 (by decide) (fun c_67 => ?_) (fun c_67 => ?_)
      · refine lv_iconst (v := 0) hx hb dX2_adler_79 (by decide) ?_
        exact W.iret (v := 0) hx hb hr (fun t ht _ => ⟨0, (), rfl, fun z => absurd (cs_k1_0.mp z) (by rw [hB]; decide), by rw [ht]; exact hP, by exact hD, hS9.F ht⟩) hS9.2.2 dX2_adler_80
      · exact absurd (c_67.symm.trans hB) (by decide)
    · exact absurd (c_19.symm.trans hB) (by decide)
end
