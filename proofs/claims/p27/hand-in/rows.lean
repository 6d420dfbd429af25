section
-- ===== PART A: goes FIRST, ahead of the names: the tables' words, and 'selects' of the private methods out of them =====
/-- a private method of a class that the tables say can be made, by its rows of tables_1 -/
def lw_okq (q : MethodName × Nat) : Prop := (q.1.cls ≠ "java/lang/invoke/MethodHandle" ∧ q.1.cls ≠ "java/lang/invoke/VarHandle") ∧ Cond.instantiable q.1.cls q.2 ∈ tables_1 ∧ Cond.privateMethod q.1 ∈ tables_1 ∧ Cond.instanceMethod q.1 ∈ tables_1
theorem lw_p0 : lw_okq (⟨"java/lang/Throwable", "fillInStackTrace", "(I)Ljava/lang/Throwable;"⟩, 6) := ⟨⟨by decide +kernel, by decide +kernel⟩, List.mem_of_getElem? (i := 89) (by decide +kernel), List.mem_of_getElem? (i := 87) (by decide +kernel), List.mem_of_getElem? (i := 88) (by decide +kernel)⟩
theorem lw_p1 : lw_okq (⟨"ChecksumLab", "requireRoom", "(II)V"⟩, 4) := ⟨⟨by decide +kernel, by decide +kernel⟩, List.mem_of_getElem? (i := 10) (by decide +kernel), List.mem_of_getElem? (i := 201) (by decide +kernel), List.mem_of_getElem? (i := 202) (by decide +kernel)⟩
theorem lw_p2 : lw_okq (⟨"ChecksumLab", "requireIndex", "(II)V"⟩, 4) := ⟨⟨by decide +kernel, by decide +kernel⟩, List.mem_of_getElem? (i := 10) (by decide +kernel), List.mem_of_getElem? (i := 213) (by decide +kernel), List.mem_of_getElem? (i := 214) (by decide +kernel)⟩
theorem lw_p3 : lw_okq (⟨"ChecksumLab", "findModel", "(I)LChecksumLab$Model;"⟩, 4) := ⟨⟨by decide +kernel, by decide +kernel⟩, List.mem_of_getElem? (i := 10) (by decide +kernel), List.mem_of_getElem? (i := 235) (by decide +kernel), List.mem_of_getElem? (i := 236) (by decide +kernel)⟩
theorem lw_p4 : lw_okq (⟨"ChecksumLab", "partSum", "(LChecksumLab$Model;III)I"⟩, 4) := ⟨⟨by decide +kernel, by decide +kernel⟩, List.mem_of_getElem? (i := 10) (by decide +kernel), List.mem_of_getElem? (i := 241) (by decide +kernel), List.mem_of_getElem? (i := 242) (by decide +kernel)⟩
def lw_privs_1 : List (MethodName × Nat) := [(⟨"java/lang/Throwable", "fillInStackTrace", "(I)Ljava/lang/Throwable;"⟩, 6), (⟨"ChecksumLab", "requireRoom", "(II)V"⟩, 4), (⟨"ChecksumLab", "requireIndex", "(II)V"⟩, 4), (⟨"ChecksumLab", "findModel", "(I)LChecksumLab$Model;"⟩, 4), (⟨"ChecksumLab", "partSum", "(LChecksumLab$Model;III)I"⟩, 4)]
theorem lw_r1 : ∀ q ∈ lw_privs_1, lw_okq q := List.forall_mem_cons.mpr ⟨lw_p0, List.forall_mem_cons.mpr ⟨lw_p1, List.forall_mem_cons.mpr ⟨lw_p2, List.forall_mem_cons.mpr ⟨lw_p3, List.forall_mem_cons.mpr ⟨lw_p4, fun _ h => absurd h List.not_mem_nil⟩⟩⟩⟩⟩
def lw_privs : List (MethodName × Nat) := lw_privs_1
def lw_tbl : List Cond := k2_sels lw_privs ++ tables_1
theorem lw_privs_ok : ∀ q ∈ lw_privs, lw_okq q := lw_r1
end
section
/-! what the printed text below rests on and no printed text of this claim has: arrays of arrays -/
def va_AOA (t : FieldType) (U : State) : Prop := (Cond.arrayOver (.array t)).before #[] U = true
theorem va_AOA.use {t : FieldType} {A : Array Value} {U : State} (h : va_AOA t U) : (Cond.arrayOver (.array t)).before A U = true := h
/-! ===== BEGIN words of one list among another's, by their places ===== -/
theorem goodIn_r {big : List Cond} (ws : List Cond) (ps : List Nat) (hp : ws = ps.filterMap (fun i => big[i]?)) (h : ws.all goodWord = true) : GoodIn big ws := by
  intro w hw
  have h1 := List.all_eq_true.mp h w hw
  rw [hp] at hw
  obtain ⟨i, -, hi⟩ := List.mem_filterMap.mp hw
  have hm : w ∈ big := by first | exact List.mem_of_getElem? hi | exact List.getElem?_mem hi
  exact ⟨hm, good_of_word h1⟩
theorem goodIn_app {big a b : List Cond} (ha : GoodIn big a) (hb : GoodIn big b) : GoodIn big (a ++ b) := fun w h => (List.mem_append.mp h).elim (ha w) (hb w)
theorem goodIn_ca {big a b : List Cond} {c : Cond} (ha : GoodIn big (c :: a)) (hb : GoodIn big b) : GoodIn big (c :: (a ++ b)) := fun w h => (List.mem_cons.mp h).elim (fun e => ha w (List.mem_cons.mpr (Or.inl e))) (fun h => (List.mem_append.mp h).elim (fun h => ha w (List.mem_cons.mpr (Or.inr h))) (hb w))
theorem goodIn_sub {big ws : List Cond} (hm : ∀ w ∈ ws, w ∈ big) (h : ws.all goodWord = true) : GoodIn big ws := fun w hw => ⟨hm w hw, good_of_word (List.all_eq_true.mp h w hw)⟩
/-! ===== END ===== -/

/-! ===== BEGIN new T[n][m]: the outer array a place, the inner ones among the pooled ===== -/
/-- f, but v at every address of l -/
def vr_up {α : Type} (f : Nat → α) (l : List Nat) (v : α) : Nat → α := fun a => if a ∈ l then v else f a
theorem vr_up_in {α : Type} {f : Nat → α} {l : List Nat} {v : α} {a : Nat} (h : a ∈ l) : vr_up f l v a = v := if_pos h
theorem vr_up_ne {α : Type} {f : Nat → α} {l : List Nat} {v : α} {a : Nat} (h : a ∉ l) : vr_up f l v a = f a := if_neg h
theorem vr_rows {L l : List Nat} {f : Nat → va_E} {e : va_E} (h : ∀ a, a ∈ l → a ∉ L) : va_pl L f ++ l.map (fun a => (a, e)) = va_pl (L ++ l) (vr_up f l e) := by
  unfold va_pl
  rw [List.map_append]
  congr 1
  · apply List.map_congr_left
    intro a ha
    rw [vr_up_ne (fun q => h a q ha)]
  · apply List.map_congr_left
    intro a ha
    rw [vr_up_in ha]
theorem vr_lay {X rows : va_W} {x : Nat × va_E} {pl : va_W} {D : va_G} {cl : List vw_C} {H : Heap} (hP : va_P D cl (((X ++ pl) ++ [x]) ++ rows) H) : va_P D cl ((X ++ [x]) ++ (pl ++ rows)) H := by
  rw [List.append_assoc (X ++ pl)] at hP
  have h := va_P.swap hP
  rw [← List.append_assoc X] at h
  have h2 := va_P.swap h
  rw [List.append_assoc (X ++ [x])] at h2
  exact h2
theorem vr_layD {X rows : va_W} {x : Nat × va_E} {pl : va_W} {A : Nat → Prop} (hD : va_D A (((X ++ pl) ++ [x]) ++ rows)) : va_D A ((X ++ [x]) ++ (pl ++ rows)) := by
  rw [List.append_assoc (X ++ pl)] at hD
  have h := va_D.swap hD
  rw [← List.append_assoc X] at h
  have h2 := va_D.swap h
  rw [List.append_assoc (X ++ [x])] at h2
  exact h2
theorem vr_outer (c : ClassId) (N h0 : Nat) : ∀ i : Nat, Jvm.Free.Multi.outerC c N h0 i = arrV c N (fun j => va_rf (if j < i then some (h0 + 1 + j) else none))
  | 0 => by
    show ({ cls := c, slots := Array.replicate N .null, vm := .none } : Cell) = _
    rw [arrV_new]
    refine congrArg (arrV c N) (funext fun j => ?_)
    simp [va_rf]
  | i + 1 => by
    show (Jvm.Free.Multi.outerC c N h0 i).setSlot i (.ref (h0 + 1 + i)) = _
    rw [vr_outer c N h0 i, arrV_store]
    refine congrArg (arrV c N) (funext fun j => ?_)
    by_cases e : j = i
    · subst e
      simp [updV, va_rf]
    · by_cases h : j < i
      · simp [updV, e, h, Nat.lt_succ_of_lt h]
      · simp [updV, e, h, show ¬ j < i + 1 by omega]
section VGM
variable {p : Program} {l : Launch} {e : Env} {R : Room} {s : State} {m : MethodId} {args : Array Value} {below : List Frame} {meth : Method} {c : Code} {H : Heap} {locs : List Loc} {cells slots : Nat} {Q : State → Prop}
variable {cc : ByteArray} {pc : Nat} {ls : Array Slot} {rest : List Value} {D : va_G} {cl : List vw_C} {A : Nat → Prop} {a : Nat} {tys : List (ClassId × FieldType)} {ws : va_W} {H0 : Heap}
theorem va_mna {X : va_W} {L : List Nat} {f : Nat → va_E} {cc : ByteArray} (hexec : p.tables.exec = Jvm.exec) (hb : c.code = cc) {own : String} {index : Nat} {ty : FieldType} {cy : ClassId} (hown : s.vm.findClass own = some m.cls) (hclink : (Cond.classLink own index ("[" ++ (FieldType.array ty).toString)).before args s = true) (hover : va_AOA ty s) (harr : (Cond.arrayClass ty).before args s = true) (hcy : s.vm.findClass (FieldType.array ty).toString = some cy)
    (hK : va_K D cl tys s) (hP : va_P D cl (X ++ va_pl L f) H) (hD : va_D A (X ++ va_pl L f)) (hS : va_S A H0 H locs) (hA : ∀ q, H0.size ≤ q → A q) {n k : Int32} {N' K' : Nat} {z : vp_A} (hn : ¬ n < 0) (hk : ¬ k < 0) (hN : n.toNatClampNeg = N') (hM : k.toNatClampNeg = K')
    (hb1 : N' * 4 ≤ 536870912) (hb2 : K' * componentBytes ty ≤ 536870912) (hb3 : K' ≤ 536870912) (hdf : fits ty (defaultValue ty) = true) (hdd : (defaultValue ty).isDefault = true) (hcells : cells + (1 + N') ≤ R.cells) (hslots : slots + (N' + N' * K') ≤ R.slots) (hz : ∀ c : ClassId, Jvm.Free.Multi.innerC c K' (defaultValue ty) = vp_cell c z) (hdg : decode cc pc = .ok (.multianewarray index 2, 4))
    (kk : ∀ (q : Nat) (r : Nat → Nat) (cA : ClassId) (H1 : Heap), (∀ i j : Nat, i < N' → j < N' → r i = r j → i = j) → (∀ i : Nat, i < N' → r i ∉ L) → va_K D cl (tys ++ [(cA, .array ty)]) s →
      va_P D cl ((X ++ [(q, .inl (cA, N', .inr (.inr (.inr (.inr (fun i => if i < N' then some (r i) else none))))))]) ++ va_pl (L ++ (List.range N').map r) (vr_up f ((List.range N').map r) (.inl (cy, z)))) H1 → va_D A ((X ++ [(q, .inl (cA, N', .inr (.inr (.inr (.inr (fun i => if i < N' then some (r i) else none))))))]) ++ va_pl (L ++ (List.range N').map r) (vr_up f ((List.range N').map r) (.inl (cy, z)))) → va_S A H0 H1 locs →
      W p l e R s m args below meth c H1 locs (cells + 1 + N') (slots + N' + N' * K') Q (F0 m (pc + 4) ls (.ref q :: rest))) : W p l e R s m args below meth c H locs cells slots Q (F0 m pc ls (.int k :: .int n :: rest)) := by
  subst hN
  subst hM
  intro T hT Xs
  obtain ⟨vm₁, cA, comp, -, fA, fC, hO, -, X', step⟩ := Xs.multianewarray2F hexec hown hclink (va_AOA.use hover) harr (g := F0 m pc ls (.int k :: .int n :: rest)) rfl (by rw [hb]; exact hdg) rfl hn hk hb1 hb2 hb3 hdf hdd hcells hslots
  have ec : some cy = some comp := hcy.symm.trans fC
  cases ec
  generalize hF : Jvm.Free.Multi.fill (T.setVm vm₁) cA cy n.toNatClampNeg k.toNatClampNeg (defaultValue ty) n.toNatClampNeg = F at X' step
  have hTh : (T.setVm vm₁).heap = H := hT
  obtain ⟨f1, f2, -, -⟩ := Jvm.Free.Multi.fill_facts (T.setVm vm₁) cA cy n.toNatClampNeg k.toNatClampNeg (defaultValue ty) n.toNatClampNeg
  rw [hF, hTh] at f1 f2
  have hold : ∀ x : Nat, x < H.size → F.heap[x]? = H[x]? := fun x hx => by
    have := Jvm.Free.Multi.fill_old (T.setVm vm₁) cA cy n.toNatClampNeg k.toNatClampNeg (defaultValue ty) (a := x) (by rw [hTh]; exact hx) n.toNatClampNeg
    rw [hF, hTh] at this
    exact this
  have hrow : ∀ j : Nat, j < n.toNatClampNeg → F.heap[H.size + 1 + j]? = some (vp_cell cy z) := fun j hj => by
    have := Jvm.Free.Multi.fill_inner (T.setVm vm₁) cA cy n.toNatClampNeg k.toNatClampNeg (defaultValue ty) n.toNatClampNeg j hj
    rw [hF, hTh, hz] at this
    exact this
  have hout : Jvm.Free.Multi.outerC cA n.toNatClampNeg H.size n.toNatClampNeg = vp_cell cA (n.toNatClampNeg, .inr (.inr (.inr (.inr (fun i => if i < n.toNatClampNeg then some (H.size + 1 + i) else none))))) := by
    rw [vp_cell_q]
    exact vr_outer cA n.toNatClampNeg H.size n.toNatClampNeg
  rw [hout] at f2
  have hlt : ∀ a, a ∈ L → a < H.size := fun a ha => by
    obtain ⟨k9, hk9⟩ := va_pl_get (X := X) (f := f) ha
    exact (hP k9 _ hk9).lt
  have hnl : ∀ i : Nat, i < n.toNatClampNeg → H.size + 1 + i ∉ L := fun i _ h => by
    have := hlt _ h
    omega
  have hnm : ∀ a, a ∈ (List.range n.toNatClampNeg).map (fun i => H.size + 1 + i) → a ∉ L := fun a ha h => by
    obtain ⟨i, -, rfl⟩ := List.mem_map.mp ha
    have := hlt _ h
    omega
  have hP0 : va_P D cl (X ++ va_pl L f) F.heap := hP.kept (fun k9 x hx => hold x.1 ((hP k9 x hx).lt))
  have hP1 : va_P D cl ((X ++ va_pl L f) ++ [(H.size, .inl (cA, n.toNatClampNeg, .inr (.inr (.inr (.inr (fun i => if i < n.toNatClampNeg then some (H.size + 1 + i) else none))))))]) F.heap := hP0.app (fun k9 x hx => by
    have h0 : k9 < 1 := (List.getElem?_eq_some_iff.mp hx).1
    rw [show k9 = 0 by omega] at hx
    cases hx
    exact f2)
  have hP2 : va_P D cl (((X ++ va_pl L f) ++ [(H.size, .inl (cA, n.toNatClampNeg, .inr (.inr (.inr (.inr (fun i => if i < n.toNatClampNeg then some (H.size + 1 + i) else none))))))]) ++ ((List.range n.toNatClampNeg).map (fun i => H.size + 1 + i)).map (fun a => (a, .inl (cy, z)))) F.heap := hP1.app (fun k9 x hx => by
    obtain ⟨a, ha, rfl⟩ := List.mem_map.mp (List.mem_of_getElem? hx)
    obtain ⟨i, hi, rfl⟩ := List.mem_map.mp ha
    exact hrow i (List.mem_range.mp hi))
  have hD2 : va_D A (((X ++ va_pl L f) ++ [(H.size, .inl (cA, n.toNatClampNeg, .inr (.inr (.inr (.inr (fun i => if i < n.toNatClampNeg then some (H.size + 1 + i) else none))))))]) ++ ((List.range n.toNatClampNeg).map (fun i => H.size + 1 + i)).map (fun a => (a, .inl (cy, z)))) := by
    have hD1 := hD.push (e := .inl (cA, n.toNatClampNeg, .inr (.inr (.inr (.inr (fun i => if i < n.toNatClampNeg then some (H.size + 1 + i) else none)))))) hP rfl (hA _ hS.1)
    generalize hW1 : (X ++ va_pl L f) ++ [(H.size, .inl (cA, n.toNatClampNeg, .inr (.inr (.inr (.inr (fun i => if i < n.toNatClampNeg then some (H.size + 1 + i) else none))))))] = W1 at hD1 hP1 ⊢
    have hle : ∀ (k9 : Nat) (x : Nat × va_E), W1[k9]? = some x → x.1 ≤ H.size := fun k9 x hx => by
      rw [← hW1] at hx
      by_cases hl : k9 < (X ++ va_pl L f).length
      · rw [List.getElem?_append_left hl] at hx
        exact Nat.le_of_lt ((hP k9 x hx).lt)
      · rw [List.getElem?_append_right (by omega)] at hx
        have h0 : k9 - (X ++ va_pl L f).length < 1 := (List.getElem?_eq_some_iff.mp hx).1
        rw [show k9 - (X ++ va_pl L f).length = 0 by omega] at hx
        cases hx
        exact Nat.le_refl _
    have hr : ∀ (k9 : Nat) (x : Nat × va_E), (((List.range n.toNatClampNeg).map (fun i => H.size + 1 + i)).map (fun a => ((a, .inl (cy, z)) : Nat × va_E)))[k9]? = some x → x.1 = H.size + 1 + k9 := fun k9 x hx => by
      rw [List.getElem?_map, List.getElem?_map] at hx
      by_cases h9 : k9 < n.toNatClampNeg
      · rw [List.getElem?_range h9] at hx
        cases hx
        rfl
      · have hn0 : (List.range n.toNatClampNeg)[k9]? = none := List.getElem?_eq_none (by rw [List.length_range]; omega)
        rw [hn0] at hx
        cases hx
    refine ⟨fun i j x y hi hj hxy => ?_, fun k9 x hx => ?_⟩
    · by_cases h1 : i < W1.length <;> by_cases h2 : j < W1.length
      · rw [List.getElem?_append_left h1] at hi
        rw [List.getElem?_append_left h2] at hj
        exact hD1.1 i j x y hi hj hxy
      · rw [List.getElem?_append_left h1] at hi
        rw [List.getElem?_append_right (by omega)] at hj
        have := hle _ _ hi
        have := hr _ _ hj
        omega
      · rw [List.getElem?_append_right (by omega)] at hi
        rw [List.getElem?_append_left h2] at hj
        have := hle _ _ hj
        have := hr _ _ hi
        omega
      · rw [List.getElem?_append_right (by omega)] at hi hj
        have := hr _ _ hi
        have := hr _ _ hj
        omega
    · by_cases h1 : k9 < W1.length
      · rw [List.getElem?_append_left h1] at hx
        exact hD1.2 k9 x hx
      · rw [List.getElem?_append_right (by omega)] at hx
        have := hr _ _ hx
        exact hA _ (by have := hS.1; omega)
  have hAr : ArrOfT s cA (.array ty) := fun N9 z9 => by
    obtain ⟨-, k9, hk9, cm9, hkk9⟩ := (hO 0 0 0).1
    exact ⟨(fun q hq => by cases hq), k9, hk9, cm9, hkk9⟩
  have hK2 : va_K D cl (tys ++ [(cA, .array ty)]) s := ⟨hK.1, fun k9 x hx => by
    by_cases hl : k9 < tys.length
    · rw [List.getElem?_append_left hl] at hx
      exact hK.2 k9 x hx
    · rw [List.getElem?_append_right (by omega)] at hx
      have h0 : k9 - tys.length < 1 := (List.getElem?_eq_some_iff.mp hx).1
      rw [show k9 - tys.length = 0 by omega] at hx
      cases hx
      exact ⟨hAr, fA⟩⟩
  obtain ⟨t, a1, b1⟩ := kk H.size (fun i => H.size + 1 + i) cA F.heap (fun i j _ _ h => by have h9 : H.size + 1 + i = H.size + 1 + j := h; omega) hnl hK2 (by rw [← vr_rows hnm]; exact vr_lay hP2) (by rw [← vr_rows hnm]; exact vr_layD hD2) ⟨by rw [f1]; have := hS.1; omega, fun x h1 h2 => (hold x (Nat.lt_of_lt_of_le h1 hS.1)).trans (hS.2.1 x h1 h2), hS.2.2⟩ F rfl X'
  refine ⟨t, step t ?_, b1⟩
  have e : T.heap.size = H.size := by rw [hT]
  rw [e]
  exact a1
end VGM
/-! ===== END ===== -/

/-! ===== BEGIN exceptions that leave a method, and their catching by the caller (launches without stack traces) ===== -/
section VXA
/-! The laws vx_back, vx_callV, vx_callS, vx_callSW, vx_throw0, vx_throwS follow proofs of the library, with one case more: JvmDerived/Free/Laws.lean (Back.of_free), Shelf42/LK1.lean (callV, callS), Shelf/KitTraced.lean (throwNew0V, throwNewS). -/
/-- where a method has thrown q: the class by its name, the cell, what was written, the world -/
def vx_T (XC : String → State → State → Prop) (st : State) (q : Addr) (t : State) (mc ms : Nat) (free : Addr → Prop) : Prop :=
  ∃ (E : String) (ce : Cell) (L : List Loc), XC E st t ∧ t.heap[q]? = some ce ∧ ce.vm = .none ∧ st.vm.findClass E = some ce.cls ∧ st.WarmedH t.vm ∧ st.sameButNew ({ t with vm := st.vm } : State) L mc ms ∧ ∀ z ∈ L, free z.base
def vx_Q (Qc : Array Value → State → Outcome → State → Prop) (XC : String → State → State → Prop) (mc ms : Nat) (free : Addr → Prop) : Array Value → State → Outcome → State → Prop := fun a st o t =>
  (Qc a st o t ∧ ∃ L, FrameEnd st o t L mc ms ∧ ∀ q ∈ L, free q.base) ∨ ∃ q, o = .threw q ∧ vx_T XC st q t mc ms free
/-- a callee that returns or throws -/
def vx_Met (l : Launch) (y : MethodName) (ws : List Cond) (rm : Room) (Pc : Array Value → State → Prop) (Qc : Array Value → State → Outcome → State → Prop) (XC : String → State → State → Prop) (mc ms : Nat) (free : Addr → Prop) : Prop :=
  MetFree l y (headSpec ws rm) Pc (fun _ _ _ _ _ => True) (vx_Q Qc XC mc ms free)
def vx_Post (XC : String → State → State → Prop) (mc ms : Nat) (free : Addr → Prop) : Pt → Array Value → Addr → Pt → Prop := fun A a q B =>
  ∃ (g : JFrame) (mk : MethodId) (t : State) (L : List Loc) (E : String) (ce : Cell), B.U.heap = t.heap ∧ B.U.vm = t.vm ∧ XC E (A.U.calling g mk a) t ∧ t.heap[q]? = some ce ∧ ce.vm = .none ∧ A.U.vm.findClass E = some ce.cls ∧ B.locs = A.locs ++ L ∧ (∀ z ∈ L, free z.base) ∧ B.cells = A.cells + mc ∧ B.slots = A.slots + ms
def vx_Back (l : Launch) (R : Room) (p : Program) (e : Env) (below : List Frame) (s : State) (sargs : Array Value) (y : MethodName) (len W9 : Nat)
    (Pre : Pt → Array Value → Prop) (Post : Pt → Array Value → Option Value → Pt → Prop) (PostX : Pt → Array Value → Addr → Pt → Prop) : Prop :=
  ∀ (m : MethodId) (meth : Method) (c : Code) (A : Pt) (g : JFrame) (ig : Instr) (mk : MethodId) (a : Array Value),
    Stand p l e R s m sargs below meth c A.U A.locs A.cells A.slots → g.method = m → g.locals.size = c.maxLocals → decode c.code g.pc = .ok (ig, len) →
    2 * g.monitorRoom + (g.stack.map fun v => v.category).sum ≤ W9 → A.U.methodNamed? y = some mk → Pre A a →
    (∃ (v : Option Value) (B : Pt), Stand p l e R s m sargs below meth c B.U B.locs B.cells B.slots ∧ Post A a v B ∧
      Steps p.tables e below (doInvoke e (A.U.setTop g) [] mk a).1 (B.U.setTop { g with pc := g.pc + len, stack := v.toList ++ g.stack })) ∨
    (∃ (q : Addr) (B : Pt), Stand p l e R s m sargs below meth c B.U B.locs B.cells B.slots ∧ PostX A a q B ∧
      Steps p.tables e below (doInvoke e (A.U.setTop g) [] mk a).1 ((B.U.setTop g).pushFrame (.throwing q)))
section Payer
variable {l : Launch} {R : Room} {p : Program} {e : Env} {below : List Frame} {s : State} {sargs : Array Value} {y : MethodName} {len W9 : Nat}
theorem vx_back {ws : List Cond} {rm : Room} {Pc : Array Value → State → Prop} {Qc : Array Value → State → Outcome → State → Prop} {XC : String → State → State → Prop} {mc ms : Nat} {free : Addr → Prop} {bytes : ByteArray} {maxL : Nat} {ret : Option FieldType}
    (hM : vx_Met l y ws rm Pc Qc XC mc ms free) (hblind : FrameBlind Pc) (hrc : rm.cells = mc) (hrs : rm.slots = ms)
    (hframes : rm.frames + 1 ≤ R.frames) (hlocals : W9 + (maxL + 11) + rm.locals ≤ R.locals)
    (hws : ∀ w ∈ ws, ∀ a' U, s.WarmedH U.vm → w.before a' U = true) (hcode : Cond.code y bytes maxL ret ∈ ws) (hinit : ∀ a' U, s.WarmedH U.vm → (Cond.initialized y.cls).before a' U = true) :
    vx_Back l R p e below s sargs y len W9 (PreOf R mc ms Pc) (PostOf Qc mc ms free) (vx_Post XC mc ms free) := by
  intro m meth c A g ig mk a X hg hsize hdg hW hn hp
  have h1 : (headSpec ws rm).pre.before a A.U = true := atoms_intro fun w hw => hws w hw _ _ X.warmed
  have h2 : (Cond.code y bytes maxL ret).before a A.U = true := hws _ hcode _ _ X.warmed
  have h3 : (Cond.initialized y.cls).before a A.U = true := hinit _ _ X.warmed
  have h4 : A.cells + (headSpec ws rm).room.cells ≤ R.cells := by rw [show (headSpec ws rm).room.cells = mc from hrc]; exact hp.1
  have h5 : A.slots + (headSpec ws rm).room.slots ≤ R.slots := by rw [show (headSpec ws rm).room.slots = ms from hrs]; exact hp.2.1
  have hPc : Pc a (A.U.calling g mk a) := hblind _ _ _ _ hp.2.2
  obtain ⟨U, Ls, c0, s0⟩ := A
  dsimp only [Pt.U, Pt.locs, Pt.cells, Pt.slots] at h1 h2 h3 h4 h5 X hn hPc ⊢
  obtain ⟨methY, cY, hmY, hcY, -, hlY, -, -, -, -⟩ := Cond.code_spec hn h2
  obtain ⟨kY, hkY, -⟩ := className_of_methodNamed hn
  have hinitY : kY.init = .initialized := Cond.initialized_spec (findClass_of_methodNamed hn) hkY h3
  have h : At U g.method c below := by rw [hg]; exact X.here
  have hlocals9 : W9 + (maxL + 11) + (headSpec ws rm).room.locals ≤ R.locals := hlocals
  have happ : (headSpec ws rm).appliesLoose y e.platform (U.calling g mk a) = true :=
    Spec.appliesLoose_calling (g := g) h hdg hn hkY hinitY
      (X.room_calling (g := g) (R' := (headSpec ws rm).room) hsize hmY hcY hframes (by rw [hlY]; omega) h4 h5) h1
  obtain ⟨mid, hmid⟩ := h.above
  have hfr : (U.setTop g).frames = (.java g :: mid) ++ below := by rw [State.frames_setTop' g h.top, hmid]; rfl
  obtain ⟨o, s₂, hsteps, -, hend, hq⟩ := Steps.callFree hM p X.admits X.cas X.clock (acts := []) hfr happ hPc trivial
  have hq' : vx_Q Qc XC mc ms free a (U.calling g mk a) o s₂ := hq
  rw [State.frames_setTop' g h.top] at hend
  obtain ⟨g₀, hg0⟩ := Option.isSome_iff_exists.mp h.top
  obtain ⟨r, hr⟩ := State.topJava?_eq_some.mp hg0
  have hr' : (({ U with heap := s₂.heap, slotsUsed := s₂.slotsUsed } : State).setVm s₂.vm).frames = .java g₀ :: r := hr
  rcases hq' with ⟨hqc, L, hfe, hL⟩ | ⟨q, rfl, E, ce, L, hx, hce, hcv, hcl, hW₂, hsm, hL⟩
  · obtain ⟨⟨v, rfl⟩, hW₂, e2, q2, q3, q4, q5, q6⟩ := id hfe
    have e3 : s₂ = ({ (U.calling g mk a).setFrames s₂.frames with heap := s₂.heap, slotsUsed := s₂.slotsUsed } : State).setVm s₂.vm := by
      have : s₂ = ({ s₂ with vm := (U.calling g mk a).vm } : State).setVm s₂.vm := rfl
      rw [e2] at this
      exact this
    obtain ⟨c₂, i₂, len₂, hc₂, hd₂, hf₂⟩ := hend
    have hW' : U.WarmedH s₂.vm := hW₂
    have hcc : c₂ = c := by
      have h1 : s₂.code? g.method = U.code? g.method := by
        rw [State.code?_eq, State.code?_eq, hW'.alike.method?]
      exact Option.some.inj (hc₂.symm.trans (h1.trans h.code))
    subst hcc
    have hlen : len₂ = len := by rw [hdg] at hd₂; cases hd₂; rfl
    subst hlen
    have hs₂ : s₂ = (({ U with heap := s₂.heap, slotsUsed := s₂.slotsUsed } : State).setVm s₂.vm).setTop { g with pc := g.pc + len₂, stack := v.toList ++ g.stack } := by
      refine e3.trans ?_
      rw [hf₂, State.calling_eq h.top, State.setFrames_setFrames, State.setTop_of_frames _ hr', hr]
      rfl
    have hsame : U.sameButNew ({ U with heap := s₂.heap, slotsUsed := s₂.slotsUsed } : State) L mc ms := by
      refine ⟨?_, q2, q3, q4, q5, q6⟩
      obtain ⟨t, ht, -⟩ := State.frames_cons hr
      show ({ U with heap := s₂.heap, slotsUsed := s₂.slotsUsed } : State) = { U.setFrames U.frames with heap := s₂.heap, slotsUsed := s₂.slotsUsed }
      rw [State.setFrames_self ht]
    subst hg
    refine Or.inl ⟨v, ⟨(({ U with heap := s₂.heap, slotsUsed := s₂.slotsUsed } : State).setVm s₂.vm), Ls ++ L, c0 + mc, s0 + ms⟩,
      ⟨X.admits, X.cas, X.clock, X.frames, X.room, X.hears, X.method, X.code, (X.here.setHeapUsed s₂.heap s₂.slotsUsed).setVm hW'.alike, X.tail, State.WarmedH.trans X.warmed hW', X.limits, X.bytes, X.same.trans (hsame.setVm s.vm)⟩,
      ⟨g, mk, s₂, L, rfl, rfl, hqc, rfl, hL, rfl, rfl⟩, ?_⟩
    show Steps p.tables e below _ ((({ U with heap := s₂.heap, slotsUsed := s₂.slotsUsed } : State).setVm s₂.vm).setTop { g with pc := g.pc + len₂, stack := v.toList ++ g.stack })
    rw [← hs₂]
    exact hsteps
  · obtain ⟨e2, q2, q3, q4, q5, q6⟩ := id hsm
    have e3 : s₂ = ({ (U.calling g mk a).setFrames s₂.frames with heap := s₂.heap, slotsUsed := s₂.slotsUsed } : State).setVm s₂.vm := by
      have : s₂ = ({ s₂ with vm := (U.calling g mk a).vm } : State).setVm s₂.vm := rfl
      rw [e2] at this
      exact this
    have hf₂ : s₂.frames = .throwing q :: .java g :: U.frames.tail := hend
    have hW' : U.WarmedH s₂.vm := hW₂
    have hs₂ : s₂ = ((({ U with heap := s₂.heap, slotsUsed := s₂.slotsUsed } : State).setVm s₂.vm).setTop g).pushFrame (.throwing q) := by
      refine e3.trans ?_
      rw [hf₂, State.calling_eq h.top, State.setFrames_setFrames, State.pushFrame, State.frames_setTop _ hr', State.setTop_of_frames _ hr', State.setFrames_setFrames, hr]
      rfl
    have hsame : U.sameButNew ({ U with heap := s₂.heap, slotsUsed := s₂.slotsUsed } : State) L mc ms := by
      refine ⟨?_, q2, q3, q4, q5, q6⟩
      obtain ⟨t, ht, -⟩ := State.frames_cons hr
      show ({ U with heap := s₂.heap, slotsUsed := s₂.slotsUsed } : State) = { U.setFrames U.frames with heap := s₂.heap, slotsUsed := s₂.slotsUsed }
      rw [State.setFrames_self ht]
    subst hg
    refine Or.inr ⟨q, ⟨(({ U with heap := s₂.heap, slotsUsed := s₂.slotsUsed } : State).setVm s₂.vm), Ls ++ L, c0 + mc, s0 + ms⟩,
      ⟨X.admits, X.cas, X.clock, X.frames, X.room, X.hears, X.method, X.code, (X.here.setHeapUsed s₂.heap s₂.slotsUsed).setVm hW'.alike, X.tail, State.WarmedH.trans X.warmed hW', X.limits, X.bytes, X.same.trans (hsame.setVm s.vm)⟩,
      ⟨g, mk, s₂, L, E, ce, rfl, rfl, hx, hce, hcv, hcl, rfl, hL, rfl, rfl⟩, ?_⟩
    show Steps p.tables e below _ (((({ U with heap := s₂.heap, slotsUsed := s₂.slotsUsed } : State).setVm s₂.vm).setTop g).pushFrame (.throwing q))
    rw [← hs₂]
    exact hsteps
end Payer
section Calls
variable {p : Program} {l : Launch} {e : Env} {R : Room} {s : State} {m : MethodId} {args : Array Value} {below : List Frame} {meth : Method} {c : Code} {T : State} {locs : List Loc} {cells slots : Nat}
theorem vx_callV (X : Stand p l e R s m args below meth c T locs cells slots) (hexec : p.tables.exec = Jvm.exec) {own C : String} {index : Nat} {y : MethodName} {bytes : ByteArray} {maxL : Nat} {ret : Option FieldType}
    (hown : s.vm.findClass own = some m.cls) (hlink : (Cond.methodLink own index y).before args s = true) (hinst : (Cond.instanceMethod y).before args s = true) (hsel : (Cond.selects C y y).before args s = true)
    (hcode : (Cond.code y bytes maxL ret).before args s = true) (hy : y.cls ≠ "java/lang/invoke/MethodHandle" ∧ y.cls ≠ "java/lang/invoke/VarHandle")
    {W9 : Nat} {Pre : Pt → Array Value → Prop} {Post : Pt → Array Value → Option Value → Pt → Prop} {PostX : Pt → Array Value → Addr → Pt → Prop} (hK : vx_Back l R p e below s args y 3 W9 Pre Post PostX)
    {b : Addr} {cellB : Cell} (hcell : T.heap[b]? = some cellB) (hobj : cellB.vm.isStatics = false) (hcls : s.vm.findClass C = some cellB.cls)
    {g : JFrame} (hg : g.method = m) (hsize : g.locals.size = c.maxLocals) {argsL rest : List Value} (hlen : ∀ sig, parseMethodDescriptor y.desc = some sig → argsL.length = sig.parameters.length)
    (hstack : g.stack = argsL.reverse ++ .ref b :: rest) (hW : 2 * g.monitorRoom + (rest.map fun v => v.category).sum ≤ W9) (hdg : decode c.code g.pc = .ok (.invokevirtual index, 3))
    (hpre : ∀ vm₁, s.WarmedH vm₁ → Pre ⟨T.setVm vm₁, locs, cells, slots⟩ (Value.ref b :: argsL).toArray) :
    (∃ (v : Option Value) (vm₁ : Vm) (B : Pt), s.WarmedH vm₁ ∧ Stand p l e R s m args below meth c B.U B.locs B.cells B.slots ∧ Post ⟨T.setVm vm₁, locs, cells, slots⟩ (Value.ref b :: argsL).toArray v B ∧
      ∀ target, Steps p.tables e below (B.U.setTop { g with pc := g.pc + 3, stack := v.toList ++ rest }) target → Steps p.tables e below (T.setTop g) target) ∨
    (∃ (q : Addr) (vm₁ : Vm) (B : Pt), s.WarmedH vm₁ ∧ Stand p l e R s m args below meth c B.U B.locs B.cells B.slots ∧ PostX ⟨T.setVm vm₁, locs, cells, slots⟩ (Value.ref b :: argsL).toArray q B ∧
      Steps p.tables e below (T.setTop g) ((B.U.setTop { g with stack := rest }).pushFrame (.throwing q))) := by
  obtain ⟨mk, methM, hnamed, hmethM, hstM, habM⟩ := Cond.instanceMethod_spec hinst
  obtain ⟨methM', cM, hmethM', -, -, -, -, -, -, hsigM⟩ := Cond.code_spec hnamed hcode
  cases hmethM.symm.trans hmethM'
  obtain ⟨c2, r2, m2, q1, q2, q3, q4, kP, hkP, hkPi⟩ := Cond.selects_spec hsel
  cases hcls.symm.trans q1
  cases (State.methodFound?_of_named hnamed hy).symm.trans q2
  cases hnamed.symm.trans q3
  have hselP : selectMethod e.platform s.vm cellB.cls mk = .method mk := by rw [Launch.admits_selectMethod X.admits]; exact q4
  obtain ⟨vm₁, X₁, hstep₁⟩ := X.invokevirtual hexec hown hlink hnamed hmethM hstM hkP hkPi hy (a := b) (cell := cellB) hcell
    (fun z h => by rw [h] at hobj; cases hobj) hselP hmethM habM hkP hkPi (g := g) hg (argsL := argsL) (rest := rest) (hlen _ hsigM) hstack hdg
  rcases hK m meth c ⟨T.setVm vm₁, locs, cells, slots⟩ { g with stack := rest } (.invokevirtual index) mk (Value.ref b :: argsL).toArray X₁ hg hsize hdg hW (X₁.named hnamed) (hpre vm₁ X₁.warmed) with ⟨v, B, X', hpost, hsteps⟩ | ⟨q, B, X', hpost, hsteps⟩
  · exact Or.inl ⟨v, vm₁, B, X₁.warmed, X', hpost, fun target h => hstep₁ _ fun acts => by rw [doInvoke_state]; exact hsteps.trans h⟩
  · exact Or.inr ⟨q, vm₁, B, X₁.warmed, X', hpost, hstep₁ _ fun acts => by rw [doInvoke_state]; exact hsteps⟩
theorem vx_callS (X : Stand p l e R s m args below meth c T locs cells slots) (hexec : p.tables.exec = Jvm.exec) {own : String} {index : Nat} {y : MethodName} {bytes : ByteArray} {maxL : Nat} {ret : Option FieldType}
    (hown : s.vm.findClass own = some m.cls) (hlink : (Cond.methodLink own index y).before args s = true) (hstat : (Cond.static y).before args s = true) (hinit : (Cond.initialized y.cls).before args s = true)
    (hcode : (Cond.code y bytes maxL ret).before args s = true) (hy : y.cls ≠ "java/lang/invoke/MethodHandle" ∧ y.cls ≠ "java/lang/invoke/VarHandle")
    {W9 : Nat} {Pre : Pt → Array Value → Prop} {Post : Pt → Array Value → Option Value → Pt → Prop} {PostX : Pt → Array Value → Addr → Pt → Prop} (hK : vx_Back l R p e below s args y 3 W9 Pre Post PostX)
    {g : JFrame} (hg : g.method = m) (hsize : g.locals.size = c.maxLocals) {argsL rest : List Value} (hlen : ∀ sig, parseMethodDescriptor y.desc = some sig → argsL.length = sig.parameters.length)
    (hstack : g.stack = argsL.reverse ++ rest) (hW : 2 * g.monitorRoom + (rest.map fun v => v.category).sum ≤ W9) (hdg : decode c.code g.pc = .ok (.invokestatic index, 3))
    (hpre : ∀ vm₁, s.WarmedH vm₁ → Pre ⟨T.setVm vm₁, locs, cells, slots⟩ argsL.toArray) :
    (∃ (v : Option Value) (vm₁ : Vm) (B : Pt), s.WarmedH vm₁ ∧ Stand p l e R s m args below meth c B.U B.locs B.cells B.slots ∧ Post ⟨T.setVm vm₁, locs, cells, slots⟩ argsL.toArray v B ∧
      ∀ target, Steps p.tables e below (B.U.setTop { g with pc := g.pc + 3, stack := v.toList ++ rest }) target → Steps p.tables e below (T.setTop g) target) ∨
    (∃ (q : Addr) (vm₁ : Vm) (B : Pt), s.WarmedH vm₁ ∧ Stand p l e R s m args below meth c B.U B.locs B.cells B.slots ∧ PostX ⟨T.setVm vm₁, locs, cells, slots⟩ argsL.toArray q B ∧
      Steps p.tables e below (T.setTop g) ((B.U.setTop { g with stack := rest }).pushFrame (.throwing q))) := by
  obtain ⟨mk, hnamed⟩ := Cond.code_named hcode
  obtain ⟨methM, cM, hmethM, -, -, -, -, -, -, hsigM⟩ := Cond.code_spec hnamed hcode
  have hstatic : methM.isStatic = true := Cond.static_spec hnamed hmethM hstat
  obtain ⟨kP, hkP, -⟩ := className_of_methodNamed hnamed
  have hinitP : kP.init = .initialized := Cond.initialized_spec (findClass_of_methodNamed hnamed) hkP hinit
  obtain ⟨vm₁, X₁, hstep₁⟩ := X.invokestatic hexec hown hlink hnamed hmethM hstatic hkP hinitP hy (g := g) hg (argsL := argsL) (rest := rest) (hlen _ hsigM) hstack hdg
  rcases hK m meth c ⟨T.setVm vm₁, locs, cells, slots⟩ { g with stack := rest } (.invokestatic index) mk argsL.toArray X₁ hg hsize hdg hW (X₁.named hnamed) (hpre vm₁ X₁.warmed) with ⟨v, B, X', hpost, hsteps⟩ | ⟨q, B, X', hpost, hsteps⟩
  · exact Or.inl ⟨v, vm₁, B, X₁.warmed, X', hpost, fun target h => hstep₁ _ fun acts => by rw [doInvoke_state]; exact hsteps.trans h⟩
  · exact Or.inr ⟨q, vm₁, B, X₁.warmed, X', hpost, hstep₁ _ fun acts => by rw [doInvoke_state]; exact hsteps⟩
end Calls
theorem vx_cls {s : State} {T : State} {vm₁ : Vm} {E : String} {k : ClassId} (hW : s.WarmedH vm₁) (h : (T.setVm vm₁).vm.findClass E = some k) : s.vm.findClass E = some k := by
  have h1 : vm₁.findClass E = some k := h
  rw [hW.alike.findClass] at h1
  exact h1
/-- the method's frame g, with q thrown over it -/
def vx_W (p : Program) (l : Launch) (e : Env) (R : Room) (s : State) (m : MethodId) (args : Array Value) (below : List Frame) (meth : Method) (c : Code) (H : Heap) (locs : List Loc) (cells slots : Nat) (Q : State → Prop) (g : JFrame) (q : Addr) : Prop :=
  ∀ T : State, T.heap = H → Stand p l e R s m args below meth c T locs cells slots → ∃ t, Steps p.tables e below ((T.setTop g).pushFrame (.throwing q)) t ∧ Q t
def vx_Run (p : Program) (l : Launch) (e : Env) (R : Room) (s : State) (m : MethodId) (args : Array Value) (below : List Frame) (meth : Method) (c : Code) (H : Heap) (locs : List Loc) (cells slots mc ms : Nat) (g : JFrame) (rest : List Value) (Qa : State → Outcome → State → Prop) (XC : String → State → State → Prop) (free : Addr → Prop) : Prop :=
  ∀ T : State, T.heap = H → Stand p l e R s m args below meth c T locs cells slots →
    (∃ (v : Option Value) (st₀ t T' : State) (L : List Loc), st₀.heap = H ∧ Stand p l e R s m args below meth c T' (locs ++ L) (cells + mc) (slots + ms) ∧ (∀ q ∈ L, free q.base) ∧ T'.heap = t.heap ∧ T'.vm = t.vm ∧ Qa st₀ (.returned v) t ∧
      Goes p e below T g T' { g with pc := g.pc + 3, stack := v.toList ++ rest }) ∨
    (∃ (q : Addr) (st₀ t T' : State) (L : List Loc) (E : String) (ce : Cell), st₀.heap = H ∧ Stand p l e R s m args below meth c T' (locs ++ L) (cells + mc) (slots + ms) ∧ (∀ z ∈ L, free z.base) ∧ T'.heap = t.heap ∧ T'.vm = t.vm ∧ XC E st₀ t ∧ t.heap[q]? = some ce ∧ ce.vm = .none ∧ s.vm.findClass E = some ce.cls ∧
      Steps p.tables e below (T.setTop g) ((T'.setTop { g with stack := rest }).pushFrame (.throwing q)))
def vx_X {S : Type} (px : S → Prop) (B : String → S → State → Prop) (A : Nat → Prop) : String → State → State → Prop := fun E st t => ∃ u : S, px u ∧ B E u t ∧ va_F A st t
section Runs
variable {p : Program} {l : Launch} {e : Env} {R : Room} {s : State} {m : MethodId} {args : Array Value} {below : List Frame} {meth : Method} {c : Code} {H : Heap} {locs : List Loc} {cells slots : Nat}
variable {y : MethodName} {bytes cc : ByteArray} {maxL nL mc ms n index : Nat} {ret : Option FieldType} {ws : List Cond} {rm : Room} {Pc : Array Value → State → Prop} {Qc : Array Value → State → Outcome → State → Prop} {XC : String → State → State → Prop} {free : Addr → Prop} {Ts : List Cond} {own C : String} {b : Addr} {As rest : List Value} {g : JFrame}
theorem vx_callBack (cb : CallB R s args own index y bytes maxL ret ws rm mc ms n) (hM : vx_Met l y ws rm Pc Qc XC mc ms free) (hbl : FrameBlind Pc) : vx_Back l R p e below s args y 3 8 (PreOf R mc ms Pc) (PostOf Qc mc ms free) (vx_Post XC mc ms free) := by
  obtain ⟨hrc, hrs, hfr, hlo, hws, hcw, -, hini, -⟩ := cb
  exact vx_back (bytes := bytes) (maxL := maxL) (ret := ret) hM hbl hrc hrs hfr hlo hws hcw (fun a' U hW => word_at hW (Or.inl (by first | rfl | simp [Cond.onTables, Cond.keeps, Cond.steady])) hini)
theorem vx_runV (S : CallFix p m c cc nL s args Ts own) (hM : vx_Met l y ws rm Pc Qc XC mc ms free) (cw : CallW R s args own C index y bytes maxL ret ws rm mc ms n) (hp : PreV s H C b Pc As)
    (hg : g.method = m) (hn : As.length = n) (hsize : g.locals.size = nL) (hstack : g.stack = As.reverse ++ .ref b :: rest) (hW : 2 * g.monitorRoom + (rest.map fun v => v.category).sum ≤ 8) (hdg : decode cc g.pc = .ok (.invokevirtual index, 3)) (hf : cells + mc ≤ R.cells ∧ slots + ms ≤ R.slots) :
    vx_Run p l e R s m args below meth c H locs cells slots mc ms g rest (Qc (Value.ref b :: As).toArray) XC free := by
  have hK : vx_Back l R p e below s args y 3 8 (PreOf R mc ms Pc) (PostOf Qc mc ms free) (vx_Post XC mc ms free) := vx_callBack cw.1 hM hp.1
  obtain ⟨⟨-, -, -, -, -, -, hcode, -, hy, hlen, hl⟩, hin, hse⟩ := cw
  obtain ⟨hx, hb, hml, ho, -⟩ := S
  obtain ⟨-, ⟨cellB, hcB, hoB, hclB⟩, hPc⟩ := hp
  intro T hT X
  rcases vx_callV X hx (C := C) (bytes := bytes) (maxL := maxL) (ret := ret) ho hl hin hse hcode hy hK (by rw [hT]; exact hcB) hoB hclB hg (hsize.trans hml.symm) (argsL := As) (rest := rest) (fun sig h => hn.trans (hlen sig h)) hstack hW (by rw [hb]; exact hdg)
    (fun vm₁ hW₁ => ⟨hf.1, hf.2, hPc (T.setVm vm₁) hT hW₁⟩) with ⟨v, vm₁, ⟨U', l2, c2, s2⟩, hW₁, X', ⟨g', mk, t, L, e1, e2, hq, h1, hL, h2, h3⟩, st⟩ | ⟨q, vm₁, ⟨U', l2, c2, s2⟩, hW₁, X', ⟨g', mk, t, L, E, ce, e1, e2, hq, hce, hcv, hcl, h1, hL, h2, h3⟩, st⟩
  · dsimp only [Pt.U, Pt.locs, Pt.cells, Pt.slots] at X' e1 e2 h1 h2 h3 st
    subst h1; subst h2; subst h3
    exact Or.inl ⟨v, (T.setVm vm₁).calling g' mk (Value.ref b :: As).toArray, t, U', L, hT, X', hL, e1, e2, hq, st⟩
  · dsimp only [Pt.U, Pt.locs, Pt.cells, Pt.slots] at X' e1 e2 h1 h2 h3 st hcl
    subst h1; subst h2; subst h3
    exact Or.inr ⟨q, (T.setVm vm₁).calling g' mk (Value.ref b :: As).toArray, t, U', L, E, ce, hT, X', hL, e1, e2, hq, hce, hcv, vx_cls hW₁ hcl, st⟩
theorem vx_runS (S : CallFix p m c cc nL s args Ts own) (hM : vx_Met l y ws rm Pc Qc XC mc ms free) (cw : CallB R s args own index y bytes maxL ret ws rm mc ms n ∧ (Cond.static y).before args s = true) (hp : PreS s H Pc As)
    (hg : g.method = m) (hn : As.length = n) (hsize : g.locals.size = nL) (hstack : g.stack = As.reverse ++ rest) (hW : 2 * g.monitorRoom + (rest.map fun v => v.category).sum ≤ 8) (hdg : decode cc g.pc = .ok (.invokestatic index, 3)) (hf : cells + mc ≤ R.cells ∧ slots + ms ≤ R.slots) :
    vx_Run p l e R s m args below meth c H locs cells slots mc ms g rest (Qc As.toArray) XC free := by
  have hK : vx_Back l R p e below s args y 3 8 (PreOf R mc ms Pc) (PostOf Qc mc ms free) (vx_Post XC mc ms free) := vx_callBack cw.1 hM hp.1
  obtain ⟨⟨-, -, -, -, -, -, hcode, hini, hy, hlen, hl⟩, hstt⟩ := cw
  obtain ⟨hx, hb, hml, ho, -⟩ := S
  intro T hT X
  rcases vx_callS X hx (bytes := bytes) (maxL := maxL) (ret := ret) ho hl hstt hini hcode hy hK hg (hsize.trans hml.symm) (argsL := As) (rest := rest) (fun sig h => hn.trans (hlen sig h)) hstack hW (by rw [hb]; exact hdg)
    (fun vm₁ hW₁ => ⟨hf.1, hf.2, hp.2 (T.setVm vm₁) hT hW₁⟩) with ⟨v, vm₁, ⟨U', l2, c2, s2⟩, hW₁, X', ⟨g', mk, t, L, e1, e2, hq, h1, hL, h2, h3⟩, st⟩ | ⟨q, vm₁, ⟨U', l2, c2, s2⟩, hW₁, X', ⟨g', mk, t, L, E, ce, e1, e2, hq, hce, hcv, hcl, h1, hL, h2, h3⟩, st⟩
  · dsimp only [Pt.U, Pt.locs, Pt.cells, Pt.slots] at X' e1 e2 h1 h2 h3 st
    subst h1; subst h2; subst h3
    exact Or.inl ⟨v, (T.setVm vm₁).calling g' mk As.toArray, t, U', L, hT, X', hL, e1, e2, hq, st⟩
  · dsimp only [Pt.U, Pt.locs, Pt.cells, Pt.slots] at X' e1 e2 h1 h2 h3 st hcl
    subst h1; subst h2; subst h3
    exact Or.inr ⟨q, (T.setVm vm₁).calling g' mk As.toArray, t, U', L, E, ce, hT, X', hL, e1, e2, hq, hce, hcv, vx_cls hW₁ hcl, st⟩
end Runs
section Rows
variable {p : Program} {l : Launch} {e : Env} {R : Room} {s : State} {m : MethodId} {args : Array Value} {below : List Frame} {meth : Method} {c : Code} {H : Heap} {locs : List Loc} {cells slots : Nat} {Q : State → Prop}
variable {mc ms : Nat} {free : Addr → Prop} {A0 A1 : Nat → Prop} {H0 : Heap} {a : Array Value} {pc : Nat} {ls : Array Slot} {st0 rest : List Value}
theorem vx_keep {st₀ t T' : State} {L : List Loc} (h0 : st₀.heap = H) (e1 : T'.heap = t.heap) (hS : va_S A0 H0 H locs) (hA : ∀ q, q < H.size → A1 q → A0 q) (hf : ∀ q, free q → A0 q) (hL : ∀ q ∈ L, free q.base) (hF : va_F A1 st₀ t) :
    H.size ≤ T'.heap.size ∧ (∀ q : Nat, q < H.size → ¬ A1 q → T'.heap[q]? = H[q]?) ∧ va_S A0 H0 T'.heap (locs ++ L) := by
  obtain ⟨hz, hk⟩ := hF
  rw [h0] at hz hk
  exact ⟨by rw [e1]; exact hz, fun q h1 h2 => by rw [e1]; exact hk q h1 h2,
    ⟨Nat.le_trans hS.1 (by rw [e1]; exact hz), fun q h1 h2 => by rw [e1, hk q (Nat.lt_of_lt_of_le h1 hS.1) (fun z => h2 (hA q (Nat.lt_of_lt_of_le h1 hS.1) z))]; exact hS.2.1 q h1 h2, fun q hq => by
      rcases List.mem_append.mp hq with h | h
      · exact hS.2.2 q h
      · exact hf _ (hL q h)⟩⟩
theorem vx_calli {S SX : Type} {post : Int32 → S → Prop} {px : SX → Prop} {B : S → State → Prop} {BX : String → SX → State → Prop} {AX : Nat → Prop} (hr : vx_Run p l e R s m args below meth c H locs cells slots mc ms (F0 m pc ls st0) rest (va_Qi post B A1 a) (vx_X px BX AX) free) (hS : va_S A0 H0 H locs) (hA : ∀ q, q < H.size → A1 q → A0 q) (hf : ∀ q, free q → A0 q) (hAX : ∀ q, q < H.size → AX q → A0 q)
    (kx : ∀ (E : String) (ce : Cell) (q9 : Addr) (u : SX) (t : State) (H1 : Heap) (locs1 : List Loc), t.heap = H1 → s.vm.Alike t.vm → px u → BX E u t → H.size ≤ H1.size → (∀ q : Nat, q < H.size → ¬ AX q → H1[q]? = H[q]?) → va_S A0 H0 H1 locs1 → H1[q9]? = some ce → ce.vm = .none → s.vm.findClass E = some ce.cls → vx_W p l e R s m args below meth c H1 locs1 (cells + mc) (slots + ms) Q (F0 m pc ls rest) q9)
    (kk : ∀ (r : Int32) (u : S) (t : State) (H1 : Heap) (locs1 : List Loc), t.heap = H1 → s.vm.Alike t.vm → post r u → B u t → H.size ≤ H1.size → (∀ q : Nat, q < H.size → ¬ A1 q → H1[q]? = H[q]?) → va_S A0 H0 H1 locs1 → W p l e R s m args below meth c H1 locs1 (cells + mc) (slots + ms) Q (F0 m (pc + 3) ls (.int r :: rest))) : W p l e R s m args below meth c H locs cells slots Q (F0 m pc ls st0) := by
  intro T hT X
  rcases hr T hT X with ⟨v, st₀, t, T', L, h0, X', hL, e1, e2, ⟨⟨r, u, hv, hp, hb⟩, hF⟩, st⟩ | ⟨q, st₀, t, T', L, E, ce, h0, X', hL, e1, e2, ⟨u, hp, hb, hF⟩, hce, hcv, hcl, st⟩
  · cases hv
    obtain ⟨k1, k2, k3⟩ := vx_keep h0 e1 hS hA hf hL hF
    obtain ⟨t2, a1, b1⟩ := kk r u t T'.heap (locs ++ L) e1.symm (by rw [← e2]; exact X'.warmed.alike) hp hb k1 k2 k3 T' rfl X'
    exact ⟨t2, st t2 a1, b1⟩
  · obtain ⟨k1, k2, k3⟩ := vx_keep h0 e1 hS hAX hf hL hF
    obtain ⟨t2, a1, b1⟩ := kx E ce q u t T'.heap (locs ++ L) e1.symm (by rw [← e2]; exact X'.warmed.alike) hp hb k1 k2 k3 (by rw [e1]; exact hce) hcv hcl T' rfl X'
    exact ⟨t2, st.trans a1, b1⟩
theorem vx_calll {S SX : Type} {post : Int64 → S → Prop} {px : SX → Prop} {B : S → State → Prop} {BX : String → SX → State → Prop} {AX : Nat → Prop} (hr : vx_Run p l e R s m args below meth c H locs cells slots mc ms (F0 m pc ls st0) rest (va_Ql post B A1 a) (vx_X px BX AX) free) (hS : va_S A0 H0 H locs) (hA : ∀ q, q < H.size → A1 q → A0 q) (hf : ∀ q, free q → A0 q) (hAX : ∀ q, q < H.size → AX q → A0 q)
    (kx : ∀ (E : String) (ce : Cell) (q9 : Addr) (u : SX) (t : State) (H1 : Heap) (locs1 : List Loc), t.heap = H1 → s.vm.Alike t.vm → px u → BX E u t → H.size ≤ H1.size → (∀ q : Nat, q < H.size → ¬ AX q → H1[q]? = H[q]?) → va_S A0 H0 H1 locs1 → H1[q9]? = some ce → ce.vm = .none → s.vm.findClass E = some ce.cls → vx_W p l e R s m args below meth c H1 locs1 (cells + mc) (slots + ms) Q (F0 m pc ls rest) q9)
    (kk : ∀ (r : Int64) (u : S) (t : State) (H1 : Heap) (locs1 : List Loc), t.heap = H1 → s.vm.Alike t.vm → post r u → B u t → H.size ≤ H1.size → (∀ q : Nat, q < H.size → ¬ A1 q → H1[q]? = H[q]?) → va_S A0 H0 H1 locs1 → W p l e R s m args below meth c H1 locs1 (cells + mc) (slots + ms) Q (F0 m (pc + 3) ls (.long r :: rest))) : W p l e R s m args below meth c H locs cells slots Q (F0 m pc ls st0) := by
  intro T hT X
  rcases hr T hT X with ⟨v, st₀, t, T', L, h0, X', hL, e1, e2, ⟨⟨r, u, hv, hp, hb⟩, hF⟩, st⟩ | ⟨q, st₀, t, T', L, E, ce, h0, X', hL, e1, e2, ⟨u, hp, hb, hF⟩, hce, hcv, hcl, st⟩
  · cases hv
    obtain ⟨k1, k2, k3⟩ := vx_keep h0 e1 hS hA hf hL hF
    obtain ⟨t2, a1, b1⟩ := kk r u t T'.heap (locs ++ L) e1.symm (by rw [← e2]; exact X'.warmed.alike) hp hb k1 k2 k3 T' rfl X'
    exact ⟨t2, st t2 a1, b1⟩
  · obtain ⟨k1, k2, k3⟩ := vx_keep h0 e1 hS hAX hf hL hF
    obtain ⟨t2, a1, b1⟩ := kx E ce q u t T'.heap (locs ++ L) e1.symm (by rw [← e2]; exact X'.warmed.alike) hp hb k1 k2 k3 (by rw [e1]; exact hce) hcv hcl T' rfl X'
    exact ⟨t2, st.trans a1, b1⟩
theorem vx_callf {S SX : Type} {post : UInt32 → S → Prop} {px : SX → Prop} {B : S → State → Prop} {BX : String → SX → State → Prop} {AX : Nat → Prop} (hr : vx_Run p l e R s m args below meth c H locs cells slots mc ms (F0 m pc ls st0) rest (va_Qf post B A1 a) (vx_X px BX AX) free) (hS : va_S A0 H0 H locs) (hA : ∀ q, q < H.size → A1 q → A0 q) (hf : ∀ q, free q → A0 q) (hAX : ∀ q, q < H.size → AX q → A0 q)
    (kx : ∀ (E : String) (ce : Cell) (q9 : Addr) (u : SX) (t : State) (H1 : Heap) (locs1 : List Loc), t.heap = H1 → s.vm.Alike t.vm → px u → BX E u t → H.size ≤ H1.size → (∀ q : Nat, q < H.size → ¬ AX q → H1[q]? = H[q]?) → va_S A0 H0 H1 locs1 → H1[q9]? = some ce → ce.vm = .none → s.vm.findClass E = some ce.cls → vx_W p l e R s m args below meth c H1 locs1 (cells + mc) (slots + ms) Q (F0 m pc ls rest) q9)
    (kk : ∀ (r : UInt32) (u : S) (t : State) (H1 : Heap) (locs1 : List Loc), t.heap = H1 → s.vm.Alike t.vm → post r u → B u t → H.size ≤ H1.size → (∀ q : Nat, q < H.size → ¬ A1 q → H1[q]? = H[q]?) → va_S A0 H0 H1 locs1 → W p l e R s m args below meth c H1 locs1 (cells + mc) (slots + ms) Q (F0 m (pc + 3) ls (.float r :: rest))) : W p l e R s m args below meth c H locs cells slots Q (F0 m pc ls st0) := by
  intro T hT X
  rcases hr T hT X with ⟨v, st₀, t, T', L, h0, X', hL, e1, e2, ⟨⟨r, u, hv, hp, hb⟩, hF⟩, st⟩ | ⟨q, st₀, t, T', L, E, ce, h0, X', hL, e1, e2, ⟨u, hp, hb, hF⟩, hce, hcv, hcl, st⟩
  · cases hv
    obtain ⟨k1, k2, k3⟩ := vx_keep h0 e1 hS hA hf hL hF
    obtain ⟨t2, a1, b1⟩ := kk r u t T'.heap (locs ++ L) e1.symm (by rw [← e2]; exact X'.warmed.alike) hp hb k1 k2 k3 T' rfl X'
    exact ⟨t2, st t2 a1, b1⟩
  · obtain ⟨k1, k2, k3⟩ := vx_keep h0 e1 hS hAX hf hL hF
    obtain ⟨t2, a1, b1⟩ := kx E ce q u t T'.heap (locs ++ L) e1.symm (by rw [← e2]; exact X'.warmed.alike) hp hb k1 k2 k3 (by rw [e1]; exact hce) hcv hcl T' rfl X'
    exact ⟨t2, st.trans a1, b1⟩
theorem vx_calld {S SX : Type} {post : UInt64 → S → Prop} {px : SX → Prop} {B : S → State → Prop} {BX : String → SX → State → Prop} {AX : Nat → Prop} (hr : vx_Run p l e R s m args below meth c H locs cells slots mc ms (F0 m pc ls st0) rest (va_Qd post B A1 a) (vx_X px BX AX) free) (hS : va_S A0 H0 H locs) (hA : ∀ q, q < H.size → A1 q → A0 q) (hf : ∀ q, free q → A0 q) (hAX : ∀ q, q < H.size → AX q → A0 q)
    (kx : ∀ (E : String) (ce : Cell) (q9 : Addr) (u : SX) (t : State) (H1 : Heap) (locs1 : List Loc), t.heap = H1 → s.vm.Alike t.vm → px u → BX E u t → H.size ≤ H1.size → (∀ q : Nat, q < H.size → ¬ AX q → H1[q]? = H[q]?) → va_S A0 H0 H1 locs1 → H1[q9]? = some ce → ce.vm = .none → s.vm.findClass E = some ce.cls → vx_W p l e R s m args below meth c H1 locs1 (cells + mc) (slots + ms) Q (F0 m pc ls rest) q9)
    (kk : ∀ (r : UInt64) (u : S) (t : State) (H1 : Heap) (locs1 : List Loc), t.heap = H1 → s.vm.Alike t.vm → post r u → B u t → H.size ≤ H1.size → (∀ q : Nat, q < H.size → ¬ A1 q → H1[q]? = H[q]?) → va_S A0 H0 H1 locs1 → W p l e R s m args below meth c H1 locs1 (cells + mc) (slots + ms) Q (F0 m (pc + 3) ls (.double r :: rest))) : W p l e R s m args below meth c H locs cells slots Q (F0 m pc ls st0) := by
  intro T hT X
  rcases hr T hT X with ⟨v, st₀, t, T', L, h0, X', hL, e1, e2, ⟨⟨r, u, hv, hp, hb⟩, hF⟩, st⟩ | ⟨q, st₀, t, T', L, E, ce, h0, X', hL, e1, e2, ⟨u, hp, hb, hF⟩, hce, hcv, hcl, st⟩
  · cases hv
    obtain ⟨k1, k2, k3⟩ := vx_keep h0 e1 hS hA hf hL hF
    obtain ⟨t2, a1, b1⟩ := kk r u t T'.heap (locs ++ L) e1.symm (by rw [← e2]; exact X'.warmed.alike) hp hb k1 k2 k3 T' rfl X'
    exact ⟨t2, st t2 a1, b1⟩
  · obtain ⟨k1, k2, k3⟩ := vx_keep h0 e1 hS hAX hf hL hF
    obtain ⟨t2, a1, b1⟩ := kx E ce q u t T'.heap (locs ++ L) e1.symm (by rw [← e2]; exact X'.warmed.alike) hp hb k1 k2 k3 (by rw [e1]; exact hce) hcv hcl T' rfl X'
    exact ⟨t2, st.trans a1, b1⟩
theorem vx_callv {S SX : Type} {post : S → Prop} {px : SX → Prop} {B : S → State → Prop} {BX : String → SX → State → Prop} {AX : Nat → Prop} (hr : vx_Run p l e R s m args below meth c H locs cells slots mc ms (F0 m pc ls st0) rest (va_Qv post B A1 a) (vx_X px BX AX) free) (hS : va_S A0 H0 H locs) (hA : ∀ q, q < H.size → A1 q → A0 q) (hf : ∀ q, free q → A0 q) (hAX : ∀ q, q < H.size → AX q → A0 q)
    (kx : ∀ (E : String) (ce : Cell) (q9 : Addr) (u : SX) (t : State) (H1 : Heap) (locs1 : List Loc), t.heap = H1 → s.vm.Alike t.vm → px u → BX E u t → H.size ≤ H1.size → (∀ q : Nat, q < H.size → ¬ AX q → H1[q]? = H[q]?) → va_S A0 H0 H1 locs1 → H1[q9]? = some ce → ce.vm = .none → s.vm.findClass E = some ce.cls → vx_W p l e R s m args below meth c H1 locs1 (cells + mc) (slots + ms) Q (F0 m pc ls rest) q9)
    (kk : ∀ (u : S) (t : State) (H1 : Heap) (locs1 : List Loc), t.heap = H1 → s.vm.Alike t.vm → post u → B u t → H.size ≤ H1.size → (∀ q : Nat, q < H.size → ¬ A1 q → H1[q]? = H[q]?) → va_S A0 H0 H1 locs1 → W p l e R s m args below meth c H1 locs1 (cells + mc) (slots + ms) Q (F0 m (pc + 3) ls (rest))) : W p l e R s m args below meth c H locs cells slots Q (F0 m pc ls st0) := by
  intro T hT X
  rcases hr T hT X with ⟨v, st₀, t, T', L, h0, X', hL, e1, e2, ⟨⟨u, hv, hp, hb⟩, hF⟩, st⟩ | ⟨q, st₀, t, T', L, E, ce, h0, X', hL, e1, e2, ⟨u, hp, hb, hF⟩, hce, hcv, hcl, st⟩
  · cases hv
    obtain ⟨k1, k2, k3⟩ := vx_keep h0 e1 hS hA hf hL hF
    obtain ⟨t2, a1, b1⟩ := kk u t T'.heap (locs ++ L) e1.symm (by rw [← e2]; exact X'.warmed.alike) hp hb k1 k2 k3 T' rfl X'
    exact ⟨t2, st t2 a1, b1⟩
  · obtain ⟨k1, k2, k3⟩ := vx_keep h0 e1 hS hAX hf hL hF
    obtain ⟨t2, a1, b1⟩ := kx E ce q u t T'.heap (locs ++ L) e1.symm (by rw [← e2]; exact X'.warmed.alike) hp hb k1 k2 k3 (by rw [e1]; exact hce) hcv hcl T' rfl X'
    exact ⟨t2, st.trans a1, b1⟩
/-- caught by the row x of this method's table; the rows ahead don't take it -/
theorem vx_catch {own name : String} {E : String} {ce : Cell} {q : Addr} (hown : s.vm.findClass own = some m.cls) (pre : List ExceptionTableEntry) (x : ExceptionTableEntry) (suf : List ExceptionTableEntry) (hsplit : c.exceptionTable.toList = pre ++ x :: suf)
    (hpass : ∀ z ∈ pre, covers z pc = false ∨ (z.catchType ≠ 0 ∧ ∃ nm : String, (Cond.classLink own z.catchType nm).before args s = true ∧ va_Nc E nm s)) (hx : covers x pc = true) (h0 : x.catchType ≠ 0)
    (hlink : (Cond.classLink own x.catchType name).before args s = true) (hcast : (Cond.castable E name).before args s = true) (hcell : H[q]? = some ce) (hv : ce.vm = .none) (hcl : s.vm.findClass E = some ce.cls)
    (kk : W p l e R s m args below meth c H locs cells slots Q (F0 m x.handlerPc ls [.ref q])) : vx_W p l e R s m args below meth c H locs cells slots Q (F0 m pc ls rest) q := by
  intro T hT X
  have hpl : e.platform.magicAccessors = ({} : Platform).magicAccessors := by rw [X.admits.platform]
  obtain ⟨c3, c4, hc3, hc4, hasg⟩ := Cond.castable_spec hcast
  cases Option.some.inj (hc3.symm.trans hcl)
  obtain ⟨c5, hc5, hcl5⟩ := Cond.classLink_spec hown hlink e.platform hpl
  cases Option.some.inj (hc4.symm.trans hc5)
  obtain ⟨vm', X', st⟩ := X.thenCaughtThrough q (g := F0 m pc ls rest) rfl (Steps.refl _) (by rw [hT]; exact hcell) (by rw [hv]; rfl) (by obtain ⟨k9, h9, -⟩ := Vm.findClass_spec hcl; exact ⟨k9, h9⟩) pre x suf hsplit
    (fun z hz => by
      rcases hpass z hz with h | ⟨hz0, nm, hl1, hn1⟩
      · exact Or.inl h
      · obtain ⟨c6, hc6, hcl6⟩ := Cond.classLink_spec hown hl1 e.platform hpl
        obtain ⟨a8, b8, h1, h2, h3⟩ := hn1
        cases Option.some.inj (h1.symm.trans hcl)
        cases Option.some.inj (h2.symm.trans hc6)
        exact Or.inr ⟨hz0, _, hcl6, h3⟩) hx (Or.inr ⟨h0, c4, hcl5, hasg⟩)
  obtain ⟨t, a1, b1⟩ := kk (T.setVm vm') hT X'
  exact ⟨t, st.trans a1, b1⟩
end Rows
section Ends
variable {p : Program} {l : Launch} {e : Env} {R : Room} {s : State} {m : MethodId} {args : Array Value} {below : List Frame} {meth : Method} {c : Code} {H : Heap} {locs : List Loc} {cells slots : Nat} {Q : State → Prop}
variable {mc ms : Nat} {free : Addr → Prop} {A0 A1 : Nat → Prop} {H0 : Heap} {a : Array Value} {ls : Array Slot} {st0 rest : List Value}
variable {Qc : Array Value → State → Outcome → State → Prop} {XC : String → State → State → Prop}
/-- what a body that may throw owes at its end -/
def vx_MQ (below : List Frame) (Qc : Array Value → State → Outcome → State → Prop) (XC : String → State → State → Prop) (a : Array Value) (s : State) (mc ms : Nat) (free : Addr → Prop) : State → Prop := fun t =>
  ∃ o, t.status = .running ∧ Ended t below o ∧ vx_Q Qc XC mc ms free a s o t
theorem vx_ret {g : JFrame} {mc ms : Nat} (k : W p l e R s m args below meth c H locs cells slots (MQ below Qc args s mc ms free) g) : W p l e R s m args below meth c H locs cells slots (vx_MQ below Qc XC args s mc ms free) g := by
  intro T hT X
  obtain ⟨t, a1, o, b1, b2, b3, b4⟩ := k T hT X
  exact ⟨t, a1, o, b1, b2, Or.inl ⟨b3, b4⟩⟩
/-- not caught here: it goes on to the caller -/
theorem vx_widen {g : JFrame} {q : Addr} {k n : Nat} (h1 : cells ≤ k) (h2 : slots ≤ n) (kk : vx_W p l e R s m args below meth c H locs k n Q g q) : vx_W p l e R s m args below meth c H locs cells slots Q g q := fun T hT X => kk T hT (stand_widen X h1 h2)
theorem vx_out {pc : Nat} {E : String} {ce : Cell} {q : Addr} {mc ms : Nat} (hout : ∀ x ∈ c.exceptionTable.toList, covers x pc = false) (hlocks : meth.locks = false) (hcell : H[q]? = some ce) (hv : ce.vm = .none) (hcl : s.vm.findClass E = some ce.cls)
    (hx : ∀ t : State, t.heap = H → s.vm.Alike t.vm → XC E s t) (hf : ∀ z ∈ locs, free z.base) (hc : cells ≤ mc) (hs : slots ≤ ms) :
    vx_W p l e R s m args below meth c H locs cells slots (vx_MQ below Qc XC args s mc ms free) (F0 m pc ls rest) q := by
  intro T hT X
  obtain ⟨st1, hrun, hend, hW, hsm⟩ := X.leaveThrown q (g := F0 m pc ls rest) rfl rfl rfl hout hlocks
  have hcell9 : (T.setFrames (.throwing q :: below)).heap[q]? = some ce := by
    show T.heap[q]? = some ce
    rw [hT]; exact hcell
  exact ⟨_, st1, .threw q, hrun, hend, Or.inr ⟨q, rfl, E, ce, locs, hx _ hT hW.alike, hcell9, hv, hcl, hW, hsm.mono hc hs, hf⟩⟩
theorem vx_frame {U : State} {k n : Nat} (h : s.sameButNew ({ U with vm := s.vm } : State) locs k n) : s.heap.size ≤ U.heap.size ∧ ∀ q : Nat, q < s.heap.size → (∀ z ∈ locs, z.base ≠ q) → U.heap[q]? = s.heap[q]? := by
  obtain ⟨-, h2, -, -, -, h6⟩ := h
  refine ⟨h2, fun q hq hz => ?_⟩
  obtain ⟨c9, e1, e2, e3, e4⟩ := h6 q _ (Array.getElem?_eq_getElem hq)
  have hs : c9.slots = (s.heap[q]).slots := Array.ext_getElem? fun i => e4 i fun hm => hz _ hm rfl
  have h9 : c9 = s.heap[q] := by
    rw [hs] at e2
    exact e2
  have e5 : U.heap[q]? = some c9 := e1
  rw [e5, h9, Array.getElem?_eq_getElem hq]
/-- the words of a throw but the four that speak of the heap -/
def vx_no (w : Cond) : Bool := decide (w ≠ .isRef (.static Bundle.tN "UNASSIGNED_STACK" Bundle.steD)) && decide (w ≠ .isRef (.static Bundle.tN "SUPPRESSED_SENTINEL" Bundle.listD)) && decide (w ≠ .laysStatic Bundle.tN "UNASSIGNED_STACK" Bundle.steD) && decide (w ≠ .laysStatic Bundle.tN "SUPPRESSED_SENTINEL" Bundle.listD)
def vx_at0 (own : String) (ic : Nat) (X : String) (names : List String) : List Cond := (Bundle.ownAtoms0 own ic X names).filter vx_no
def vx_atS (own : String) (ic : Nat) (X : String) (names : List String) : List Cond := (Bundle.ownAtoms own ic X names).filter vx_no
/-- a word that the tables alone decide, or a good one -/
def vx_ot (w : Cond) : Bool := w.onTables || goodWord w
theorem vx_ot_at {args a' : Array Value} {s U : State} {w : Cond} (hW : s.WarmedH U.vm) (hvm : s.vm = U.vm) (hg : vx_ot w = true) (h : w.before args s = true) : w.before a' U = true := by
  simp only [vx_ot, Bool.or_eq_true] at hg
  rcases hg with hg | hg
  · exact va_tabs hg hvm h
  · exact word_at hW (good_of_word hg) h
/-- a list's words: the good ones out of the method's own list, the others by premises of their own -/
theorem vx_hat {args : Array Value} {s : State} {L B : List Cond} (h1 : ∀ w ∈ L.filter goodWord, w.before args s = true) (h2 : ∀ w ∈ L.filter (fun w => !goodWord w), w ∈ B) (h3 : ∀ w ∈ B, w.before args s = true) : ∀ w ∈ L, w.before args s = true := by
  intro w hw
  by_cases g : goodWord w = true
  · exact h1 w (List.mem_filter.mpr ⟨hw, g⟩)
  · refine h3 w (h2 w (List.mem_filter.mpr ⟨hw, ?_⟩))
    show (!goodWord w) = true
    cases hgw : goodWord w
    · rfl
    · exact absurd hgw g
theorem vx_c {args : Array Value} {s : State} {w : Cond} {B : List Cond} (h : w.before args s = true) (t : ∀ w ∈ B, w.before args s = true) : ∀ w' ∈ w :: B, w'.before args s = true := fun w' h' => (List.mem_cons.mp h').elim (fun e => by rw [e]; exact h) (t w')
theorem vx_n {args : Array Value} {s : State} : ∀ w ∈ ([] : List Cond), w.before args s = true := fun _ h => nomatch h
theorem vx_own {args : Array Value} {s : State} {L : List Cond} (h1 : ∀ w ∈ L.filter vx_no, w.before args s = true)
    (hU : (Cond.isRef (.static Bundle.tN "UNASSIGNED_STACK" Bundle.steD)).before args s = true) (hN : (Cond.isRef (.static Bundle.tN "SUPPRESSED_SENTINEL" Bundle.listD)).before args s = true)
    (lU : (Cond.laysStatic Bundle.tN "UNASSIGNED_STACK" Bundle.steD).before args s = true) (lN : (Cond.laysStatic Bundle.tN "SUPPRESSED_SENTINEL" Bundle.listD).before args s = true) : ∀ w ∈ L, w.before args s = true := by
  intro w hw
  by_cases e1 : w = .isRef (.static Bundle.tN "UNASSIGNED_STACK" Bundle.steD)
  · rw [e1]; exact hU
  · by_cases e2 : w = .isRef (.static Bundle.tN "SUPPRESSED_SENTINEL" Bundle.listD)
    · rw [e2]; exact hN
    · by_cases e3 : w = .laysStatic Bundle.tN "UNASSIGNED_STACK" Bundle.steD
      · rw [e3]; exact lU
      · by_cases e4 : w = .laysStatic Bundle.tN "SUPPRESSED_SENTINEL" Bundle.listD
        · rw [e4]; exact lN
        · exact h1 w (List.mem_filter.mpr ⟨hw, by unfold vx_no; rw [decide_eq_true e1, decide_eq_true e2, decide_eq_true e3, decide_eq_true e4]; rfl⟩)
/-- where a static field lies, its class's statics cell in H -/
def vx_L (C n d : String) (A : Nat → Prop) (U : State) (H : Heap) : Prop := ∃ (c : ClassId) (k : Class) (i : Nat) (f : Field) (a : Nat) (cell : Cell), U.vm.findClass C = some c ∧ U.fieldFound? C n d = some (c, k, i, f) ∧ f.isStatic = true ∧ k.statics = some a ∧ H[a]? = some cell ∧ cell.vm.isStatics = true ∧ cell.cls = c ∧ f.slot < cell.slots.size ∧ k.staticTypes[f.slot]? = some f.type ∧ ¬ A a
theorem vx_L.moved {C n d : String} {A : Nat → Prop} {u U : State} {H : Heap} (hvm : u.vm.Alike U.vm) (h : vx_L C n d A u H) : vx_L C n d A U H := by
  obtain ⟨c, k, i, f, a, cell, h1, h2, h3, h4, h5, h6, h7, h8, h9, h10⟩ := h
  obtain ⟨k', hi', he⟩ := State.fieldFound?_setVm hvm h2
  exact ⟨c, k', i, f, a, cell, by rw [hvm.findClass]; exact h1, hi', h3, by rw [he]; exact h4, h5, h6, h7, h8, by rw [he]; exact h9, h10⟩
theorem vx_L.kept {C n d : String} {A : Nat → Prop} {U : State} {H H1 : Heap} (h : vx_L C n d A U H) (hq : ∀ a : Nat, a < H.size → ¬ A a → H1[a]? = H[a]?) : vx_L C n d A U H1 := by
  obtain ⟨c, k, i, f, a, cell, h1, h2, h3, h4, h5, h6, h7, h8, h9, h10⟩ := h
  exact ⟨c, k, i, f, a, cell, h1, h2, h3, h4, by rw [hq a (Array.getElem?_eq_some_iff.mp h5).1 h10]; exact h5, h6, h7, h8, h9, h10⟩
theorem vx_L.narrow {C n d : String} {A B : Nat → Prop} {U : State} {H : Heap} (h : vx_L C n d A U H) (hAB : ∀ q, B q → A q) : vx_L C n d B U H := by
  obtain ⟨c, k, i, f, a, cell, h1, h2, h3, h4, h5, h6, h7, h8, h9, h10⟩ := h
  exact ⟨c, k, i, f, a, cell, h1, h2, h3, h4, h5, h6, h7, h8, h9, fun z => h10 (hAB _ z)⟩
theorem vx_L.word {C n d : String} {A : Nat → Prop} {s : State} {args : Array Value} (h : vx_L C n d A s s.heap) : (Cond.laysStatic C n d).before args s = true := by
  obtain ⟨c, k, i, f, a, cell, h1, h2, h3, h4, h5, h6, h7, h8, h9, -⟩ := h
  show (Cond.laysStatic C n d).holds args s none s [] = true
  exact Cond.laysStatic_of h1 h2 h3 h4 h5 h6 h7 h8 h9
/-- .. and what it holds: null or some reference -/
def vx_Zq (C n d : String) (A : Nat → Prop) (U : State) (H : Heap) : Prop := va_Zq C n d A U H ∧ vx_L C n d A U H
theorem vx_Zq.moved {C n d : String} {A : Nat → Prop} {u U : State} {H : Heap} (hvm : u.vm.Alike U.vm) (h : vx_Zq C n d A u H) : vx_Zq C n d A U H := ⟨va_Zq.moved hvm h.1, vx_L.moved hvm h.2⟩
theorem vx_Zq.kept {C n d : String} {A : Nat → Prop} {U : State} {H H1 : Heap} (h : vx_Zq C n d A U H) (hq : ∀ a : Nat, a < H.size → ¬ A a → H1[a]? = H[a]?) : vx_Zq C n d A U H1 := ⟨va_Zq.kept h.1 hq, vx_L.kept h.2 hq⟩
theorem vx_Zq.narrow {C n d : String} {A B : Nat → Prop} {U : State} {H : Heap} (h : vx_Zq C n d A U H) (hAB : ∀ q, B q → A q) : vx_Zq C n d B U H := ⟨va_Zq.narrow h.1 hAB, vx_L.narrow h.2 hAB⟩
theorem vx_Zqof {args : Array Value} {s : State} {C n d : String} {A : Nat → Prop} (hl : (Cond.laysStatic C n d).before args s = true) (hini : (Cond.initialized C).before args s = true) (h : (Cond.isRef (.static C n d)).before args s = true) (hA : ∀ a : Nat, a < s.heap.size → ¬ A a) : vx_Zq C n d A s s.heap := by
  refine ⟨va_Zqof hl hini h hA, ?_⟩
  obtain ⟨c, k, i, f, a, cell, h1, h2, h3, h4, h5, h6, h7, h8, h9⟩ := Cond.laysStatic_spec hl
  exact ⟨c, k, i, f, a, cell, h1, h2, h3, h4, h5, h6, h7, h8, h9, hA a (Array.getElem?_eq_some_iff.mp h5).1⟩
theorem vx_isRef {C n d : String} {v : Value} {A : Nat → Prop} {s : State} {args : Array Value} (h : va_Z C n d v A s s.heap) (hv : v.isRef = true) : (Cond.isRef (.static C n d)).before args s = true := by
  obtain ⟨cf, kf, fi, f, a, cell, h1, h2, h3, h4, h5, h6, h7, -⟩ := h
  have he : (Term.static C n d).eval args s none [] s = some v := by
    simp [Term.eval, State.fieldNamed?, h1, h2, h4, h5, h6, h7]
  simp only [Cond.before, Cond.holds, Cond.value, he]
  cases v <;> simp_all [Value.isRef]
theorem vx_isRefq {C n d : String} {A : Nat → Prop} {s : State} {args : Array Value} (h : va_Zq C n d A s s.heap) : (Cond.isRef (.static C n d)).before args s = true := by
  rcases h with h | ⟨t, h⟩
  · exact vx_isRef h rfl
  · exact vx_isRef h rfl
/-- the same frame, seen from here: as if the method were called anew in this heap -/
theorem vx_rebase {T : State} (X : Stand p l e R s m args below meth c T locs cells slots) {R' : Room} (hf : R'.frames ≤ R.frames) (hl : R'.locals ≤ R.locals) (hc : cells + R'.cells ≤ R.cells) (hs : slots + R'.slots ≤ R.slots) :
    Stand p l e R' ((T.setVm s.vm).setFrames (.invoking m args :: below)) m args below meth c T [] 0 0 := by
  have htop : (T.setVm s.vm).topJava?.isSome := X.here.top
  have hF : ((T.setVm s.vm).setFrames (.invoking m args :: below)).frames = .invoking m args :: below := State.frames_setFrames _ (State.cur_lt_of_top htop)
  obtain ⟨g₀, hg0⟩ := Option.isSome_iff_exists.mp htop
  obtain ⟨r, hr⟩ := State.topJava?_eq_some.mp hg0
  have hl9 : e.platform.stackLimits (T.setVm s.vm).me = e.platform.stackLimits s.me := X.limits
  have hb9 : (T.setVm s.vm).me.stackBytes = s.me.stackBytes := X.bytes
  refine ⟨X.admits, X.cas, X.clock, hF, ?_, X.hears, X.method, X.code, X.here, X.tail, X.warmed, ?_, ?_, ?_⟩
  · have h := X.room
    have hU : ((T.setVm s.vm).setFrames (.invoking m args :: below)).localsInUse = s.localsInUse := by
      rw [State.localsInUse_invoking hF (meth := meth) (c := c) X.method X.code, State.localsInUse_invoking X.frames X.method X.code]
    simp only [State.hasRoom, Bool.and_eq_true, decide_eq_true_eq] at h ⊢
    obtain ⟨⟨⟨⟨h1, h2, h3, h4, h5, h6⟩, h7⟩, h8⟩, h9⟩ := h
    rw [X.frames, List.length_cons] at h2 h3
    have q1 := X.heapSize
    have q2 := X.used
    simp only [hF, hU, List.length_cons, State.stackLimits_setFrames, State.stackBytes_setFrames, hl9, hb9]
    refine ⟨⟨⟨⟨by omega, by omega, by omega, by omega, by omega, h6⟩, ?_⟩, ?_⟩, X.book⟩
    · show T.heap.size + R'.cells ≤ e.platform.maxCells
      omega
    · show T.slotsUsed + R'.slots ≤ e.platform.maxSlots
      omega
  · rw [State.stackLimits_setFrames]; rfl
  · rw [State.stackBytes_setFrames]; rfl
  · refine ⟨?_, Nat.le_refl _, Nat.le_refl _, ?_, ?_, fun a c9 h9 => ⟨c9, h9, rfl, rfl, fun _ _ => rfl⟩⟩
    · obtain ⟨t, ht, -⟩ := State.frames_cons hr
      show T.setVm s.vm = { ((T.setVm s.vm).setFrames (.invoking m args :: below)).setFrames (T.setVm s.vm).frames with heap := T.heap, slotsUsed := T.slotsUsed }
      rw [State.setFrames_setFrames, State.setFrames_self ht]
      rfl
    · show T.slotsUsed = T.slotsUsed + ((T.heap.toList.drop T.heap.size).map (·.slots.size)).sum
      rw [List.drop_eq_nil_of_le (Nat.le_of_eq Array.length_toList)]
      rfl
    · show ((T.heap.toList.drop T.heap.size).map (·.slots.size)).sum ≤ 0
      rw [List.drop_eq_nil_of_le (Nat.le_of_eq Array.length_toList)]
      exact Nat.le_refl _
/-- 'throw new E()': new; dup; invokespecial; athrow -/
theorem vx_throw0 {cc : ByteArray} {pc : Nat} (hexec : p.tables.exec = Jvm.exec) (hb : c.code = cc) (hl : l.stackTraces = false) {own cls : String} {names : List String} {ik ic mc ms : Nat} {A : Nat → Prop}
    (hown : s.vm.findClass own = some m.cls) (hcls : Bundle.fit cls = true) (hnames : ∀ n ∈ names, Bundle.fit n = true)
    (hk : (Cond.classLink own ik cls).before args s = true) (hini : (Cond.initialized cls).before args s = true) (hat : ∀ w ∈ vx_at0 own ic cls names, w.before args s = true)
    (hgood : ∀ w ∈ Cond.classLink own ik cls :: Cond.initialized cls :: vx_at0 own ic cls names, vx_ot w = true)
    (hU : vx_Zq Bundle.tN "UNASSIGNED_STACK" Bundle.steD A s s.heap) (hN : vx_Zq Bundle.tN "SUPPRESSED_SENTINEL" Bundle.listD A s s.heap) (hS : va_S A s.heap H locs) (hsize : ls.size = c.maxLocals)
    (d0 : decode cc pc = .ok (.new ik, 3)) (d3 : decode cc (pc + 3) = .ok (.dup, 1)) (d4 : decode cc (pc + 4) = .ok (.invokespecial ic, 3)) (d7 : decode cc (pc + 7) = .ok (.athrow, 1))
    (hout : ∀ x ∈ c.exceptionTable.toList, covers x (pc + 7) = false)
    (hRframes : names.length + 3 < R.frames) (hRlocals : (rest.map fun v => v.category).sum + (13 * (names.length + 1) + 42) ≤ R.locals) (hRcells : cells + 1 ≤ R.cells) (hRslots : slots + 6 ≤ R.slots) (hlocks : meth.locks = false)
    (hx : ∀ t : State, s.vm.Alike t.vm → H.size ≤ t.heap.size → (∀ q : Nat, q < H.size → t.heap[q]? = H[q]?) → XC cls s t)
    (hf : ∀ z ∈ locs, free z.base) (hc : cells + 1 ≤ mc) (hs : slots + 6 ≤ ms) :
    W p l e R s m args below meth c H locs cells slots (vx_MQ below Qc XC args s mc ms free) (F0 m pc ls rest) := by
  intro T hT X
  have htr : e.platform.stackTraces = false := (show e.platform.stackTraces = l.stackTraces by rw [X.admits.platform]).trans hl
  have Y := vx_rebase X (R' := { frames := R.frames, locals := R.locals, cells := 1, slots := 6 }) (Nat.le_refl _) (Nat.le_refl _) hRcells hRslots
  obtain ⟨s', hA⟩ : ∃ z, z = (T.setVm s.vm).setFrames (.invoking m args :: below) := ⟨_, rfl⟩
  rw [← hA] at Y
  have hvm : s'.vm = s.vm := by rw [hA]; rfl
  have hhp : s'.heap = H := by rw [hA]; exact hT
  have hW0 : s.WarmedH s'.vm := by rw [hvm]; exact State.WarmedH.refl s
  have hat' : ∀ w ∈ vx_at0 own ic cls names, w.before args s' = true := fun w hw => vx_ot_at hW0 hvm.symm (hgood w (List.mem_cons_of_mem _ (List.mem_cons_of_mem _ hw))) (hat w hw)
  have hk' : (Cond.classLink own ik cls).before args s' = true := vx_ot_at hW0 hvm.symm (hgood _ List.mem_cons_self) hk
  have hini' : (Cond.initialized cls).before args s' = true := vx_ot_at hW0 hvm.symm (hgood _ (List.mem_cons_of_mem _ List.mem_cons_self)) hini
  have hU' : vx_Zq Bundle.tN "UNASSIGNED_STACK" Bundle.steD A s' s'.heap := by rw [hhp]; exact vx_Zq.moved hW0.alike (hU.kept hS.2.1)
  have hN' : vx_Zq Bundle.tN "SUPPRESSED_SENTINEL" Bundle.listD A s' s'.heap := by rw [hhp]; exact vx_Zq.moved hW0.alike (hN.kept hS.2.1)
  have h : ∀ w ∈ Bundle.ownAtoms0 own ic cls names, w.before args s' = true := vx_own hat' (vx_isRefq hU'.1) (vx_isRefq hN'.1) hU'.2.word hN'.2.word
  have hown' : s'.vm.findClass own = some m.cls := by rw [hvm]; exact hown
  have hins : (Cond.instantiable cls 6).before args s' = true := h _ (by simp [Bundle.ownAtoms0])
  obtain ⟨vm₁, cX, kX, hfX, hkX, -, -, X₁, st1⟩ := Y.newCold hexec (own := own) (C := cls) (index := ik) (n := 6) hown' hk' hins hini'
    (g := F0 m pc ls rest) rfl (by rw [hb]; exact d0) (Nat.le_refl _) (Nat.le_refl _)
  generalize hT1 : (T.setVm vm₁).pushCell { cls := cX, slots := kX.instanceTypes.map defaultValue, vm := .none } = T1 at X₁ st1
  have hcat : (Value.ref T.heap.size).category = 1 := rfl
  have hcellA : T1.heap[T.heap.size]? = some (freshCell cX kX) := by rw [← hT1]; exact State.heap_pushCell_size _ _
  have d3' : decode c.code (pc + 3) = .ok (.dup, 1) := by rw [hb]; exact d3
  obtain ⟨U, hsteps, hrun, hend, hW, hsame, ce, hce, hO⟩ := X₁.ctorThrow0 hexec htr (own := own) (cls := cls) (names := names) (ic := ic) hown' hcls hnames h (fun x hx => nomatch hx) hfX hkX hcellA (by rw [hhp, hT]; exact Nat.le_refl _)
    (g := { method := m, pc := pc + 4, locals := ls, stack := .ref T.heap.size :: .ref T.heap.size :: rest, locked := none }) rfl hsize rfl rfl (rest := rest) rfl
    (by rw [hb]; exact d4) (by rw [hb]; exact d7) hout hRframes (by simp only [List.map_cons, List.sum_cons, hcat]; omega) hlocks
  obtain ⟨f1, f2⟩ := vx_frame hsame
  rw [hhp] at f1 f2
  have hWs : s.WarmedH U.vm := State.WarmedH.trans hW0 hW
  have hcl : s.vm.findClass cls = some ce.cls := by
    have h9 := hO.cls
    rw [hvm] at h9
    exact h9
  have hall : s.sameButNew ({ U with vm := s.vm } : State) locs mc ms := by
    subst hA
    obtain ⟨e1, e2⟩ := hsame
    rw [State.setFrames_setFrames] at e1
    have h2 : (T.setVm s.vm).sameButNew ({ U with vm := s.vm } : State) [] (0 + 1) (0 + 6) := ⟨e1, e2⟩
    have h3 := X.same.trans h2
    rw [List.append_nil] at h3
    exact h3.mono hc hs
  refine ⟨U, ?_, .threw T.heap.size, hrun, hend, Or.inr ⟨T.heap.size, rfl, cls, ce, locs, hx U hWs.alike f1 (fun q hq => f2 q hq (fun z hz => nomatch hz)), hce, hO.vm, hcl, hWs, hall, hf⟩⟩
  refine st1 _ ?_
  show Steps p.tables e below (T1.setTop { method := m, pc := pc + 3, locals := ls, stack := .ref T.heap.size :: rest, locked := none }) _
  jvm_step X₁.here [X₁.here.top, hexec, d3', Value.category]
  exact hsteps
/-- 'throw new E("text")': new; dup; ldc; invokespecial; athrow -/
theorem vx_throwS {cc : ByteArray} {pc : Nat} (hexec : p.tables.exec = Jvm.exec) (hb : c.code = cc) (hl : l.stackTraces = false) {own cls text : String} {names : List String} {ik is ic mc ms sa : Nat} {A : Nat → Prop}
    (hown : s.vm.findClass own = some m.cls) (hcls : Bundle.fit cls = true) (hnames : ∀ n ∈ names, Bundle.fit n = true)
    (hk : (Cond.classLink own ik cls).before args s = true) (hini : (Cond.initialized cls).before args s = true) (hstr : vk_R own is text sa s) (hat : ∀ w ∈ vx_atS own ic cls names, w.before args s = true)
    (hgood : ∀ w ∈ Cond.classLink own ik cls :: Cond.initialized cls :: vx_atS own ic cls names, vx_ot w = true)
    (hU : vx_Zq Bundle.tN "UNASSIGNED_STACK" Bundle.steD A s s.heap) (hN : vx_Zq Bundle.tN "SUPPRESSED_SENTINEL" Bundle.listD A s s.heap) (hS : va_S A s.heap H locs) (hsize : ls.size = c.maxLocals)
    (d0 : decode cc pc = .ok (.new ik, 3)) (d3 : decode cc (pc + 3) = .ok (.dup, 1)) (d4 : decode cc (pc + 4) = .ok (.ldc is, 2)) (d6 : decode cc (pc + 6) = .ok (.invokespecial ic, 3)) (d9 : decode cc (pc + 9) = .ok (.athrow, 1))
    (hout : ∀ x ∈ c.exceptionTable.toList, covers x (pc + 9) = false)
    (hRframes : names.length + 3 < R.frames) (hRlocals : (rest.map fun v => v.category).sum + (13 * (names.length + 1) + 43) ≤ R.locals) (hRcells : cells + 1 ≤ R.cells) (hRslots : slots + 6 ≤ R.slots) (hlocks : meth.locks = false)
    (hx : ∀ t : State, s.vm.Alike t.vm → H.size ≤ t.heap.size → (∀ q : Nat, q < H.size → t.heap[q]? = H[q]?) → XC cls s t)
    (hf : ∀ z ∈ locs, free z.base) (hc : cells + 1 ≤ mc) (hs : slots + 6 ≤ ms) :
    W p l e R s m args below meth c H locs cells slots (vx_MQ below Qc XC args s mc ms free) (F0 m pc ls rest) := by
  intro T hT X
  have htr : e.platform.stackTraces = false := (show e.platform.stackTraces = l.stackTraces by rw [X.admits.platform]).trans hl
  have Y := vx_rebase X (R' := { frames := R.frames, locals := R.locals, cells := 1, slots := 6 }) (Nat.le_refl _) (Nat.le_refl _) hRcells hRslots
  obtain ⟨s', hA⟩ : ∃ z, z = (T.setVm s.vm).setFrames (.invoking m args :: below) := ⟨_, rfl⟩
  rw [← hA] at Y
  have hvm : s'.vm = s.vm := by rw [hA]; rfl
  have hhp : s'.heap = H := by rw [hA]; exact hT
  have hW0 : s.WarmedH s'.vm := by rw [hvm]; exact State.WarmedH.refl s
  have hat' : ∀ w ∈ vx_atS own ic cls names, w.before args s' = true := fun w hw => vx_ot_at hW0 hvm.symm (hgood w (List.mem_cons_of_mem _ (List.mem_cons_of_mem _ hw))) (hat w hw)
  have hk' : (Cond.classLink own ik cls).before args s' = true := vx_ot_at hW0 hvm.symm (hgood _ List.mem_cons_self) hk
  have hini' : (Cond.initialized cls).before args s' = true := vx_ot_at hW0 hvm.symm (hgood _ (List.mem_cons_of_mem _ List.mem_cons_self)) hini
  have hU' : vx_Zq Bundle.tN "UNASSIGNED_STACK" Bundle.steD A s' s'.heap := by rw [hhp]; exact vx_Zq.moved hW0.alike (hU.kept hS.2.1)
  have hN' : vx_Zq Bundle.tN "SUPPRESSED_SENTINEL" Bundle.listD A s' s'.heap := by rw [hhp]; exact vx_Zq.moved hW0.alike (hN.kept hS.2.1)
  have h : ∀ w ∈ Bundle.ownAtoms own ic cls names, w.before args s' = true := vx_own hat' (vx_isRefq hU'.1) (vx_isRefq hN'.1) hU'.2.word hN'.2.word
  have hown' : s'.vm.findClass own = some m.cls := by rw [hvm]; exact hown
  have hins : (Cond.instantiable cls 6).before args s' = true := h _ (by simp [Bundle.ownAtoms])
  obtain ⟨vm₁, cX, kX, hfX, hkX, -, -, X₁, st1⟩ := Y.newCold hexec (own := own) (C := cls) (index := ik) (n := 6) hown' hk' hins hini'
    (g := F0 m pc ls rest) rfl (by rw [hb]; exact d0) (Nat.le_refl _) (Nat.le_refl _)
  generalize hT1 : (T.setVm vm₁).pushCell { cls := cX, slots := kX.instanceTypes.map defaultValue, vm := .none } = T1 at X₁ st1
  have hcat : (Value.ref T.heap.size).category = 1 := rfl
  have hcellA : T1.heap[T.heap.size]? = some (freshCell cX kX) := by rw [← hT1]; exact State.heap_pushCell_size _ _
  have d3' : decode c.code (pc + 3) = .ok (.dup, 1) := by rw [hb]; exact d3
  have d4' : decode c.code (pc + 4) = .ok (.ldc is, 2) := by rw [hb]; exact d4
  have hstr' : vk_R own is text sa s' := vk_R.warm hW0 hstr
  obtain ⟨U, hsteps, hrun, hend, hW, hsame, ce, hce, hO⟩ := X₁.ctorThrowS hexec htr (own := own) (cls := cls) (names := names) (ic := ic) hown' hcls hnames h (fun x hx => nomatch hx) hfX hkX hcellA (by rw [hhp, hT]; exact Nat.le_refl _) (msg := .ref sa) rfl
    (g := { method := m, pc := pc + 6, locals := ls, stack := .ref sa :: .ref T.heap.size :: .ref T.heap.size :: rest, locked := none }) rfl hsize rfl rfl (rest := rest) rfl
    (by rw [hb]; exact d6) (by rw [hb]; exact d9) hout hRframes (by simp only [List.map_cons, List.sum_cons, hcat]; omega) hlocks
  obtain ⟨f1, f2⟩ := vx_frame hsame
  rw [hhp] at f1 f2
  have hWs : s.WarmedH U.vm := State.WarmedH.trans hW0 hW
  have hcl : s.vm.findClass cls = some ce.cls := by
    have h9 := hO.cls
    rw [hvm] at h9
    exact h9
  have hall : s.sameButNew ({ U with vm := s.vm } : State) locs mc ms := by
    subst hA
    obtain ⟨e1, e2⟩ := hsame
    rw [State.setFrames_setFrames] at e1
    have h2 : (T.setVm s.vm).sameButNew ({ U with vm := s.vm } : State) [] (0 + 1) (0 + 6) := ⟨e1, e2⟩
    have h3 := X.same.trans h2
    rw [List.append_nil] at h3
    exact h3.mono hc hs
  refine ⟨U, ?_, .threw T.heap.size, hrun, hend, Or.inr ⟨T.heap.size, rfl, cls, ce, locs, hx U hWs.alike f1 (fun q hq => f2 q hq (fun z hz => nomatch hz)), hce, hO.vm, hcl, hWs, hall, hf⟩⟩
  refine st1 _ ?_
  show Steps p.tables e below (T1.setTop { method := m, pc := pc + 3, locals := ls, stack := .ref T.heap.size :: rest, locked := none }) _
  jvm_step X₁.here [X₁.here.top, hexec, d3', Value.category]
  exact X₁.ldcString hexec (own := own) (text := text) (index := is) (a := sa) hown' hstr'.1 hstr'.2
    (g := { method := m, pc := pc + 4, locals := ls, stack := .ref T.heap.size :: .ref T.heap.size :: rest, locked := none }) rfl d4' _ hsteps
/-- 'throw new E("text")', the text by a wide index -/
theorem vx_throwSW {cc : ByteArray} {pc : Nat} (hexec : p.tables.exec = Jvm.exec) (hb : c.code = cc) (hl : l.stackTraces = false) {own cls text : String} {names : List String} {ik is ic mc ms sa : Nat} {A : Nat → Prop}
    (hown : s.vm.findClass own = some m.cls) (hcls : Bundle.fit cls = true) (hnames : ∀ n ∈ names, Bundle.fit n = true)
    (hk : (Cond.classLink own ik cls).before args s = true) (hini : (Cond.initialized cls).before args s = true) (hstr : vk_R own is text sa s) (hat : ∀ w ∈ vx_atS own ic cls names, w.before args s = true)
    (hgood : ∀ w ∈ Cond.classLink own ik cls :: Cond.initialized cls :: vx_atS own ic cls names, vx_ot w = true)
    (hU : vx_Zq Bundle.tN "UNASSIGNED_STACK" Bundle.steD A s s.heap) (hN : vx_Zq Bundle.tN "SUPPRESSED_SENTINEL" Bundle.listD A s s.heap) (hS : va_S A s.heap H locs) (hsize : ls.size = c.maxLocals)
    (d0 : decode cc pc = .ok (.new ik, 3)) (d3 : decode cc (pc + 3) = .ok (.dup, 1)) (d4 : decode cc (pc + 4) = .ok (.ldc_w is, 3)) (d7 : decode cc (pc + 7) = .ok (.invokespecial ic, 3)) (d10 : decode cc (pc + 10) = .ok (.athrow, 1))
    (hout : ∀ x ∈ c.exceptionTable.toList, covers x (pc + 10) = false)
    (hRframes : names.length + 3 < R.frames) (hRlocals : (rest.map fun v => v.category).sum + (13 * (names.length + 1) + 43) ≤ R.locals) (hRcells : cells + 1 ≤ R.cells) (hRslots : slots + 6 ≤ R.slots) (hlocks : meth.locks = false)
    (hx : ∀ t : State, s.vm.Alike t.vm → H.size ≤ t.heap.size → (∀ q : Nat, q < H.size → t.heap[q]? = H[q]?) → XC cls s t)
    (hf : ∀ z ∈ locs, free z.base) (hc : cells + 1 ≤ mc) (hs : slots + 6 ≤ ms) :
    W p l e R s m args below meth c H locs cells slots (vx_MQ below Qc XC args s mc ms free) (F0 m pc ls rest) := by
  intro T hT X
  have htr : e.platform.stackTraces = false := (show e.platform.stackTraces = l.stackTraces by rw [X.admits.platform]).trans hl
  have Y := vx_rebase X (R' := { frames := R.frames, locals := R.locals, cells := 1, slots := 6 }) (Nat.le_refl _) (Nat.le_refl _) hRcells hRslots
  obtain ⟨s', hA⟩ : ∃ z, z = (T.setVm s.vm).setFrames (.invoking m args :: below) := ⟨_, rfl⟩
  rw [← hA] at Y
  have hvm : s'.vm = s.vm := by rw [hA]; rfl
  have hhp : s'.heap = H := by rw [hA]; exact hT
  have hW0 : s.WarmedH s'.vm := by rw [hvm]; exact State.WarmedH.refl s
  have hat' : ∀ w ∈ vx_atS own ic cls names, w.before args s' = true := fun w hw => vx_ot_at hW0 hvm.symm (hgood w (List.mem_cons_of_mem _ (List.mem_cons_of_mem _ hw))) (hat w hw)
  have hk' : (Cond.classLink own ik cls).before args s' = true := vx_ot_at hW0 hvm.symm (hgood _ List.mem_cons_self) hk
  have hini' : (Cond.initialized cls).before args s' = true := vx_ot_at hW0 hvm.symm (hgood _ (List.mem_cons_of_mem _ List.mem_cons_self)) hini
  have hU' : vx_Zq Bundle.tN "UNASSIGNED_STACK" Bundle.steD A s' s'.heap := by rw [hhp]; exact vx_Zq.moved hW0.alike (hU.kept hS.2.1)
  have hN' : vx_Zq Bundle.tN "SUPPRESSED_SENTINEL" Bundle.listD A s' s'.heap := by rw [hhp]; exact vx_Zq.moved hW0.alike (hN.kept hS.2.1)
  have h : ∀ w ∈ Bundle.ownAtoms own ic cls names, w.before args s' = true := vx_own hat' (vx_isRefq hU'.1) (vx_isRefq hN'.1) hU'.2.word hN'.2.word
  have hown' : s'.vm.findClass own = some m.cls := by rw [hvm]; exact hown
  have hins : (Cond.instantiable cls 6).before args s' = true := h _ (by simp [Bundle.ownAtoms])
  obtain ⟨vm₁, cX, kX, hfX, hkX, -, -, X₁, st1⟩ := Y.newCold hexec (own := own) (C := cls) (index := ik) (n := 6) hown' hk' hins hini'
    (g := F0 m pc ls rest) rfl (by rw [hb]; exact d0) (Nat.le_refl _) (Nat.le_refl _)
  generalize hT1 : (T.setVm vm₁).pushCell { cls := cX, slots := kX.instanceTypes.map defaultValue, vm := .none } = T1 at X₁ st1
  have hcat : (Value.ref T.heap.size).category = 1 := rfl
  have hcellA : T1.heap[T.heap.size]? = some (freshCell cX kX) := by rw [← hT1]; exact State.heap_pushCell_size _ _
  have d3' : decode c.code (pc + 3) = .ok (.dup, 1) := by rw [hb]; exact d3
  have d4' : decode c.code (pc + 4) = .ok (.ldc_w is, 3) := by rw [hb]; exact d4
  have hstr' : vk_R own is text sa s' := vk_R.warm hW0 hstr
  obtain ⟨U, hsteps, hrun, hend, hW, hsame, ce, hce, hO⟩ := X₁.ctorThrowS hexec htr (own := own) (cls := cls) (names := names) (ic := ic) hown' hcls hnames h (fun x hx => nomatch hx) hfX hkX hcellA (by rw [hhp, hT]; exact Nat.le_refl _) (msg := .ref sa) rfl
    (g := { method := m, pc := pc + 7, locals := ls, stack := .ref sa :: .ref T.heap.size :: .ref T.heap.size :: rest, locked := none }) rfl hsize rfl rfl (rest := rest) rfl
    (by rw [hb]; exact d7) (by rw [hb]; exact d10) hout hRframes (by simp only [List.map_cons, List.sum_cons, hcat]; omega) hlocks
  obtain ⟨f1, f2⟩ := vx_frame hsame
  rw [hhp] at f1 f2
  have hWs : s.WarmedH U.vm := State.WarmedH.trans hW0 hW
  have hcl : s.vm.findClass cls = some ce.cls := by
    have h9 := hO.cls
    rw [hvm] at h9
    exact h9
  have hall : s.sameButNew ({ U with vm := s.vm } : State) locs mc ms := by
    subst hA
    obtain ⟨e1, e2⟩ := hsame
    rw [State.setFrames_setFrames] at e1
    have h2 : (T.setVm s.vm).sameButNew ({ U with vm := s.vm } : State) [] (0 + 1) (0 + 6) := ⟨e1, e2⟩
    have h3 := X.same.trans h2
    rw [List.append_nil] at h3
    exact h3.mono hc hs
  refine ⟨U, ?_, .threw T.heap.size, hrun, hend, Or.inr ⟨T.heap.size, rfl, cls, ce, locs, hx U hWs.alike f1 (fun q hq => f2 q hq (fun z hz => nomatch hz)), hce, hO.vm, hcl, hWs, hall, hf⟩⟩
  refine st1 _ ?_
  show Steps p.tables e below (T1.setTop { method := m, pc := pc + 3, locals := ls, stack := .ref T.heap.size :: rest, locked := none }) _
  jvm_step X₁.here [X₁.here.top, hexec, d3', Value.category]
  exact X₁.ldcStringW hexec (own := own) (text := text) (index := is) (a := sa) hown' hstr'.1 hstr'.2
    (g := { method := m, pc := pc + 4, locals := ls, stack := .ref T.heap.size :: .ref T.heap.size :: rest, locked := none }) rfl d4' _ hsteps
end Ends
section Bodies
variable {l : Launch}
theorem vx_ofW {y : MethodName} {ws ws' : List Cond} {rm : Room} {Pc : Array Value → State → Prop} {Qc : Array Value → State → Outcome → State → Prop} {XC : String → State → State → Prop} {mc ms : Nat} {free : Addr → Prop} {cc : ByteArray} {maxL : Nat} {ret : Option FieldType}
    (hy : plainName y.cls = true) (hw : ws = Cond.code y cc maxL ret :: ws')
    (body : ∀ p e s m args below meth c s₁, BodyLoose p l y (headSpec ws rm) cc maxL ret e s m args below meth c s₁ → c.maxLocals = maxL → (∀ x ∈ c.exceptionTable.toList, False) → Pc args s →
      W p l e (headSpec ws rm).room s m args below meth c s.heap [] 0 0 (vx_MQ below Qc XC args s mc ms free) (entryFrame m args maxL)) : vx_Met l y ws rm Pc Qc XC mc ms free := by
  refine MetFree.of_bodyS (code := cc) (maxLocals := maxL) (ret := ret) hy ?_ ?_
  · intro args s m h hn
    obtain ⟨meth, c, h1, h2, h3, h4, h5, h6, -, -⟩ := Cond.code_spec hn (atoms_spec (ws := ws) h _ (by rw [hw]; exact List.mem_cons_self))
    exact ⟨meth, c, h1, h2, h3, h4, h5, h6⟩
  · intro p e s m args below meth c s₁ B hml hP _
    have hh0 : s₁.heap = s.heap := by rw [B.state]; rfl
    have ht : ∀ x ∈ c.exceptionTable.toList, False := by
      obtain ⟨meth9, c9, h1, h2, -, -, -, -, h7, -⟩ := Cond.code_spec B.named (atoms_spec (ws := ws) B.pre _ (by rw [hw]; exact List.mem_cons_self))
      cases Option.some.inj (h1.symm.trans B.method)
      cases Option.some.inj (h2.symm.trans (Stand.of_body B).code)
      intro x hx
      rw [Array.isEmpty_iff.mp h7] at hx
      cases hx
    obtain ⟨t, a1, o, b1, b2, b3⟩ := body p e s m args below meth c s₁ B hml ht hP s₁ hh0 (Stand.of_body B)
    exact ⟨t, o, a1, b1, b2, b3⟩
/-- the table of a body with handlers -/
theorem vx_table {p : Program} {x y : MethodName} {S : Spec} {cc bytes : ByteArray} {maxL maxL' : Nat} {ret ret' : Option FieldType} {e : Env} {s s₁ : State} {m : MethodId} {args : Array Value} {below : List Frame} {meth : Method} {c : Code} {hh : List (Nat × Nat × Nat × Nat)}
    (B : BodyLoose p l y S cc maxL ret e s m args below meth c s₁) (h : (Cond.codeWith y bytes maxL' ret' hh).before args s = true) : c.exceptionTable.toList = tableOf hh := by
  obtain ⟨m9, meth9, c9, hn9, h1, h2, -, -, h6, -⟩ := Cond.codeWith_spec h
  cases Option.some.inj (hn9.symm.trans B.named)
  cases Option.some.inj (h1.symm.trans B.method)
  cases Option.some.inj (h2.symm.trans (Stand.of_body B).code)
  rw [← h6, table_eq]
end Bodies
end VXA
/-! ===== END ===== -/
/-! ===== BEGIN a static call of a method with an exception table ===== -/
section VXS
variable {p : Program} {l : Launch} {e : Env} {R : Room} {s : State} {m : MethodId} {args : Array Value} {below : List Frame} {meth : Method} {c : Code} {T : State} {H : Heap} {locs : List Loc} {cells slots : Nat}
abbrev vx_CSW (R : Room) (s : State) (args : Array Value) (own : String) (index : Nat) (y : MethodName) (bytes : ByteArray) (maxL : Nat) (ret : Option FieldType) (hh : List (Nat × Nat × Nat × Nat)) (ws : List Cond) (rm : Room) (mc ms n : Nat) : Prop :=
  (rm.cells = mc ∧ rm.slots = ms ∧ rm.frames + 1 ≤ R.frames ∧ 8 + (maxL + 11) + rm.locals ≤ R.locals ∧ (∀ w ∈ ws, ∀ (a' : Array Value) (U : State), s.WarmedH U.vm → w.before a' U = true) ∧ Cond.codeWith y bytes maxL ret hh ∈ ws) ∧
  (Cond.codeWith y bytes maxL ret hh).before args s = true ∧ (Cond.initialized y.cls).before args s = true ∧ (y.cls ≠ "java/lang/invoke/MethodHandle" ∧ y.cls ≠ "java/lang/invoke/VarHandle") ∧
  (∀ sig, parseMethodDescriptor y.desc = some sig → n = sig.parameters.length) ∧ (Cond.methodLink own index y).before args s = true ∧ (Cond.static y).before args s = true
theorem vx_cwSW {own : String} {index maxL mc ms : Nat} {y : MethodName} {bytes : ByteArray} {ret : Option FieldType} {hh : List (Nat × Nat × Nat × Nat)} {Ts ws ws' : List Cond} {rm : Room} (n : Nat) (ht : ∀ w ∈ Ts, w.before args s = true) (hT : GoodIn Ts (va_wsS own index y ws)) (hw : ws = Cond.codeWith y bytes maxL ret hh :: ws') (hrc : rm.cells = mc) (hrs : rm.slots = ms)
    (hd : y.cls ≠ "java/lang/invoke/MethodHandle" ∧ y.cls ≠ "java/lang/invoke/VarHandle" ∧ (parseMethodDescriptor y.desc).map (fun d => d.parameters.length) = some n) (hR : rm.frames + 1 ≤ R.frames ∧ 8 + (maxL + 11) + rm.locals ≤ R.locals) :
    vx_CSW R s args own index y bytes maxL ret hh ws rm mc ms n := by
  have ok : ∀ w ∈ va_wsS own index y ws, w.before args s = true := fun w h => ht w (hT w h).1
  have hG : GoodIn Ts ws := fun w h => hT w (by unfold va_wsS; exact List.mem_append_right _ h)
  have hc : Cond.codeWith y bytes maxL ret hh ∈ ws := by rw [hw]; exact List.mem_cons_self
  refine ⟨⟨hrc, hrs, hR.1, hR.2, pay_in ht hG, hc⟩, ht _ (hG _ hc).1, ok _ (by simp [va_wsS]), ⟨hd.1, hd.2.1⟩, fun sig h => ?_, ok _ (by simp [va_wsS]), ok _ (by simp [va_wsS])⟩
  have h2 := hd.2.2
  rw [h] at h2
  exact (Option.some.inj h2).symm
theorem vx_callSW (X : Stand p l e R s m args below meth c T locs cells slots) (hexec : p.tables.exec = Jvm.exec) {own : String} {index : Nat} {y : MethodName} {bytes : ByteArray} {maxL : Nat} {ret : Option FieldType} {hh : List (Nat × Nat × Nat × Nat)}
    (hown : s.vm.findClass own = some m.cls) (hlink : (Cond.methodLink own index y).before args s = true) (hstat : (Cond.static y).before args s = true) (hinit : (Cond.initialized y.cls).before args s = true)
    (hcode : (Cond.codeWith y bytes maxL ret hh).before args s = true) (hy : y.cls ≠ "java/lang/invoke/MethodHandle" ∧ y.cls ≠ "java/lang/invoke/VarHandle")
    {W9 : Nat} {Pre : Pt → Array Value → Prop} {Post : Pt → Array Value → Option Value → Pt → Prop} (hK : Back l R p e below s args y 3 W9 Pre Post)
    {g : JFrame} (hg : g.method = m) (hsize : g.locals.size = c.maxLocals) {argsL rest : List Value} (hlen : ∀ sig, parseMethodDescriptor y.desc = some sig → argsL.length = sig.parameters.length)
    (hstack : g.stack = argsL.reverse ++ rest) (hW : 2 * g.monitorRoom + (rest.map fun v => v.category).sum ≤ W9) (hdg : decode c.code g.pc = .ok (.invokestatic index, 3))
    (hpre : ∀ vm₁, s.WarmedH vm₁ → Pre ⟨T.setVm vm₁, locs, cells, slots⟩ argsL.toArray) :
    ∃ (v : Option Value) (vm₁ : Vm) (B : Pt), s.WarmedH vm₁ ∧ Stand p l e R s m args below meth c B.U B.locs B.cells B.slots ∧ Post ⟨T.setVm vm₁, locs, cells, slots⟩ argsL.toArray v B ∧
      ∀ target, Steps p.tables e below (B.U.setTop { g with pc := g.pc + 3, stack := v.toList ++ rest }) target → Steps p.tables e below (T.setTop g) target := by
  obtain ⟨mk, methM, cM, hnamed, hmethM, -, -, -, -, -, -, hsigM⟩ := Cond.codeWith_spec hcode
  have hstatic : methM.isStatic = true := Cond.static_spec hnamed hmethM hstat
  obtain ⟨kP, hkP, -⟩ := className_of_methodNamed hnamed
  have hinitP : kP.init = .initialized := Cond.initialized_spec (findClass_of_methodNamed hnamed) hkP hinit
  obtain ⟨vm₁, X₁, hstep₁⟩ := X.invokestatic hexec hown hlink hnamed hmethM hstatic hkP hinitP hy (g := g) hg (argsL := argsL) (rest := rest) (hlen _ hsigM) hstack hdg
  obtain ⟨v, B, X', hpost, hsteps⟩ := hK m meth c ⟨T.setVm vm₁, locs, cells, slots⟩ { g with stack := rest } (.invokestatic index) mk argsL.toArray X₁ hg hsize hdg hW (X₁.named hnamed) (hpre vm₁ X₁.warmed)
  exact ⟨v, vm₁, B, X₁.warmed, X', hpost, fun target h => hstep₁ _ fun acts => by rw [doInvoke_state]; exact hsteps.trans h⟩
theorem vx_runSW {y : MethodName} {bytes cc : ByteArray} {maxL nL mc ms n index : Nat} {ret : Option FieldType} {hh : List (Nat × Nat × Nat × Nat)} {ws : List Cond} {rm : Room} {Pc : Array Value → State → Prop} {Qc : Array Value → State → Outcome → State → Prop} {free : Addr → Prop} {Ts : List Cond} {own : String} {As rest : List Value} {g : JFrame}
    (S : CallFix p m c cc nL s args Ts own) (hM : Met l y ws rm Pc Qc mc ms free) (cw : vx_CSW R s args own index y bytes maxL ret hh ws rm mc ms n) (hp : PreS s H Pc As)
    (hg : g.method = m) (hn : As.length = n) (hsize : g.locals.size = nL) (hstack : g.stack = As.reverse ++ rest) (hW : 2 * g.monitorRoom + (rest.map fun v => v.category).sum ≤ 8) (hdg : decode cc g.pc = .ok (.invokestatic index, 3)) (hf : cells + mc ≤ R.cells ∧ slots + ms ≤ R.slots) :
    va_Run p l e R s m args below meth c H locs cells slots mc ms g rest (Qc As.toArray) (free) := by
  obtain ⟨⟨hrc, hrs, hfr, hlo, hws, hcw⟩, hcode, hini, hy, hlen, hl, hstt⟩ := cw
  have hK : Back l R p e below s args y 3 8 (PreOf R mc ms Pc) (PostOf Qc mc ms free) := va_backW (hh := hh) (bytes := bytes) (maxL := maxL) (ret := ret) hM hp.1 hrc hrs hfr hlo hws hcw (fun a' U hW => word_at hW (Or.inl (by first | rfl | simp [Cond.onTables, Cond.keeps, Cond.steady])) hini)
  obtain ⟨hx, hb, hml, ho, -⟩ := S
  intro T hT X
  obtain ⟨v, vm₁, ⟨U', l2, c2, s2⟩, hW₁, X', ⟨g', mk, t, L, e1, e2, hq, h1, hL, h2, h3⟩, st⟩ := vx_callSW X hx (hh := hh) (bytes := bytes) (maxL := maxL) (ret := ret) ho hl hstt hini hcode hy hK hg (hsize.trans hml.symm) (argsL := As) (rest := rest) (fun sig h => hn.trans (hlen sig h)) hstack hW (by rw [hb]; exact hdg)
    (fun vm₁ hW₁ => ⟨hf.1, hf.2, hp.2 (T.setVm vm₁) hT hW₁⟩)
  dsimp only [Pt.U, Pt.locs, Pt.cells, Pt.slots] at X' e1 e2 h1 h2 h3 st
  subst h1; subst h2; subst h3
  exact ⟨v, (T.setVm vm₁).calling g' mk As.toArray, t, U', L, hT, X', hL, e1, e2, hq, st⟩
/-- not caught here, past rows that name other classes: it goes on to the caller -/
theorem vx_outP {p : Program} {l : Launch} {e : Env} {R : Room} {s : State} {m : MethodId} {args : Array Value} {below : List Frame} {meth : Method} {c : Code} {H : Heap} {locs : List Loc} {cells slots : Nat} {free : Addr → Prop} {ls : Array Slot} {rest : List Value} {Qc : Array Value → State → Outcome → State → Prop} {XC : String → State → State → Prop}
    {pc : Nat} {own E : String} {ce : Cell} {q : Addr} {mc ms : Nat} (hown : s.vm.findClass own = some m.cls) (hlocks : meth.locks = false)
    (hpass : ∀ z ∈ c.exceptionTable.toList, covers z pc = false ∨ (z.catchType ≠ 0 ∧ ∃ nm : String, (Cond.classLink own z.catchType nm).before args s = true ∧ va_Nc E nm s)) (hcell : H[q]? = some ce) (hv : ce.vm = .none) (hcl : s.vm.findClass E = some ce.cls)
    (hx : ∀ t : State, t.heap = H → s.vm.Alike t.vm → XC E s t) (hf : ∀ z ∈ locs, free z.base) (hc : cells ≤ mc) (hs : slots ≤ ms) :
    vx_W p l e R s m args below meth c H locs cells slots (vx_MQ below Qc XC args s mc ms free) (F0 m pc ls rest) q := by
  intro T hT X
  have hpl : e.platform.magicAccessors = ({} : Platform).magicAccessors := by rw [X.admits.platform]
  obtain ⟨vm', hW', X', st⟩ := X.outThrough hlocks q (g := F0 m pc ls rest) rfl rfl rfl (cell := ce) (by rw [hT]; exact hcell) (by rw [hv]; rfl)
    (by obtain ⟨k9, h9, -⟩ := Vm.findClass_spec hcl; exact ⟨k9, h9⟩) (fun z hz => by
      rcases hpass z hz with h | ⟨hz0, nm, hl1, hn1⟩
      · exact Or.inl h
      · obtain ⟨c6, hc6, hcl6⟩ := Cond.classLink_spec hown hl1 e.platform hpl
        obtain ⟨a8, b8, h1, h2, h3⟩ := hn1
        cases Option.some.inj (h1.symm.trans hcl)
        cases Option.some.inj (h2.symm.trans hc6)
        exact Or.inr ⟨hz0, _, hcl6, h3⟩)
  obtain ⟨g₀, hfr⟩ := X'.frames_eq
  have hcell9 : ((T.setVm vm').setFrames (.throwing q :: below)).heap[q]? = some ce := by
    show T.heap[q]? = some ce
    rw [hT]; exact hcell
  have hend : Ended ((T.setVm vm').setFrames (.throwing q :: below)) below (.threw q) := State.frames_setFrames _ (State.cur_lt_of_frames hfr)
  refine ⟨(T.setVm vm').setFrames (.throwing q :: below), ?_, .threw q, X'.here.running, hend, Or.inr ⟨q, rfl, E, ce, locs, hx _ hT (X'.ends _).1.alike, hcell9, hv, hcl, (X'.ends _).1, (X'.ends _).2.mono hc hs, hf⟩⟩
  rw [X.pushThrowing_eq]
  exact st
/-- a thing of a world lies in the heap -/
theorem vx_lt {D : va_G} {cl : List vw_C} {ws : va_W} {H1 : Heap} (h : va_P D cl ws H1) {k : Nat} {q : Nat × va_E} (hk : ws[k]? = some q) : q.1 < H1.size := (h k q hk).lt
end VXS
/-! ===== END ===== -/
/-! ===== BEGIN methods with a table of their own: called by a name, returning or throwing ===== -/
section VXH
/-! vx_backW, vx_callVX, vx_callSX, vx_callVW, vx_runVW, vx_runVX, vx_runSX, vx_ofWH follow the same proofs as their sisters above (Free/Laws.lean, Shelf42/LK1.lean); vx_outP calls Shelf42/NT130.lean (outThrough). -/
section
variable {l : Launch} {R : Room} {p : Program} {e : Env} {below : List Frame} {s : State} {sargs : Array Value} {y : MethodName} {len W9 : Nat}
theorem vx_backW {ws : List Cond} {rm : Room} {Pc : Array Value → State → Prop} {Qc : Array Value → State → Outcome → State → Prop} {XC : String → State → State → Prop} {mc ms : Nat} {free : Addr → Prop} {bytes : ByteArray} {maxL : Nat} {ret : Option FieldType} {hh : List (Nat × Nat × Nat × Nat)}
    (hM : vx_Met l y ws rm Pc Qc XC mc ms free) (hblind : FrameBlind Pc) (hrc : rm.cells = mc) (hrs : rm.slots = ms)
    (hframes : rm.frames + 1 ≤ R.frames) (hlocals : W9 + (maxL + 11) + rm.locals ≤ R.locals)
    (hws : ∀ w ∈ ws, ∀ a' U, s.WarmedH U.vm → w.before a' U = true) (hcode : Cond.codeWith y bytes maxL ret hh ∈ ws) (hinit : ∀ a' U, s.WarmedH U.vm → (Cond.initialized y.cls).before a' U = true) :
    vx_Back l R p e below s sargs y len W9 (PreOf R mc ms Pc) (PostOf Qc mc ms free) (vx_Post XC mc ms free) := by
  intro m meth c A g ig mk a X hg hsize hdg hW hn hp
  have h1 : (headSpec ws rm).pre.before a A.U = true := atoms_intro fun w hw => hws w hw _ _ X.warmed
  have h2 : (Cond.codeWith y bytes maxL ret hh).before a A.U = true := hws _ hcode _ _ X.warmed
  have h3 : (Cond.initialized y.cls).before a A.U = true := hinit _ _ X.warmed
  have h4 : A.cells + (headSpec ws rm).room.cells ≤ R.cells := by rw [show (headSpec ws rm).room.cells = mc from hrc]; exact hp.1
  have h5 : A.slots + (headSpec ws rm).room.slots ≤ R.slots := by rw [show (headSpec ws rm).room.slots = ms from hrs]; exact hp.2.1
  have hPc : Pc a (A.U.calling g mk a) := hblind _ _ _ _ hp.2.2
  obtain ⟨U, Ls, c0, s0⟩ := A
  dsimp only [Pt.U, Pt.locs, Pt.cells, Pt.slots] at h1 h2 h3 h4 h5 X hn hPc ⊢
  obtain ⟨m9, methY, cY, hn9, hmY, hcY, -, hlY, -⟩ := Cond.codeWith_spec h2
  cases Option.some.inj (hn9.symm.trans hn)
  obtain ⟨kY, hkY, -⟩ := className_of_methodNamed hn
  have hinitY : kY.init = .initialized := Cond.initialized_spec (findClass_of_methodNamed hn) hkY h3
  have h : At U g.method c below := by rw [hg]; exact X.here
  have hlocals9 : W9 + (maxL + 11) + (headSpec ws rm).room.locals ≤ R.locals := hlocals
  have happ : (headSpec ws rm).appliesLoose y e.platform (U.calling g mk a) = true :=
    Spec.appliesLoose_calling (g := g) h hdg hn hkY hinitY
      (X.room_calling (g := g) (R' := (headSpec ws rm).room) hsize hmY hcY hframes (by rw [hlY]; omega) h4 h5) h1
  obtain ⟨mid, hmid⟩ := h.above
  have hfr : (U.setTop g).frames = (.java g :: mid) ++ below := by rw [State.frames_setTop' g h.top, hmid]; rfl
  obtain ⟨o, s₂, hsteps, -, hend, hq⟩ := Steps.callFree hM p X.admits X.cas X.clock (acts := []) hfr happ hPc trivial
  have hq' : vx_Q Qc XC mc ms free a (U.calling g mk a) o s₂ := hq
  rw [State.frames_setTop' g h.top] at hend
  obtain ⟨g₀, hg0⟩ := Option.isSome_iff_exists.mp h.top
  obtain ⟨r, hr⟩ := State.topJava?_eq_some.mp hg0
  have hr' : (({ U with heap := s₂.heap, slotsUsed := s₂.slotsUsed } : State).setVm s₂.vm).frames = .java g₀ :: r := hr
  rcases hq' with ⟨hqc, L, hfe, hL⟩ | ⟨q, rfl, E, ce, L, hx, hce, hcv, hcl, hW₂, hsm, hL⟩
  · obtain ⟨⟨v, rfl⟩, hW₂, e2, q2, q3, q4, q5, q6⟩ := id hfe
    have e3 : s₂ = ({ (U.calling g mk a).setFrames s₂.frames with heap := s₂.heap, slotsUsed := s₂.slotsUsed } : State).setVm s₂.vm := by
      have : s₂ = ({ s₂ with vm := (U.calling g mk a).vm } : State).setVm s₂.vm := rfl
      rw [e2] at this
      exact this
    obtain ⟨c₂, i₂, len₂, hc₂, hd₂, hf₂⟩ := hend
    have hW' : U.WarmedH s₂.vm := hW₂
    have hcc : c₂ = c := by
      have h1 : s₂.code? g.method = U.code? g.method := by
        rw [State.code?_eq, State.code?_eq, hW'.alike.method?]
      exact Option.some.inj (hc₂.symm.trans (h1.trans h.code))
    subst hcc
    have hlen : len₂ = len := by rw [hdg] at hd₂; cases hd₂; rfl
    subst hlen
    have hs₂ : s₂ = (({ U with heap := s₂.heap, slotsUsed := s₂.slotsUsed } : State).setVm s₂.vm).setTop { g with pc := g.pc + len₂, stack := v.toList ++ g.stack } := by
      refine e3.trans ?_
      rw [hf₂, State.calling_eq h.top, State.setFrames_setFrames, State.setTop_of_frames _ hr', hr]
      rfl
    have hsame : U.sameButNew ({ U with heap := s₂.heap, slotsUsed := s₂.slotsUsed } : State) L mc ms := by
      refine ⟨?_, q2, q3, q4, q5, q6⟩
      obtain ⟨t, ht, -⟩ := State.frames_cons hr
      show ({ U with heap := s₂.heap, slotsUsed := s₂.slotsUsed } : State) = { U.setFrames U.frames with heap := s₂.heap, slotsUsed := s₂.slotsUsed }
      rw [State.setFrames_self ht]
    subst hg
    refine Or.inl ⟨v, ⟨(({ U with heap := s₂.heap, slotsUsed := s₂.slotsUsed } : State).setVm s₂.vm), Ls ++ L, c0 + mc, s0 + ms⟩,
      ⟨X.admits, X.cas, X.clock, X.frames, X.room, X.hears, X.method, X.code, (X.here.setHeapUsed s₂.heap s₂.slotsUsed).setVm hW'.alike, X.tail, State.WarmedH.trans X.warmed hW', X.limits, X.bytes, X.same.trans (hsame.setVm s.vm)⟩,
      ⟨g, mk, s₂, L, rfl, rfl, hqc, rfl, hL, rfl, rfl⟩, ?_⟩
    show Steps p.tables e below _ ((({ U with heap := s₂.heap, slotsUsed := s₂.slotsUsed } : State).setVm s₂.vm).setTop { g with pc := g.pc + len₂, stack := v.toList ++ g.stack })
    rw [← hs₂]
    exact hsteps
  · obtain ⟨e2, q2, q3, q4, q5, q6⟩ := id hsm
    have e3 : s₂ = ({ (U.calling g mk a).setFrames s₂.frames with heap := s₂.heap, slotsUsed := s₂.slotsUsed } : State).setVm s₂.vm := by
      have : s₂ = ({ s₂ with vm := (U.calling g mk a).vm } : State).setVm s₂.vm := rfl
      rw [e2] at this
      exact this
    have hf₂ : s₂.frames = .throwing q :: .java g :: U.frames.tail := hend
    have hW' : U.WarmedH s₂.vm := hW₂
    have hs₂ : s₂ = ((({ U with heap := s₂.heap, slotsUsed := s₂.slotsUsed } : State).setVm s₂.vm).setTop g).pushFrame (.throwing q) := by
      refine e3.trans ?_
      rw [hf₂, State.calling_eq h.top, State.setFrames_setFrames, State.pushFrame, State.frames_setTop _ hr', State.setTop_of_frames _ hr', State.setFrames_setFrames, hr]
      rfl
    have hsame : U.sameButNew ({ U with heap := s₂.heap, slotsUsed := s₂.slotsUsed } : State) L mc ms := by
      refine ⟨?_, q2, q3, q4, q5, q6⟩
      obtain ⟨t, ht, -⟩ := State.frames_cons hr
      show ({ U with heap := s₂.heap, slotsUsed := s₂.slotsUsed } : State) = { U.setFrames U.frames with heap := s₂.heap, slotsUsed := s₂.slotsUsed }
      rw [State.setFrames_self ht]
    subst hg
    refine Or.inr ⟨q, ⟨(({ U with heap := s₂.heap, slotsUsed := s₂.slotsUsed } : State).setVm s₂.vm), Ls ++ L, c0 + mc, s0 + ms⟩,
      ⟨X.admits, X.cas, X.clock, X.frames, X.room, X.hears, X.method, X.code, (X.here.setHeapUsed s₂.heap s₂.slotsUsed).setVm hW'.alike, X.tail, State.WarmedH.trans X.warmed hW', X.limits, X.bytes, X.same.trans (hsame.setVm s.vm)⟩,
      ⟨g, mk, s₂, L, E, ce, rfl, rfl, hx, hce, hcv, hcl, rfl, hL, rfl, rfl⟩, ?_⟩
    show Steps p.tables e below _ (((({ U with heap := s₂.heap, slotsUsed := s₂.slotsUsed } : State).setVm s₂.vm).setTop g).pushFrame (.throwing q))
    rw [← hs₂]
    exact hsteps
end
variable {p : Program} {l : Launch} {e : Env} {R : Room} {s : State} {m : MethodId} {args : Array Value} {below : List Frame} {meth : Method} {c : Code} {T : State} {H : Heap} {locs : List Loc} {cells slots : Nat}
theorem vx_callVX (X : Stand p l e R s m args below meth c T locs cells slots) (hexec : p.tables.exec = Jvm.exec) {own C : String} {index : Nat} {y : MethodName} {bytes : ByteArray} {maxL : Nat} {ret : Option FieldType} {hh : List (Nat × Nat × Nat × Nat)}
    (hown : s.vm.findClass own = some m.cls) (hlink : (Cond.methodLink own index y).before args s = true) (hinst : (Cond.instanceMethod y).before args s = true) (hsel : (Cond.selects C y y).before args s = true)
    (hcode : (Cond.codeWith y bytes maxL ret hh).before args s = true) (hy : y.cls ≠ "java/lang/invoke/MethodHandle" ∧ y.cls ≠ "java/lang/invoke/VarHandle")
    {W9 : Nat} {Pre : Pt → Array Value → Prop} {Post : Pt → Array Value → Option Value → Pt → Prop} {PostX : Pt → Array Value → Addr → Pt → Prop} (hK : vx_Back l R p e below s args y 3 W9 Pre Post PostX)
    {b : Addr} {cellB : Cell} (hcell : T.heap[b]? = some cellB) (hobj : cellB.vm.isStatics = false) (hcls : s.vm.findClass C = some cellB.cls)
    {g : JFrame} (hg : g.method = m) (hsize : g.locals.size = c.maxLocals) {argsL rest : List Value} (hlen : ∀ sig, parseMethodDescriptor y.desc = some sig → argsL.length = sig.parameters.length)
    (hstack : g.stack = argsL.reverse ++ .ref b :: rest) (hW : 2 * g.monitorRoom + (rest.map fun v => v.category).sum ≤ W9) (hdg : decode c.code g.pc = .ok (.invokevirtual index, 3))
    (hpre : ∀ vm₁, s.WarmedH vm₁ → Pre ⟨T.setVm vm₁, locs, cells, slots⟩ (Value.ref b :: argsL).toArray) :
    (∃ (v : Option Value) (vm₁ : Vm) (B : Pt), s.WarmedH vm₁ ∧ Stand p l e R s m args below meth c B.U B.locs B.cells B.slots ∧ Post ⟨T.setVm vm₁, locs, cells, slots⟩ (Value.ref b :: argsL).toArray v B ∧
      ∀ target, Steps p.tables e below (B.U.setTop { g with pc := g.pc + 3, stack := v.toList ++ rest }) target → Steps p.tables e below (T.setTop g) target) ∨
    (∃ (q : Addr) (vm₁ : Vm) (B : Pt), s.WarmedH vm₁ ∧ Stand p l e R s m args below meth c B.U B.locs B.cells B.slots ∧ PostX ⟨T.setVm vm₁, locs, cells, slots⟩ (Value.ref b :: argsL).toArray q B ∧
      Steps p.tables e below (T.setTop g) ((B.U.setTop { g with stack := rest }).pushFrame (.throwing q))) := by
  obtain ⟨mk, methM, hnamed, hmethM, hstM, habM⟩ := Cond.instanceMethod_spec hinst
  obtain ⟨m8, methM', cM, hn8, hmethM', -, -, -, -, -, -, hsigM⟩ := Cond.codeWith_spec hcode
  cases Option.some.inj (hn8.symm.trans hnamed)
  cases hmethM.symm.trans hmethM'
  obtain ⟨c2, r2, m2, q1, q2, q3, q4, kP, hkP, hkPi⟩ := Cond.selects_spec hsel
  cases hcls.symm.trans q1
  cases (State.methodFound?_of_named hnamed hy).symm.trans q2
  cases hnamed.symm.trans q3
  have hselP : selectMethod e.platform s.vm cellB.cls mk = .method mk := by rw [Launch.admits_selectMethod X.admits]; exact q4
  obtain ⟨vm₁, X₁, hstep₁⟩ := X.invokevirtual hexec hown hlink hnamed hmethM hstM hkP hkPi hy (a := b) (cell := cellB) hcell
    (fun z h => by rw [h] at hobj; cases hobj) hselP hmethM habM hkP hkPi (g := g) hg (argsL := argsL) (rest := rest) (hlen _ hsigM) hstack hdg
  rcases hK m meth c ⟨T.setVm vm₁, locs, cells, slots⟩ { g with stack := rest } (.invokevirtual index) mk (Value.ref b :: argsL).toArray X₁ hg hsize hdg hW (X₁.named hnamed) (hpre vm₁ X₁.warmed) with ⟨v, B, X', hpost, hsteps⟩ | ⟨q, B, X', hpost, hsteps⟩
  · exact Or.inl ⟨v, vm₁, B, X₁.warmed, X', hpost, fun target h => hstep₁ _ fun acts => by rw [doInvoke_state]; exact hsteps.trans h⟩
  · exact Or.inr ⟨q, vm₁, B, X₁.warmed, X', hpost, hstep₁ _ fun acts => by rw [doInvoke_state]; exact hsteps⟩
theorem vx_callSX (X : Stand p l e R s m args below meth c T locs cells slots) (hexec : p.tables.exec = Jvm.exec) {own : String} {index : Nat} {y : MethodName} {bytes : ByteArray} {maxL : Nat} {ret : Option FieldType} {hh : List (Nat × Nat × Nat × Nat)}
    (hown : s.vm.findClass own = some m.cls) (hlink : (Cond.methodLink own index y).before args s = true) (hstat : (Cond.static y).before args s = true) (hinit : (Cond.initialized y.cls).before args s = true)
    (hcode : (Cond.codeWith y bytes maxL ret hh).before args s = true) (hy : y.cls ≠ "java/lang/invoke/MethodHandle" ∧ y.cls ≠ "java/lang/invoke/VarHandle")
    {W9 : Nat} {Pre : Pt → Array Value → Prop} {Post : Pt → Array Value → Option Value → Pt → Prop} {PostX : Pt → Array Value → Addr → Pt → Prop} (hK : vx_Back l R p e below s args y 3 W9 Pre Post PostX)
    {g : JFrame} (hg : g.method = m) (hsize : g.locals.size = c.maxLocals) {argsL rest : List Value} (hlen : ∀ sig, parseMethodDescriptor y.desc = some sig → argsL.length = sig.parameters.length)
    (hstack : g.stack = argsL.reverse ++ rest) (hW : 2 * g.monitorRoom + (rest.map fun v => v.category).sum ≤ W9) (hdg : decode c.code g.pc = .ok (.invokestatic index, 3))
    (hpre : ∀ vm₁, s.WarmedH vm₁ → Pre ⟨T.setVm vm₁, locs, cells, slots⟩ argsL.toArray) :
    (∃ (v : Option Value) (vm₁ : Vm) (B : Pt), s.WarmedH vm₁ ∧ Stand p l e R s m args below meth c B.U B.locs B.cells B.slots ∧ Post ⟨T.setVm vm₁, locs, cells, slots⟩ argsL.toArray v B ∧
      ∀ target, Steps p.tables e below (B.U.setTop { g with pc := g.pc + 3, stack := v.toList ++ rest }) target → Steps p.tables e below (T.setTop g) target) ∨
    (∃ (q : Addr) (vm₁ : Vm) (B : Pt), s.WarmedH vm₁ ∧ Stand p l e R s m args below meth c B.U B.locs B.cells B.slots ∧ PostX ⟨T.setVm vm₁, locs, cells, slots⟩ argsL.toArray q B ∧
      Steps p.tables e below (T.setTop g) ((B.U.setTop { g with stack := rest }).pushFrame (.throwing q))) := by
  obtain ⟨mk, methM, cM, hnamed, hmethM, -, -, -, -, -, -, hsigM⟩ := Cond.codeWith_spec hcode
  have hstatic : methM.isStatic = true := Cond.static_spec hnamed hmethM hstat
  obtain ⟨kP, hkP, -⟩ := className_of_methodNamed hnamed
  have hinitP : kP.init = .initialized := Cond.initialized_spec (findClass_of_methodNamed hnamed) hkP hinit
  obtain ⟨vm₁, X₁, hstep₁⟩ := X.invokestatic hexec hown hlink hnamed hmethM hstatic hkP hinitP hy (g := g) hg (argsL := argsL) (rest := rest) (hlen _ hsigM) hstack hdg
  rcases hK m meth c ⟨T.setVm vm₁, locs, cells, slots⟩ { g with stack := rest } (.invokestatic index) mk argsL.toArray X₁ hg hsize hdg hW (X₁.named hnamed) (hpre vm₁ X₁.warmed) with ⟨v, B, X', hpost, hsteps⟩ | ⟨q, B, X', hpost, hsteps⟩
  · exact Or.inl ⟨v, vm₁, B, X₁.warmed, X', hpost, fun target h => hstep₁ _ fun acts => by rw [doInvoke_state]; exact hsteps.trans h⟩
  · exact Or.inr ⟨q, vm₁, B, X₁.warmed, X', hpost, hstep₁ _ fun acts => by rw [doInvoke_state]; exact hsteps⟩
theorem vx_callVW (X : Stand p l e R s m args below meth c T locs cells slots) (hexec : p.tables.exec = Jvm.exec) {own C : String} {index : Nat} {y : MethodName} {bytes : ByteArray} {maxL : Nat} {ret : Option FieldType} {hh : List (Nat × Nat × Nat × Nat)}
    (hown : s.vm.findClass own = some m.cls) (hlink : (Cond.methodLink own index y).before args s = true) (hinst : (Cond.instanceMethod y).before args s = true) (hsel : (Cond.selects C y y).before args s = true)
    (hcode : (Cond.codeWith y bytes maxL ret hh).before args s = true) (hy : y.cls ≠ "java/lang/invoke/MethodHandle" ∧ y.cls ≠ "java/lang/invoke/VarHandle")
    {W9 : Nat} {Pre : Pt → Array Value → Prop} {Post : Pt → Array Value → Option Value → Pt → Prop} (hK : Back l R p e below s args y 3 W9 Pre Post)
    {b : Addr} {cellB : Cell} (hcell : T.heap[b]? = some cellB) (hobj : cellB.vm.isStatics = false) (hcls : s.vm.findClass C = some cellB.cls)
    {g : JFrame} (hg : g.method = m) (hsize : g.locals.size = c.maxLocals) {argsL rest : List Value} (hlen : ∀ sig, parseMethodDescriptor y.desc = some sig → argsL.length = sig.parameters.length)
    (hstack : g.stack = argsL.reverse ++ .ref b :: rest) (hW : 2 * g.monitorRoom + (rest.map fun v => v.category).sum ≤ W9) (hdg : decode c.code g.pc = .ok (.invokevirtual index, 3))
    (hpre : ∀ vm₁, s.WarmedH vm₁ → Pre ⟨T.setVm vm₁, locs, cells, slots⟩ (Value.ref b :: argsL).toArray) :
    ∃ (v : Option Value) (vm₁ : Vm) (B : Pt), s.WarmedH vm₁ ∧ Stand p l e R s m args below meth c B.U B.locs B.cells B.slots ∧ Post ⟨T.setVm vm₁, locs, cells, slots⟩ (Value.ref b :: argsL).toArray v B ∧
      ∀ target, Steps p.tables e below (B.U.setTop { g with pc := g.pc + 3, stack := v.toList ++ rest }) target → Steps p.tables e below (T.setTop g) target := by
  obtain ⟨mk, methM, hnamed, hmethM, hstM, habM⟩ := Cond.instanceMethod_spec hinst
  obtain ⟨m8, methM', cM, hn8, hmethM', -, -, -, -, -, -, hsigM⟩ := Cond.codeWith_spec hcode
  cases Option.some.inj (hn8.symm.trans hnamed)
  cases hmethM.symm.trans hmethM'
  obtain ⟨c2, r2, m2, q1, q2, q3, q4, kP, hkP, hkPi⟩ := Cond.selects_spec hsel
  cases hcls.symm.trans q1
  cases (State.methodFound?_of_named hnamed hy).symm.trans q2
  cases hnamed.symm.trans q3
  have hselP : selectMethod e.platform s.vm cellB.cls mk = .method mk := by rw [Launch.admits_selectMethod X.admits]; exact q4
  obtain ⟨vm₁, X₁, hstep₁⟩ := X.invokevirtual hexec hown hlink hnamed hmethM hstM hkP hkPi hy (a := b) (cell := cellB) hcell
    (fun z h => by rw [h] at hobj; cases hobj) hselP hmethM habM hkP hkPi (g := g) hg (argsL := argsL) (rest := rest) (hlen _ hsigM) hstack hdg
  obtain ⟨v, B, X', hpost, hsteps⟩ := hK m meth c ⟨T.setVm vm₁, locs, cells, slots⟩ { g with stack := rest } (.invokevirtual index) mk (Value.ref b :: argsL).toArray X₁ hg hsize hdg hW (X₁.named hnamed) (hpre vm₁ X₁.warmed)
  exact ⟨v, vm₁, B, X₁.warmed, X', hpost, fun target h => hstep₁ _ fun acts => by rw [doInvoke_state]; exact hsteps.trans h⟩
abbrev vx_CVW (R : Room) (s : State) (args : Array Value) (own C : String) (index : Nat) (y : MethodName) (bytes : ByteArray) (maxL : Nat) (ret : Option FieldType) (hh : List (Nat × Nat × Nat × Nat)) (ws : List Cond) (rm : Room) (mc ms n : Nat) : Prop :=
  (rm.cells = mc ∧ rm.slots = ms ∧ rm.frames + 1 ≤ R.frames ∧ 8 + (maxL + 11) + rm.locals ≤ R.locals ∧ (∀ w ∈ ws, ∀ (a' : Array Value) (U : State), s.WarmedH U.vm → w.before a' U = true) ∧ Cond.codeWith y bytes maxL ret hh ∈ ws) ∧
  (Cond.codeWith y bytes maxL ret hh).before args s = true ∧ (Cond.initialized y.cls).before args s = true ∧ (y.cls ≠ "java/lang/invoke/MethodHandle" ∧ y.cls ≠ "java/lang/invoke/VarHandle") ∧
  (∀ sig, parseMethodDescriptor y.desc = some sig → n = sig.parameters.length) ∧ (Cond.methodLink own index y).before args s = true ∧ (Cond.instanceMethod y).before args s = true ∧ (Cond.selects C y y).before args s = true
theorem vx_cwVW {own C : String} {index maxL mc ms : Nat} {y : MethodName} {bytes : ByteArray} {ret : Option FieldType} {hh : List (Nat × Nat × Nat × Nat)} {Ts ws ws' : List Cond} {rm : Room} (n : Nat) (ht : ∀ w ∈ Ts, w.before args s = true) (hT : GoodIn Ts (wsV own index C y ws)) (hw : ws = Cond.codeWith y bytes maxL ret hh :: ws') (hrc : rm.cells = mc) (hrs : rm.slots = ms)
    (hd : y.cls = C ∧ y.cls ≠ "java/lang/invoke/MethodHandle" ∧ y.cls ≠ "java/lang/invoke/VarHandle" ∧ (parseMethodDescriptor y.desc).map (fun d => d.parameters.length) = some n) (hR : rm.frames + 1 ≤ R.frames ∧ 8 + (maxL + 11) + rm.locals ≤ R.locals) :
    vx_CVW R s args own C index y bytes maxL ret hh ws rm mc ms n := by
  obtain ⟨hC, hd⟩ := hd
  subst hC
  have ok : ∀ w ∈ wsV own index y.cls y ws, w.before args s = true := fun w h => ht w (hT w h).1
  have hG : GoodIn Ts ws := fun w h => hT w (by unfold wsV; exact List.mem_append_right _ h)
  have hc : Cond.codeWith y bytes maxL ret hh ∈ ws := by rw [hw]; exact List.mem_cons_self
  refine ⟨⟨hrc, hrs, hR.1, hR.2, pay_in ht hG, hc⟩, ht _ (hG _ hc).1, ok _ (by simp [wsV]), ⟨hd.1, hd.2.1⟩, fun sig h => ?_, ok _ (by simp [wsV]), ok _ (by simp [wsV]), ok _ (by simp [wsV])⟩
  have h2 := hd.2.2
  rw [h] at h2
  exact (Option.some.inj h2).symm
theorem vx_runVW {y : MethodName} {bytes cc : ByteArray} {maxL nL mc ms n index : Nat} {ret : Option FieldType} {hh : List (Nat × Nat × Nat × Nat)} {ws : List Cond} {rm : Room} {Pc : Array Value → State → Prop} {Qc : Array Value → State → Outcome → State → Prop} {free : Addr → Prop} {Ts : List Cond} {own C : String} {b : Addr} {As rest : List Value} {g : JFrame}
    (S : CallFix p m c cc nL s args Ts own) (hM : Met l y ws rm Pc Qc mc ms free) (cw : vx_CVW R s args own C index y bytes maxL ret hh ws rm mc ms n) (hp : PreV s H C b Pc As)
    (hg : g.method = m) (hn : As.length = n) (hsize : g.locals.size = nL) (hstack : g.stack = As.reverse ++ .ref b :: rest) (hW : 2 * g.monitorRoom + (rest.map fun v => v.category).sum ≤ 8) (hdg : decode cc g.pc = .ok (.invokevirtual index, 3)) (hf : cells + mc ≤ R.cells ∧ slots + ms ≤ R.slots) :
    va_Run p l e R s m args below meth c H locs cells slots mc ms g rest (Qc (Value.ref b :: As).toArray) free := by
  obtain ⟨⟨hrc, hrs, hfr, hlo, hws, hcw⟩, hcode, hini, hy, hlen, hl, hin, hse⟩ := cw
  have hK : Back l R p e below s args y 3 8 (PreOf R mc ms Pc) (PostOf Qc mc ms free) := va_backW (hh := hh) (bytes := bytes) (maxL := maxL) (ret := ret) hM hp.1 hrc hrs hfr hlo hws hcw (fun a' U hW => word_at hW (Or.inl (by first | rfl | simp [Cond.onTables, Cond.keeps, Cond.steady])) hini)
  obtain ⟨hx, hb, hml, ho, -⟩ := S
  obtain ⟨-, ⟨cellB, hcB, hoB, hclB⟩, hPc⟩ := hp
  intro T hT X
  obtain ⟨v, vm₁, ⟨U', l2, c2, s2⟩, hW₁, X', ⟨g', mk, t, L, e1, e2, hq, h1, hL, h2, h3⟩, st⟩ := vx_callVW X hx (C := C) (hh := hh) (bytes := bytes) (maxL := maxL) (ret := ret) ho hl hin hse hcode hy hK (by rw [hT]; exact hcB) hoB hclB hg (hsize.trans hml.symm) (argsL := As) (rest := rest) (fun sig h => hn.trans (hlen sig h)) hstack hW (by rw [hb]; exact hdg)
    (fun vm₁ hW₁ => ⟨hf.1, hf.2, hPc (T.setVm vm₁) hT hW₁⟩)
  dsimp only [Pt.U, Pt.locs, Pt.cells, Pt.slots] at X' e1 e2 h1 h2 h3 st
  subst h1; subst h2; subst h3
  exact ⟨v, (T.setVm vm₁).calling g' mk (Value.ref b :: As).toArray, t, U', L, hT, X', hL, e1, e2, hq, st⟩
section
variable {y : MethodName} {bytes cc : ByteArray} {maxL nL mc ms n index : Nat} {ret : Option FieldType} {ws : List Cond} {rm : Room} {Pc : Array Value → State → Prop} {Qc : Array Value → State → Outcome → State → Prop} {XC : String → State → State → Prop} {free : Addr → Prop} {Ts : List Cond} {own C : String} {b : Addr} {As rest : List Value} {g : JFrame}
theorem vx_runVX {hh : List (Nat × Nat × Nat × Nat)} (S : CallFix p m c cc nL s args Ts own) (hM : vx_Met l y ws rm Pc Qc XC mc ms free) (cw : vx_CVW R s args own C index y bytes maxL ret hh ws rm mc ms n) (hp : PreV s H C b Pc As)
    (hg : g.method = m) (hn : As.length = n) (hsize : g.locals.size = nL) (hstack : g.stack = As.reverse ++ .ref b :: rest) (hW : 2 * g.monitorRoom + (rest.map fun v => v.category).sum ≤ 8) (hdg : decode cc g.pc = .ok (.invokevirtual index, 3)) (hf : cells + mc ≤ R.cells ∧ slots + ms ≤ R.slots) :
    vx_Run p l e R s m args below meth c H locs cells slots mc ms g rest (Qc (Value.ref b :: As).toArray) XC free := by
  obtain ⟨⟨hrc, hrs, hfr, hlo, hws, hcw⟩, hcode, hini, hy, hlen, hl, hin, hse⟩ := cw
  have hK : vx_Back l R p e below s args y 3 8 (PreOf R mc ms Pc) (PostOf Qc mc ms free) (vx_Post XC mc ms free) := vx_backW (hh := hh) (bytes := bytes) (maxL := maxL) (ret := ret) hM hp.1 hrc hrs hfr hlo hws hcw (fun a' U hW => word_at hW (Or.inl (by first | rfl | simp [Cond.onTables, Cond.keeps, Cond.steady])) hini)
  obtain ⟨hx, hb, hml, ho, -⟩ := S
  obtain ⟨-, ⟨cellB, hcB, hoB, hclB⟩, hPc⟩ := hp
  intro T hT X
  rcases vx_callVX X hx (C := C) (hh := hh) (bytes := bytes) (maxL := maxL) (ret := ret) ho hl hin hse hcode hy hK (by rw [hT]; exact hcB) hoB hclB hg (hsize.trans hml.symm) (argsL := As) (rest := rest) (fun sig h => hn.trans (hlen sig h)) hstack hW (by rw [hb]; exact hdg)
    (fun vm₁ hW₁ => ⟨hf.1, hf.2, hPc (T.setVm vm₁) hT hW₁⟩) with ⟨v, vm₁, ⟨U', l2, c2, s2⟩, hW₁, X', ⟨g', mk, t, L, e1, e2, hq, h1, hL, h2, h3⟩, st⟩ | ⟨q, vm₁, ⟨U', l2, c2, s2⟩, hW₁, X', ⟨g', mk, t, L, E, ce, e1, e2, hq, hce, hcv, hcl, h1, hL, h2, h3⟩, st⟩
  · dsimp only [Pt.U, Pt.locs, Pt.cells, Pt.slots] at X' e1 e2 h1 h2 h3 st
    subst h1; subst h2; subst h3
    exact Or.inl ⟨v, (T.setVm vm₁).calling g' mk (Value.ref b :: As).toArray, t, U', L, hT, X', hL, e1, e2, hq, st⟩
  · dsimp only [Pt.U, Pt.locs, Pt.cells, Pt.slots] at X' e1 e2 h1 h2 h3 st hcl
    subst h1; subst h2; subst h3
    exact Or.inr ⟨q, (T.setVm vm₁).calling g' mk (Value.ref b :: As).toArray, t, U', L, E, ce, hT, X', hL, e1, e2, hq, hce, hcv, vx_cls hW₁ hcl, st⟩
theorem vx_runSX {hh : List (Nat × Nat × Nat × Nat)} (S : CallFix p m c cc nL s args Ts own) (hM : vx_Met l y ws rm Pc Qc XC mc ms free) (cw : vx_CSW R s args own index y bytes maxL ret hh ws rm mc ms n) (hp : PreS s H Pc As)
    (hg : g.method = m) (hn : As.length = n) (hsize : g.locals.size = nL) (hstack : g.stack = As.reverse ++ rest) (hW : 2 * g.monitorRoom + (rest.map fun v => v.category).sum ≤ 8) (hdg : decode cc g.pc = .ok (.invokestatic index, 3)) (hf : cells + mc ≤ R.cells ∧ slots + ms ≤ R.slots) :
    vx_Run p l e R s m args below meth c H locs cells slots mc ms g rest (Qc As.toArray) XC free := by
  obtain ⟨⟨hrc, hrs, hfr, hlo, hws, hcw⟩, hcode, hini, hy, hlen, hl, hstt⟩ := cw
  have hK : vx_Back l R p e below s args y 3 8 (PreOf R mc ms Pc) (PostOf Qc mc ms free) (vx_Post XC mc ms free) := vx_backW (hh := hh) (bytes := bytes) (maxL := maxL) (ret := ret) hM hp.1 hrc hrs hfr hlo hws hcw (fun a' U hW => word_at hW (Or.inl (by first | rfl | simp [Cond.onTables, Cond.keeps, Cond.steady])) hini)
  obtain ⟨hx, hb, hml, ho, -⟩ := S
  intro T hT X
  rcases vx_callSX X hx (hh := hh) (bytes := bytes) (maxL := maxL) (ret := ret) ho hl hstt hini hcode hy hK hg (hsize.trans hml.symm) (argsL := As) (rest := rest) (fun sig h => hn.trans (hlen sig h)) hstack hW (by rw [hb]; exact hdg)
    (fun vm₁ hW₁ => ⟨hf.1, hf.2, hp.2 (T.setVm vm₁) hT hW₁⟩) with ⟨v, vm₁, ⟨U', l2, c2, s2⟩, hW₁, X', ⟨g', mk, t, L, e1, e2, hq, h1, hL, h2, h3⟩, st⟩ | ⟨q, vm₁, ⟨U', l2, c2, s2⟩, hW₁, X', ⟨g', mk, t, L, E, ce, e1, e2, hq, hce, hcv, hcl, h1, hL, h2, h3⟩, st⟩
  · dsimp only [Pt.U, Pt.locs, Pt.cells, Pt.slots] at X' e1 e2 h1 h2 h3 st
    subst h1; subst h2; subst h3
    exact Or.inl ⟨v, (T.setVm vm₁).calling g' mk As.toArray, t, U', L, hT, X', hL, e1, e2, hq, st⟩
  · dsimp only [Pt.U, Pt.locs, Pt.cells, Pt.slots] at X' e1 e2 h1 h2 h3 st hcl
    subst h1; subst h2; subst h3
    exact Or.inr ⟨q, (T.setVm vm₁).calling g' mk As.toArray, t, U', L, E, ce, hT, X', hL, e1, e2, hq, hce, hcv, vx_cls hW₁ hcl, st⟩
end
end VXH
theorem vx_ofWH {l : Launch} {y : MethodName} {ws ws' : List Cond} {rm : Room} {Pc : Array Value → State → Prop} {Qc : Array Value → State → Outcome → State → Prop} {XC : String → State → State → Prop} {mc ms : Nat} {free : Addr → Prop} {cc : ByteArray} {maxL : Nat} {ret : Option FieldType} {hh : List (Nat × Nat × Nat × Nat)}
    (hy : plainName y.cls = true) (hw : ws = Cond.codeWith y cc maxL ret hh :: ws')
    (body : ∀ p e s m args below meth c s₁, BodyLoose p l y (headSpec ws rm) cc maxL ret e s m args below meth c s₁ → c.maxLocals = maxL → Pc args s →
      W p l e (headSpec ws rm).room s m args below meth c s.heap [] 0 0 (vx_MQ below Qc XC args s mc ms free) (entryFrame m args maxL)) : vx_Met l y ws rm Pc Qc XC mc ms free := by
  refine MetFree.of_bodyS (code := cc) (maxLocals := maxL) (ret := ret) hy ?_ ?_
  · intro args s m h hn
    obtain ⟨m9, meth, c, hn9, h1, h2, h3, h4, -, h5, h6, -⟩ := Cond.codeWith_spec (atoms_spec (ws := ws) h _ (by rw [hw]; exact List.mem_cons_self))
    cases hn.symm.trans hn9
    exact ⟨meth, c, h1, h2, h3, h4, h5, h6⟩
  · intro p e s m args below meth c s₁ B hml hP _
    have hh0 : s₁.heap = s.heap := by rw [B.state]; rfl
    obtain ⟨t, a1, o, b1, b2, b3⟩ := body p e s m args below meth c s₁ B hml hP s₁ hh0 (Stand.of_body B)
    exact ⟨t, o, a1, b1, b2, b3⟩
/-! ===== END ===== -/
end
section
/-! ===== BEGIN printed: names, fields, word lists, decode rows ===== -/
def RX0 : String := "ChecksumLab$Model"
def TX0 : u_T := fun k => match k with
  | 0 => ("ChecksumLab$Model", "width", "I", true)
  | 1 => ("ChecksumLab$Model", "poly", "I", true)
  | 2 => ("ChecksumLab$Model", "init", "I", true)
  | 3 => ("ChecksumLab$Model", "reflectIn", "Z", true)
  | 4 => ("ChecksumLab$Model", "reflectOut", "Z", true)
  | 5 => ("ChecksumLab$Model", "xorOut", "I", true)
  | 6 => ("ChecksumLab$Model", "mask", "I", true)
  | _ => ("ChecksumLab$Model", "highest", "I", true)
def tyX0 : Nat → FieldType := fun k => match k with
  | 0 => .int
  | 1 => .int
  | 2 => .int
  | 3 => .boolean
  | 4 => .boolean
  | 5 => .int
  | 6 => .int
  | _ => .int
abbrev wsX00 : List Cond := u_ws RX0 TX0 8
theorem nmX0 : ∀ a, a < 8 → ∀ b, b < 8 → a ≠ b → (TX0 a).2.1 ≠ (TX0 b).2.1 := by decide +kernel
theorem tyX0_ok : ∀ k, k < 8 → parseFieldDescriptor (TX0 k).2.2.1 = some (tyX0 k) := by decide +kernel
abbrev cX0_init : ByteArray := prog_2_method_1_code
def yX0_init : MethodName := ⟨RX0, "<init>", "(IIIZZI)V"⟩
abbrev cX0_timesX : ByteArray := prog_2_method_2_code
def yX0_timesX : MethodName := ⟨RX0, "timesX", "(I)I"⟩
abbrev cX0_takeBit : ByteArray := prog_2_method_5_code
def yX0_takeBit : MethodName := ⟨RX0, "takeBit", "(II)I"⟩
abbrev cX0_takeByte : ByteArray := prog_2_method_6_code
def yX0_takeByte : MethodName := ⟨RX0, "takeByte", "(II)I"⟩
abbrev cX0_divideByte : ByteArray := prog_2_method_7_code
def yX0_divideByte : MethodName := ⟨RX0, "divideByte", "(II)I"⟩
abbrev cX0_inTakenOrder : ByteArray := prog_2_method_8_code
def yX0_inTakenOrder : MethodName := ⟨RX0, "inTakenOrder", "(I)I"⟩
abbrev cX0_inSumOrder : ByteArray := prog_2_method_9_code
def yX0_inSumOrder : MethodName := ⟨RX0, "inSumOrder", "(I)I"⟩
abbrev cX0_sumOfRegister : ByteArray := prog_2_method_10_code
def yX0_sumOfRegister : MethodName := ⟨RX0, "sumOfRegister", "(I)I"⟩
def RX1 : String := "ChecksumLab"
def TX1 : u_T := fun k => match k with
  | 0 => ("ChecksumLab", "defined", "[LChecksumLab$Model;", true)
  | 1 => ("ChecksumLab", "definedCount", "I", false)
  | 2 => ("ChecksumLab", "rows", "[[I", true)
  | _ => ("ChecksumLab", "sizes", "[I", true)
def tyX1 : Nat → FieldType := fun k => match k with
  | 0 => .array (.object "ChecksumLab$Model")
  | 1 => .int
  | 2 => .array (.array .int)
  | _ => .array .int
abbrev wsX10 : List Cond := u_ws RX1 TX1 4
theorem nmX1 : ∀ a, a < 4 → ∀ b, b < 4 → a ≠ b → (TX1 a).2.1 ≠ (TX1 b).2.1 := by decide +kernel
theorem tyX1_ok : ∀ k, k < 4 → parseFieldDescriptor (TX1 k).2.2.1 = some (tyX1 k) := by decide +kernel
abbrev cX1_init : ByteArray := prog_1_method_1_code
def yX1_init : MethodName := ⟨RX1, "<init>", "()V"⟩
abbrev cX1_define : ByteArray := prog_1_method_2_code
def yX1_define : MethodName := ⟨RX1, "define", "(IIIZZI)I"⟩
abbrev cX1_append : ByteArray := prog_1_method_8_code
def yX1_append : MethodName := ⟨RX1, "append", "(II)I"⟩
abbrev cX1_setByte : ByteArray := prog_1_method_11_code
def yX1_setByte : MethodName := ⟨RX1, "setByte", "(III)I"⟩
abbrev cX1_byteAt : ByteArray := prog_1_method_14_code
def yX1_byteAt : MethodName := ⟨RX1, "byteAt", "(II)I"⟩
abbrev cX1_sum : ByteArray := prog_1_method_15_code
def yX1_sum : MethodName := ⟨RX1, "sum", "(II)I"⟩
abbrev cX1_sumOfPart : ByteArray := prog_1_method_16_code
def yX1_sumOfPart : MethodName := ⟨RX1, "sumOfPart", "(IIII)I"⟩
abbrev cX1_remainder : ByteArray := prog_1_method_17_code
def yX1_remainder : MethodName := ⟨RX1, "remainder", "(II)I"⟩
abbrev cX1_findModel : ByteArray := prog_1_method_26_code
def yX1_findModel : MethodName := ⟨RX1, "findModel", "(I)LChecksumLab$Model;"⟩
abbrev cX1_partSum : ByteArray := prog_1_method_27_code
def yX1_partSum : MethodName := ⟨RX1, "partSum", "(LChecksumLab$Model;III)I"⟩
abbrev cX1_requireRow : ByteArray := prog_1_method_28_code
def yX1_requireRow : MethodName := ⟨RX1, "requireRow", "(I)V"⟩
abbrev cX1_requireIndex : ByteArray := prog_1_method_29_code
def yX1_requireIndex : MethodName := ⟨RX1, "requireIndex", "(II)V"⟩
abbrev cX1_requireRoom : ByteArray := prog_1_method_30_code
def yX1_requireRoom : MethodName := ⟨RX1, "requireRoom", "(II)V"⟩
abbrev cX1_requireByte : ByteArray := prog_1_method_31_code
def yX1_requireByte : MethodName := ⟨RX1, "requireByte", "(I)V"⟩
abbrev cX1_requireNumber : ByteArray := prog_1_method_33_code
def yX1_requireNumber : MethodName := ⟨RX1, "requireNumber", "(II)V"⟩
abbrev cX1_reversed : ByteArray := prog_1_method_39_code
def yX1_reversed : MethodName := ⟨RX1, "reversed", "(II)I"⟩
def RX2 : String := "ChecksumLabModel"
def TX2 : u_T := fun k => match k with
  | _ => ("", "", "", false)
def tyX2 : Nat → FieldType := fun k => match k with
  | _ => .int
abbrev wsX20 : List Cond := u_ws RX2 TX2 0
theorem nmX2 : ∀ a, a < 0 → ∀ b, b < 0 → a ≠ b → (TX2 a).2.1 ≠ (TX2 b).2.1 := by decide +kernel
theorem tyX2_ok : ∀ k, k < 0 → parseFieldDescriptor (TX2 k).2.2.1 = some (tyX2 k) := by decide +kernel
def RJ0 : String := "java/lang/String"
def TJ0 : u_T := fun k => match k with
  | _ => ("", "", "", false)
def tyJ0 : Nat → FieldType := fun k => match k with
  | _ => .int
abbrev wsJ00 : List Cond := u_ws RJ0 TJ0 0
theorem nmJ0 : ∀ a, a < 0 → ∀ b, b < 0 → a ≠ b → (TJ0 a).2.1 ≠ (TJ0 b).2.1 := by decide +kernel
theorem tyJ0_ok : ∀ k, k < 0 → parseFieldDescriptor (TJ0 k).2.2.1 = some (tyJ0 k) := by decide +kernel
def RL : String := "ChecksumLabLaw"
abbrev cL_drawn : ByteArray := method_2_code
def yL_drawn : MethodName := ⟨RL, "drawn", "([II)I"⟩
abbrev cL_model : ByteArray := method_3_code
def yL_model : MethodName := ⟨RL, "model", "(LChecksumLab;IIIII)I"⟩
abbrev cL_added : ByteArray := method_4_code
def yL_added : MethodName := ⟨RL, "added", "(LChecksumLab;II)I"⟩
abbrev cL_changed : ByteArray := method_5_code
def yL_changed : MethodName := ⟨RL, "changed", "(LChecksumLab;III)I"⟩
abbrev cL_at : ByteArray := method_6_code
def yL_at : MethodName := ⟨RL, "at", "(LChecksumLab;II)I"⟩
abbrev cL_sum : ByteArray := method_7_code
def yL_sum : MethodName := ⟨RL, "sum", "(LChecksumLab;IIIII)I"⟩
abbrev cL_isAffine : ByteArray := method_8_code
def yL_isAffine : MethodName := ⟨RL, "isAffine", "(LChecksumLab;IIII)Z"⟩
abbrev cL_law : ByteArray := code
def yL_law : MethodName := ⟨RL, "law", "([I)Z"⟩
def wsX0_init : List Cond := .code yX0_init cX0_init 7 none :: ([.methodLink RX0 3 objectInit, .instanceMethod objectInit, .code objectInit ⟨#[0xb1]⟩ 1 none, .fieldLink RX0 9 "ChecksumLab$Model" "width" "I", .fieldLink RX0 15 "ChecksumLab$Model" "poly" "I", .fieldLink RX0 18 "ChecksumLab$Model" "init" "I", .fieldLink RX0 21 "ChecksumLab$Model" "reflectIn" "Z", .fieldLink RX0 25 "ChecksumLab$Model" "reflectOut" "Z", .fieldLink RX0 28 "ChecksumLab$Model" "xorOut" "I", .fieldLink RX0 31 "ChecksumLab$Model" "mask" "I", .fieldLink RX0 34 "ChecksumLab$Model" "highest" "I"] ++ wsX00)
def wsX0_timesX : List Cond := .code yX0_timesX cX0_timesX 3 (some .int) :: ([.fieldLink RX0 31 "ChecksumLab$Model" "mask" "I", .fieldLink RX0 34 "ChecksumLab$Model" "highest" "I", .fieldLink RX0 15 "ChecksumLab$Model" "poly" "I"] ++ wsX00)
def wsX0_takeBit : List Cond := .code yX0_takeBit cX0_takeBit 3 (some .int) :: ([.fieldLink RX0 9 "ChecksumLab$Model" "width" "I", .methodLink RX0 37 yX0_timesX, .instanceMethod yX0_timesX, .selects RX0 yX0_timesX yX0_timesX, .initialized RX0, .code yX0_timesX cX0_timesX 3 (some .int), .fieldLink RX0 31 "ChecksumLab$Model" "mask" "I", .fieldLink RX0 34 "ChecksumLab$Model" "highest" "I", .fieldLink RX0 15 "ChecksumLab$Model" "poly" "I"] ++ wsX00)
def wsX1_reversed : List Cond := .code yX1_reversed cX1_reversed 4 (some .int) :: ([])
def wsX0_inTakenOrder : List Cond := .code yX0_inTakenOrder cX0_inTakenOrder 2 (some .int) :: ([.fieldLink RX0 21 "ChecksumLab$Model" "reflectIn" "Z", .static yX1_reversed, .initialized RX1, .code yX1_reversed cX1_reversed 4 (some .int)] ++ wsX00)
def wsX0_takeByte : List Cond := .code yX0_takeByte cX0_takeByte 6 (some .int) :: ([.methodLink RX0 45 yX0_inTakenOrder, .instanceMethod yX0_inTakenOrder, .selects RX0 yX0_inTakenOrder yX0_inTakenOrder, .initialized RX0, .code yX0_inTakenOrder cX0_inTakenOrder 2 (some .int), .fieldLink RX0 21 "ChecksumLab$Model" "reflectIn" "Z", .static yX1_reversed, .initialized RX1, .code yX1_reversed cX1_reversed 4 (some .int), .methodLink RX0 48 yX0_takeBit, .instanceMethod yX0_takeBit, .selects RX0 yX0_takeBit yX0_takeBit, .code yX0_takeBit cX0_takeBit 3 (some .int), .fieldLink RX0 9 "ChecksumLab$Model" "width" "I", .methodLink RX0 37 yX0_timesX, .instanceMethod yX0_timesX, .selects RX0 yX0_timesX yX0_timesX, .code yX0_timesX cX0_timesX 3 (some .int), .fieldLink RX0 31 "ChecksumLab$Model" "mask" "I", .fieldLink RX0 34 "ChecksumLab$Model" "highest" "I", .fieldLink RX0 15 "ChecksumLab$Model" "poly" "I"] ++ wsX00)
def wsX0_divideByte : List Cond := .code yX0_divideByte cX0_divideByte 5 (some .int) :: ([.methodLink RX0 37 yX0_timesX, .instanceMethod yX0_timesX, .selects RX0 yX0_timesX yX0_timesX, .initialized RX0, .code yX0_timesX cX0_timesX 3 (some .int), .fieldLink RX0 31 "ChecksumLab$Model" "mask" "I", .fieldLink RX0 34 "ChecksumLab$Model" "highest" "I", .fieldLink RX0 15 "ChecksumLab$Model" "poly" "I"] ++ wsX00)
def wsX0_inSumOrder : List Cond := .code yX0_inSumOrder cX0_inSumOrder 2 (some .int) :: ([.fieldLink RX0 25 "ChecksumLab$Model" "reflectOut" "Z", .fieldLink RX0 9 "ChecksumLab$Model" "width" "I", .static yX1_reversed, .initialized RX1, .code yX1_reversed cX1_reversed 4 (some .int)] ++ wsX00)
def wsX0_sumOfRegister : List Cond := .code yX0_sumOfRegister cX0_sumOfRegister 2 (some .int) :: ([.fieldLink RX0 28 "ChecksumLab$Model" "xorOut" "I", .methodLink RX0 54 yX0_inSumOrder, .instanceMethod yX0_inSumOrder, .selects RX0 yX0_inSumOrder yX0_inSumOrder, .initialized RX0, .code yX0_inSumOrder cX0_inSumOrder 2 (some .int), .fieldLink RX0 25 "ChecksumLab$Model" "reflectOut" "Z", .fieldLink RX0 9 "ChecksumLab$Model" "width" "I", .static yX1_reversed, .initialized RX1, .code yX1_reversed cX1_reversed 4 (some .int)] ++ wsX00)
def wsX1_init : List Cond := .code yX1_init cX1_init 1 none :: ([.methodLink RX1 1 objectInit, .instanceMethod objectInit, .code objectInit ⟨#[0xb1]⟩ 1 none, .classLink RX1 9 RX0, .fieldLink RX1 11 "ChecksumLab" "defined" "[LChecksumLab$Model;", .fieldLink RX1 15 "ChecksumLab" "definedCount" "I", .classLink RX1 19 "[[I", .arrayClass .int, .fieldLink RX1 21 "ChecksumLab" "rows" "[[I", .fieldLink RX1 24 "ChecksumLab" "sizes" "[I"] ++ wsX10)
def wsX1_requireNumber : List Cond := .code yX1_requireNumber cX1_requireNumber 2 none :: ([.classLink RX1 28 "java/lang/IllegalArgumentException", .initialized "java/lang/IllegalArgumentException"] ++ (vx_atS RX1 32 "java/lang/IllegalArgumentException" ["java/lang/RuntimeException", "java/lang/Exception"]).filter goodWord)
def wsX1_define_r1 : List Cond := [Cond.classLink RX1 28 "java/lang/IllegalArgumentException", Cond.initialized "java/lang/IllegalArgumentException", Cond.classLink RX1 39 "java/lang/IllegalStateException", Cond.initialized "java/lang/IllegalStateException", Cond.fieldLink RX1 15 "ChecksumLab" "definedCount" "I", Cond.fieldLink RX1 11 "ChecksumLab" "defined" "[LChecksumLab$Model;", Cond.classLink RX1 9 RX0, Cond.instantiable RX0 8, Cond.initialized RX0, Cond.methodLink RX1 35 yX1_requireNumber, Cond.static yX1_requireNumber, Cond.initialized RX1, Cond.code yX1_requireNumber cX1_requireNumber 2 none, Cond.methodLink RX1 44 yX0_init, Cond.instanceMethod yX0_init, Cond.code yX0_init cX0_init 7 none, Cond.methodLink RX0 3 objectInit, Cond.instanceMethod objectInit, Cond.code objectInit ⟨#[0xb1]⟩ 1 none, Cond.fieldLink RX0 9 "ChecksumLab$Model" "width" "I", Cond.fieldLink RX0 15 "ChecksumLab$Model" "poly" "I", Cond.fieldLink RX0 18 "ChecksumLab$Model" "init" "I", Cond.fieldLink RX0 21 "ChecksumLab$Model" "reflectIn" "Z", Cond.fieldLink RX0 25 "ChecksumLab$Model" "reflectOut" "Z"]
def wsX1_define_r2 : List Cond := [Cond.fieldLink RX0 28 "ChecksumLab$Model" "xorOut" "I", Cond.fieldLink RX0 31 "ChecksumLab$Model" "mask" "I", Cond.fieldLink RX0 34 "ChecksumLab$Model" "highest" "I"]
def wsX1_define : List Cond := .code yX1_define cX1_define 8 (some .int) :: ((wsX1_define_r1 ++ wsX1_define_r2) ++ wsX10 ++ wsX00 ++ (vx_atS RX1 32 "java/lang/IllegalArgumentException" ["java/lang/RuntimeException", "java/lang/Exception"]).filter goodWord ++ (vx_atS RX1 43 "java/lang/IllegalStateException" ["java/lang/RuntimeException", "java/lang/Exception"]).filter goodWord)
def wsX1_requireRow : List Cond := .code yX1_requireRow cX1_requireRow 1 none :: ([.classLink RX1 101 "java/lang/IndexOutOfBoundsException", .initialized "java/lang/IndexOutOfBoundsException"] ++ (vx_atS RX1 105 "java/lang/IndexOutOfBoundsException" ["java/lang/RuntimeException", "java/lang/Exception"]).filter goodWord)
def wsX1_requireByte : List Cond := .code yX1_requireByte cX1_requireByte 1 none :: ([.classLink RX1 28 "java/lang/IllegalArgumentException", .initialized "java/lang/IllegalArgumentException"] ++ (vx_atS RX1 32 "java/lang/IllegalArgumentException" ["java/lang/RuntimeException", "java/lang/Exception"]).filter goodWord)
def wsX1_requireRoom : List Cond := .code yX1_requireRoom cX1_requireRoom 3 none :: ([.classLink RX1 39 "java/lang/IllegalStateException", .initialized "java/lang/IllegalStateException", .fieldLink RX1 24 "ChecksumLab" "sizes" "[I"] ++ wsX10 ++ (vx_atS RX1 43 "java/lang/IllegalStateException" ["java/lang/RuntimeException", "java/lang/Exception"]).filter goodWord)
def wsX1_append : List Cond := .code yX1_append cX1_append 3 (some .int) :: ([.fieldLink RX1 21 "ChecksumLab" "rows" "[[I", .fieldLink RX1 24 "ChecksumLab" "sizes" "[I", .methodLink RX1 80 yX1_requireRow, .static yX1_requireRow, .initialized RX1, .code yX1_requireRow cX1_requireRow 1 none, .classLink RX1 101 "java/lang/IndexOutOfBoundsException", .initialized "java/lang/IndexOutOfBoundsException", .methodLink RX1 84 yX1_requireByte, .static yX1_requireByte, .code yX1_requireByte cX1_requireByte 1 none, .classLink RX1 28 "java/lang/IllegalArgumentException", .initialized "java/lang/IllegalArgumentException", .methodLink RX1 87 yX1_requireRoom, .instanceMethod yX1_requireRoom, .selects RX1 yX1_requireRoom yX1_requireRoom, .code yX1_requireRoom cX1_requireRoom 3 none, .classLink RX1 39 "java/lang/IllegalStateException", .initialized "java/lang/IllegalStateException"] ++ wsX10 ++ (vx_atS RX1 105 "java/lang/IndexOutOfBoundsException" ["java/lang/RuntimeException", "java/lang/Exception"]).filter goodWord ++ (vx_atS RX1 32 "java/lang/IllegalArgumentException" ["java/lang/RuntimeException", "java/lang/Exception"]).filter goodWord ++ (vx_atS RX1 43 "java/lang/IllegalStateException" ["java/lang/RuntimeException", "java/lang/Exception"]).filter goodWord)
def wsX1_requireIndex : List Cond := .code yX1_requireIndex cX1_requireIndex 3 none :: ([.classLink RX1 101 "java/lang/IndexOutOfBoundsException", .initialized "java/lang/IndexOutOfBoundsException", .fieldLink RX1 24 "ChecksumLab" "sizes" "[I"] ++ wsX10 ++ (vx_atS RX1 105 "java/lang/IndexOutOfBoundsException" ["java/lang/RuntimeException", "java/lang/Exception"]).filter goodWord)
def wsX1_setByte : List Cond := .code yX1_setByte cX1_setByte 5 (some .int) :: ([.fieldLink RX1 21 "ChecksumLab" "rows" "[[I", .methodLink RX1 80 yX1_requireRow, .static yX1_requireRow, .initialized RX1, .code yX1_requireRow cX1_requireRow 1 none, .classLink RX1 101 "java/lang/IndexOutOfBoundsException", .initialized "java/lang/IndexOutOfBoundsException", .methodLink RX1 92 yX1_requireIndex, .instanceMethod yX1_requireIndex, .selects RX1 yX1_requireIndex yX1_requireIndex, .code yX1_requireIndex cX1_requireIndex 3 none, .fieldLink RX1 24 "ChecksumLab" "sizes" "[I", .methodLink RX1 84 yX1_requireByte, .static yX1_requireByte, .code yX1_requireByte cX1_requireByte 1 none, .classLink RX1 28 "java/lang/IllegalArgumentException", .initialized "java/lang/IllegalArgumentException"] ++ wsX10 ++ (vx_atS RX1 105 "java/lang/IndexOutOfBoundsException" ["java/lang/RuntimeException", "java/lang/Exception"]).filter goodWord ++ (vx_atS RX1 32 "java/lang/IllegalArgumentException" ["java/lang/RuntimeException", "java/lang/Exception"]).filter goodWord)
def wsX1_byteAt : List Cond := .code yX1_byteAt cX1_byteAt 3 (some .int) :: ([.fieldLink RX1 21 "ChecksumLab" "rows" "[[I", .methodLink RX1 80 yX1_requireRow, .static yX1_requireRow, .initialized RX1, .code yX1_requireRow cX1_requireRow 1 none, .classLink RX1 101 "java/lang/IndexOutOfBoundsException", .initialized "java/lang/IndexOutOfBoundsException", .methodLink RX1 92 yX1_requireIndex, .instanceMethod yX1_requireIndex, .selects RX1 yX1_requireIndex yX1_requireIndex, .code yX1_requireIndex cX1_requireIndex 3 none, .fieldLink RX1 24 "ChecksumLab" "sizes" "[I"] ++ wsX10 ++ (vx_atS RX1 105 "java/lang/IndexOutOfBoundsException" ["java/lang/RuntimeException", "java/lang/Exception"]).filter goodWord)
def wsX1_findModel : List Cond := .code yX1_findModel cX1_findModel 2 (some (.object "ChecksumLab$Model")) :: ([.classLink RX1 101 "java/lang/IndexOutOfBoundsException", .initialized "java/lang/IndexOutOfBoundsException", .fieldLink RX1 11 "ChecksumLab" "defined" "[LChecksumLab$Model;"] ++ wsX10 ++ (vx_atS RX1 105 "java/lang/IndexOutOfBoundsException" ["java/lang/RuntimeException", "java/lang/Exception"]).filter goodWord)
def wsX1_partSum_r1 : List Cond := [Cond.fieldLink RX1 51 "ChecksumLab$Model" "init" "I", Cond.fieldLink RX1 21 "ChecksumLab" "rows" "[[I", Cond.methodLink RX1 54 yX0_takeByte, Cond.instanceMethod yX0_takeByte, Cond.selects RX0 yX0_takeByte yX0_takeByte, Cond.initialized RX0, Cond.code yX0_takeByte cX0_takeByte 6 (some .int), Cond.methodLink RX0 45 yX0_inTakenOrder, Cond.instanceMethod yX0_inTakenOrder, Cond.selects RX0 yX0_inTakenOrder yX0_inTakenOrder, Cond.code yX0_inTakenOrder cX0_inTakenOrder 2 (some .int), Cond.fieldLink RX0 21 "ChecksumLab$Model" "reflectIn" "Z", Cond.static yX1_reversed, Cond.initialized RX1, Cond.code yX1_reversed cX1_reversed 4 (some .int), Cond.methodLink RX0 48 yX0_takeBit, Cond.instanceMethod yX0_takeBit, Cond.selects RX0 yX0_takeBit yX0_takeBit, Cond.code yX0_takeBit cX0_takeBit 3 (some .int), Cond.fieldLink RX0 9 "ChecksumLab$Model" "width" "I", Cond.methodLink RX0 37 yX0_timesX, Cond.instanceMethod yX0_timesX, Cond.selects RX0 yX0_timesX yX0_timesX, Cond.code yX0_timesX cX0_timesX 3 (some .int)]
def wsX1_partSum_r2 : List Cond := [Cond.fieldLink RX0 31 "ChecksumLab$Model" "mask" "I", Cond.fieldLink RX0 34 "ChecksumLab$Model" "highest" "I", Cond.fieldLink RX0 15 "ChecksumLab$Model" "poly" "I", Cond.methodLink RX1 58 yX0_sumOfRegister, Cond.instanceMethod yX0_sumOfRegister, Cond.selects RX0 yX0_sumOfRegister yX0_sumOfRegister, Cond.code yX0_sumOfRegister cX0_sumOfRegister 2 (some .int), Cond.fieldLink RX0 28 "ChecksumLab$Model" "xorOut" "I", Cond.methodLink RX0 54 yX0_inSumOrder, Cond.instanceMethod yX0_inSumOrder, Cond.selects RX0 yX0_inSumOrder yX0_inSumOrder, Cond.code yX0_inSumOrder cX0_inSumOrder 2 (some .int), Cond.fieldLink RX0 25 "ChecksumLab$Model" "reflectOut" "Z"]
def wsX1_partSum : List Cond := .code yX1_partSum cX1_partSum 7 (some .int) :: ((wsX1_partSum_r1 ++ wsX1_partSum_r2) ++ wsX00 ++ wsX10)
def wsX1_sum_r1 : List Cond := [Cond.fieldLink RX1 24 "ChecksumLab" "sizes" "[I", Cond.methodLink RX1 47 yX1_findModel, Cond.instanceMethod yX1_findModel, Cond.selects RX1 yX1_findModel yX1_findModel, Cond.initialized RX1, Cond.code yX1_findModel cX1_findModel 2 (some (.object "ChecksumLab$Model")), Cond.classLink RX1 101 "java/lang/IndexOutOfBoundsException", Cond.initialized "java/lang/IndexOutOfBoundsException", Cond.fieldLink RX1 11 "ChecksumLab" "defined" "[LChecksumLab$Model;", Cond.methodLink RX1 80 yX1_requireRow, Cond.static yX1_requireRow, Cond.code yX1_requireRow cX1_requireRow 1 none, Cond.methodLink RX1 97 yX1_partSum, Cond.instanceMethod yX1_partSum, Cond.selects RX1 yX1_partSum yX1_partSum, Cond.code yX1_partSum cX1_partSum 7 (some .int), Cond.fieldLink RX1 51 "ChecksumLab$Model" "init" "I", Cond.fieldLink RX1 21 "ChecksumLab" "rows" "[[I", Cond.methodLink RX1 54 yX0_takeByte, Cond.instanceMethod yX0_takeByte, Cond.selects RX0 yX0_takeByte yX0_takeByte, Cond.initialized RX0, Cond.code yX0_takeByte cX0_takeByte 6 (some .int), Cond.methodLink RX0 45 yX0_inTakenOrder]
def wsX1_sum_r2 : List Cond := [Cond.instanceMethod yX0_inTakenOrder, Cond.selects RX0 yX0_inTakenOrder yX0_inTakenOrder, Cond.code yX0_inTakenOrder cX0_inTakenOrder 2 (some .int), Cond.fieldLink RX0 21 "ChecksumLab$Model" "reflectIn" "Z", Cond.static yX1_reversed, Cond.code yX1_reversed cX1_reversed 4 (some .int), Cond.methodLink RX0 48 yX0_takeBit, Cond.instanceMethod yX0_takeBit, Cond.selects RX0 yX0_takeBit yX0_takeBit, Cond.code yX0_takeBit cX0_takeBit 3 (some .int), Cond.fieldLink RX0 9 "ChecksumLab$Model" "width" "I", Cond.methodLink RX0 37 yX0_timesX, Cond.instanceMethod yX0_timesX, Cond.selects RX0 yX0_timesX yX0_timesX, Cond.code yX0_timesX cX0_timesX 3 (some .int), Cond.fieldLink RX0 31 "ChecksumLab$Model" "mask" "I", Cond.fieldLink RX0 34 "ChecksumLab$Model" "highest" "I", Cond.fieldLink RX0 15 "ChecksumLab$Model" "poly" "I", Cond.methodLink RX1 58 yX0_sumOfRegister, Cond.instanceMethod yX0_sumOfRegister, Cond.selects RX0 yX0_sumOfRegister yX0_sumOfRegister, Cond.code yX0_sumOfRegister cX0_sumOfRegister 2 (some .int), Cond.fieldLink RX0 28 "ChecksumLab$Model" "xorOut" "I", Cond.methodLink RX0 54 yX0_inSumOrder]
def wsX1_sum_r3 : List Cond := [Cond.instanceMethod yX0_inSumOrder, Cond.selects RX0 yX0_inSumOrder yX0_inSumOrder, Cond.code yX0_inSumOrder cX0_inSumOrder 2 (some .int), Cond.fieldLink RX0 25 "ChecksumLab$Model" "reflectOut" "Z"]
def wsX1_sum : List Cond := .code yX1_sum cX1_sum 4 (some .int) :: ((wsX1_sum_r1 ++ (wsX1_sum_r2 ++ wsX1_sum_r3)) ++ wsX10 ++ wsX00 ++ (vx_atS RX1 105 "java/lang/IndexOutOfBoundsException" ["java/lang/RuntimeException", "java/lang/Exception"]).filter goodWord)
def wsX1_sumOfPart_r1 : List Cond := [Cond.classLink RX1 101 "java/lang/IndexOutOfBoundsException", Cond.initialized "java/lang/IndexOutOfBoundsException", Cond.fieldLink RX1 24 "ChecksumLab" "sizes" "[I", Cond.methodLink RX1 47 yX1_findModel, Cond.instanceMethod yX1_findModel, Cond.selects RX1 yX1_findModel yX1_findModel, Cond.initialized RX1, Cond.code yX1_findModel cX1_findModel 2 (some (.object "ChecksumLab$Model")), Cond.fieldLink RX1 11 "ChecksumLab" "defined" "[LChecksumLab$Model;", Cond.methodLink RX1 80 yX1_requireRow, Cond.static yX1_requireRow, Cond.code yX1_requireRow cX1_requireRow 1 none, Cond.methodLink RX1 97 yX1_partSum, Cond.instanceMethod yX1_partSum, Cond.selects RX1 yX1_partSum yX1_partSum, Cond.code yX1_partSum cX1_partSum 7 (some .int), Cond.fieldLink RX1 51 "ChecksumLab$Model" "init" "I", Cond.fieldLink RX1 21 "ChecksumLab" "rows" "[[I", Cond.methodLink RX1 54 yX0_takeByte, Cond.instanceMethod yX0_takeByte, Cond.selects RX0 yX0_takeByte yX0_takeByte, Cond.initialized RX0, Cond.code yX0_takeByte cX0_takeByte 6 (some .int), Cond.methodLink RX0 45 yX0_inTakenOrder]
def wsX1_sumOfPart_r2 : List Cond := [Cond.instanceMethod yX0_inTakenOrder, Cond.selects RX0 yX0_inTakenOrder yX0_inTakenOrder, Cond.code yX0_inTakenOrder cX0_inTakenOrder 2 (some .int), Cond.fieldLink RX0 21 "ChecksumLab$Model" "reflectIn" "Z", Cond.static yX1_reversed, Cond.code yX1_reversed cX1_reversed 4 (some .int), Cond.methodLink RX0 48 yX0_takeBit, Cond.instanceMethod yX0_takeBit, Cond.selects RX0 yX0_takeBit yX0_takeBit, Cond.code yX0_takeBit cX0_takeBit 3 (some .int), Cond.fieldLink RX0 9 "ChecksumLab$Model" "width" "I", Cond.methodLink RX0 37 yX0_timesX, Cond.instanceMethod yX0_timesX, Cond.selects RX0 yX0_timesX yX0_timesX, Cond.code yX0_timesX cX0_timesX 3 (some .int), Cond.fieldLink RX0 31 "ChecksumLab$Model" "mask" "I", Cond.fieldLink RX0 34 "ChecksumLab$Model" "highest" "I", Cond.fieldLink RX0 15 "ChecksumLab$Model" "poly" "I", Cond.methodLink RX1 58 yX0_sumOfRegister, Cond.instanceMethod yX0_sumOfRegister, Cond.selects RX0 yX0_sumOfRegister yX0_sumOfRegister, Cond.code yX0_sumOfRegister cX0_sumOfRegister 2 (some .int), Cond.fieldLink RX0 28 "ChecksumLab$Model" "xorOut" "I", Cond.methodLink RX0 54 yX0_inSumOrder]
def wsX1_sumOfPart_r3 : List Cond := [Cond.instanceMethod yX0_inSumOrder, Cond.selects RX0 yX0_inSumOrder yX0_inSumOrder, Cond.code yX0_inSumOrder cX0_inSumOrder 2 (some .int), Cond.fieldLink RX0 25 "ChecksumLab$Model" "reflectOut" "Z"]
def wsX1_sumOfPart : List Cond := .code yX1_sumOfPart cX1_sumOfPart 6 (some .int) :: ((wsX1_sumOfPart_r1 ++ (wsX1_sumOfPart_r2 ++ wsX1_sumOfPart_r3)) ++ wsX10 ++ wsX00 ++ (vx_atS RX1 105 "java/lang/IndexOutOfBoundsException" ["java/lang/RuntimeException", "java/lang/Exception"]).filter goodWord)
def wsX1_remainder_r1 : List Cond := [Cond.fieldLink RX1 24 "ChecksumLab" "sizes" "[I", Cond.fieldLink RX1 21 "ChecksumLab" "rows" "[[I", Cond.methodLink RX1 47 yX1_findModel, Cond.instanceMethod yX1_findModel, Cond.selects RX1 yX1_findModel yX1_findModel, Cond.initialized RX1, Cond.code yX1_findModel cX1_findModel 2 (some (.object "ChecksumLab$Model")), Cond.classLink RX1 101 "java/lang/IndexOutOfBoundsException", Cond.initialized "java/lang/IndexOutOfBoundsException", Cond.fieldLink RX1 11 "ChecksumLab" "defined" "[LChecksumLab$Model;", Cond.methodLink RX1 80 yX1_requireRow, Cond.static yX1_requireRow, Cond.code yX1_requireRow cX1_requireRow 1 none, Cond.methodLink RX1 106 yX0_divideByte, Cond.instanceMethod yX0_divideByte, Cond.selects RX0 yX0_divideByte yX0_divideByte, Cond.initialized RX0, Cond.code yX0_divideByte cX0_divideByte 5 (some .int), Cond.methodLink RX0 37 yX0_timesX, Cond.instanceMethod yX0_timesX, Cond.selects RX0 yX0_timesX yX0_timesX, Cond.code yX0_timesX cX0_timesX 3 (some .int), Cond.fieldLink RX0 31 "ChecksumLab$Model" "mask" "I", Cond.fieldLink RX0 34 "ChecksumLab$Model" "highest" "I"]
def wsX1_remainder_r2 : List Cond := [Cond.fieldLink RX0 15 "ChecksumLab$Model" "poly" "I"]
def wsX1_remainder : List Cond := .code yX1_remainder cX1_remainder 7 (some .int) :: ((wsX1_remainder_r1 ++ wsX1_remainder_r2) ++ wsX10 ++ wsX00 ++ (vx_atS RX1 105 "java/lang/IndexOutOfBoundsException" ["java/lang/RuntimeException", "java/lang/Exception"]).filter goodWord)
def wsL_drawn : List Cond := .code yL_drawn cL_drawn 3 (some .int) :: ([.constant RL 7 (214013), .constant RL 8 (2531011), .constant RL 9 (2147483647)])
def wsL_model_r1 : List Cond := [Cond.classLink RL 16 "java/lang/IllegalArgumentException", Cond.classLink RL 18 "java/lang/IllegalStateException", Cond.methodLink RL 10 yX1_define, Cond.instanceMethod yX1_define, Cond.selects RX1 yX1_define yX1_define, Cond.initialized RX1, Cond.code yX1_define cX1_define 8 (some .int), Cond.classLink RX1 28 "java/lang/IllegalArgumentException", Cond.initialized "java/lang/IllegalArgumentException", Cond.classLink RX1 39 "java/lang/IllegalStateException", Cond.initialized "java/lang/IllegalStateException", Cond.fieldLink RX1 15 "ChecksumLab" "definedCount" "I", Cond.fieldLink RX1 11 "ChecksumLab" "defined" "[LChecksumLab$Model;", Cond.classLink RX1 9 RX0, Cond.instantiable RX0 8, Cond.initialized RX0, Cond.methodLink RX1 35 yX1_requireNumber, Cond.static yX1_requireNumber, Cond.code yX1_requireNumber cX1_requireNumber 2 none, Cond.methodLink RX1 44 yX0_init, Cond.instanceMethod yX0_init, Cond.code yX0_init cX0_init 7 none, Cond.methodLink RX0 3 objectInit, Cond.instanceMethod objectInit]
def wsL_model_r2 : List Cond := [Cond.code objectInit ⟨#[0xb1]⟩ 1 none, Cond.fieldLink RX0 9 "ChecksumLab$Model" "width" "I", Cond.fieldLink RX0 15 "ChecksumLab$Model" "poly" "I", Cond.fieldLink RX0 18 "ChecksumLab$Model" "init" "I", Cond.fieldLink RX0 21 "ChecksumLab$Model" "reflectIn" "Z", Cond.fieldLink RX0 25 "ChecksumLab$Model" "reflectOut" "Z", Cond.fieldLink RX0 28 "ChecksumLab$Model" "xorOut" "I", Cond.fieldLink RX0 31 "ChecksumLab$Model" "mask" "I", Cond.fieldLink RX0 34 "ChecksumLab$Model" "highest" "I"]
def wsL_model : List Cond := .codeWith yL_model cL_model 7 (some .int) [(0, 33, 34, 16), (0, 33, 38, 18)] :: ((wsL_model_r1 ++ wsL_model_r2) ++ wsX10 ++ wsX00 ++ (vx_atS RX1 32 "java/lang/IllegalArgumentException" ["java/lang/RuntimeException", "java/lang/Exception"]).filter goodWord ++ (vx_atS RX1 43 "java/lang/IllegalStateException" ["java/lang/RuntimeException", "java/lang/Exception"]).filter goodWord)
def wsL_added_r1 : List Cond := [Cond.classLink RL 24 "java/lang/IndexOutOfBoundsException", Cond.classLink RL 16 "java/lang/IllegalArgumentException", Cond.classLink RL 18 "java/lang/IllegalStateException", Cond.methodLink RL 20 yX1_append, Cond.instanceMethod yX1_append, Cond.selects RX1 yX1_append yX1_append, Cond.initialized RX1, Cond.code yX1_append cX1_append 3 (some .int), Cond.fieldLink RX1 21 "ChecksumLab" "rows" "[[I", Cond.fieldLink RX1 24 "ChecksumLab" "sizes" "[I", Cond.methodLink RX1 80 yX1_requireRow, Cond.static yX1_requireRow, Cond.code yX1_requireRow cX1_requireRow 1 none, Cond.classLink RX1 101 "java/lang/IndexOutOfBoundsException", Cond.initialized "java/lang/IndexOutOfBoundsException", Cond.methodLink RX1 84 yX1_requireByte, Cond.static yX1_requireByte, Cond.code yX1_requireByte cX1_requireByte 1 none, Cond.classLink RX1 28 "java/lang/IllegalArgumentException", Cond.initialized "java/lang/IllegalArgumentException", Cond.methodLink RX1 87 yX1_requireRoom, Cond.instanceMethod yX1_requireRoom, Cond.selects RX1 yX1_requireRoom yX1_requireRoom, Cond.code yX1_requireRoom cX1_requireRoom 3 none]
def wsL_added_r2 : List Cond := [Cond.classLink RX1 39 "java/lang/IllegalStateException", Cond.initialized "java/lang/IllegalStateException"]
def wsL_added : List Cond := .codeWith yL_added cL_added 4 (some .int) [(0, 6, 7, 24), (0, 6, 10, 16), (0, 6, 13, 18)] :: ((wsL_added_r1 ++ wsL_added_r2) ++ wsX10 ++ (vx_atS RX1 105 "java/lang/IndexOutOfBoundsException" ["java/lang/RuntimeException", "java/lang/Exception"]).filter goodWord ++ (vx_atS RX1 32 "java/lang/IllegalArgumentException" ["java/lang/RuntimeException", "java/lang/Exception"]).filter goodWord ++ (vx_atS RX1 43 "java/lang/IllegalStateException" ["java/lang/RuntimeException", "java/lang/Exception"]).filter goodWord)
def wsL_changed : List Cond := .codeWith yL_changed cL_changed 5 (some .int) [(0, 7, 8, 24), (0, 7, 12, 16)] :: ([.classLink RL 24 "java/lang/IndexOutOfBoundsException", .classLink RL 16 "java/lang/IllegalArgumentException", .methodLink RL 26 yX1_setByte, .instanceMethod yX1_setByte, .selects RX1 yX1_setByte yX1_setByte, .initialized RX1, .code yX1_setByte cX1_setByte 5 (some .int), .fieldLink RX1 21 "ChecksumLab" "rows" "[[I", .methodLink RX1 80 yX1_requireRow, .static yX1_requireRow, .code yX1_requireRow cX1_requireRow 1 none, .classLink RX1 101 "java/lang/IndexOutOfBoundsException", .initialized "java/lang/IndexOutOfBoundsException", .methodLink RX1 92 yX1_requireIndex, .instanceMethod yX1_requireIndex, .selects RX1 yX1_requireIndex yX1_requireIndex, .code yX1_requireIndex cX1_requireIndex 3 none, .fieldLink RX1 24 "ChecksumLab" "sizes" "[I", .methodLink RX1 84 yX1_requireByte, .static yX1_requireByte, .code yX1_requireByte cX1_requireByte 1 none, .classLink RX1 28 "java/lang/IllegalArgumentException", .initialized "java/lang/IllegalArgumentException"] ++ wsX10 ++ (vx_atS RX1 105 "java/lang/IndexOutOfBoundsException" ["java/lang/RuntimeException", "java/lang/Exception"]).filter goodWord ++ (vx_atS RX1 32 "java/lang/IllegalArgumentException" ["java/lang/RuntimeException", "java/lang/Exception"]).filter goodWord)
def wsL_at : List Cond := .codeWith yL_at cL_at 4 (some .int) [(0, 6, 7, 24)] :: ([.classLink RL 24 "java/lang/IndexOutOfBoundsException", .methodLink RL 30 yX1_byteAt, .instanceMethod yX1_byteAt, .selects RX1 yX1_byteAt yX1_byteAt, .initialized RX1, .code yX1_byteAt cX1_byteAt 3 (some .int), .fieldLink RX1 21 "ChecksumLab" "rows" "[[I", .methodLink RX1 80 yX1_requireRow, .static yX1_requireRow, .code yX1_requireRow cX1_requireRow 1 none, .classLink RX1 101 "java/lang/IndexOutOfBoundsException", .initialized "java/lang/IndexOutOfBoundsException", .methodLink RX1 92 yX1_requireIndex, .instanceMethod yX1_requireIndex, .selects RX1 yX1_requireIndex yX1_requireIndex, .code yX1_requireIndex cX1_requireIndex 3 none, .fieldLink RX1 24 "ChecksumLab" "sizes" "[I"] ++ wsX10 ++ (vx_atS RX1 105 "java/lang/IndexOutOfBoundsException" ["java/lang/RuntimeException", "java/lang/Exception"]).filter goodWord)
def wsL_sum_r1 : List Cond := [Cond.classLink RL 24 "java/lang/IndexOutOfBoundsException", Cond.methodLink RL 33 yX1_sumOfPart, Cond.instanceMethod yX1_sumOfPart, Cond.selects RX1 yX1_sumOfPart yX1_sumOfPart, Cond.initialized RX1, Cond.code yX1_sumOfPart cX1_sumOfPart 6 (some .int), Cond.classLink RX1 101 "java/lang/IndexOutOfBoundsException", Cond.initialized "java/lang/IndexOutOfBoundsException", Cond.fieldLink RX1 24 "ChecksumLab" "sizes" "[I", Cond.methodLink RX1 47 yX1_findModel, Cond.instanceMethod yX1_findModel, Cond.selects RX1 yX1_findModel yX1_findModel, Cond.code yX1_findModel cX1_findModel 2 (some (.object "ChecksumLab$Model")), Cond.fieldLink RX1 11 "ChecksumLab" "defined" "[LChecksumLab$Model;", Cond.methodLink RX1 80 yX1_requireRow, Cond.static yX1_requireRow, Cond.code yX1_requireRow cX1_requireRow 1 none, Cond.methodLink RX1 97 yX1_partSum, Cond.instanceMethod yX1_partSum, Cond.selects RX1 yX1_partSum yX1_partSum, Cond.code yX1_partSum cX1_partSum 7 (some .int), Cond.fieldLink RX1 51 "ChecksumLab$Model" "init" "I", Cond.fieldLink RX1 21 "ChecksumLab" "rows" "[[I", Cond.methodLink RX1 54 yX0_takeByte]
def wsL_sum_r2 : List Cond := [Cond.instanceMethod yX0_takeByte, Cond.selects RX0 yX0_takeByte yX0_takeByte, Cond.initialized RX0, Cond.code yX0_takeByte cX0_takeByte 6 (some .int), Cond.methodLink RX0 45 yX0_inTakenOrder, Cond.instanceMethod yX0_inTakenOrder, Cond.selects RX0 yX0_inTakenOrder yX0_inTakenOrder, Cond.code yX0_inTakenOrder cX0_inTakenOrder 2 (some .int), Cond.fieldLink RX0 21 "ChecksumLab$Model" "reflectIn" "Z", Cond.static yX1_reversed, Cond.code yX1_reversed cX1_reversed 4 (some .int), Cond.methodLink RX0 48 yX0_takeBit, Cond.instanceMethod yX0_takeBit, Cond.selects RX0 yX0_takeBit yX0_takeBit, Cond.code yX0_takeBit cX0_takeBit 3 (some .int), Cond.fieldLink RX0 9 "ChecksumLab$Model" "width" "I", Cond.methodLink RX0 37 yX0_timesX, Cond.instanceMethod yX0_timesX, Cond.selects RX0 yX0_timesX yX0_timesX, Cond.code yX0_timesX cX0_timesX 3 (some .int), Cond.fieldLink RX0 31 "ChecksumLab$Model" "mask" "I", Cond.fieldLink RX0 34 "ChecksumLab$Model" "highest" "I", Cond.fieldLink RX0 15 "ChecksumLab$Model" "poly" "I", Cond.methodLink RX1 58 yX0_sumOfRegister]
def wsL_sum_r3 : List Cond := [Cond.instanceMethod yX0_sumOfRegister, Cond.selects RX0 yX0_sumOfRegister yX0_sumOfRegister, Cond.code yX0_sumOfRegister cX0_sumOfRegister 2 (some .int), Cond.fieldLink RX0 28 "ChecksumLab$Model" "xorOut" "I", Cond.methodLink RX0 54 yX0_inSumOrder, Cond.instanceMethod yX0_inSumOrder, Cond.selects RX0 yX0_inSumOrder yX0_inSumOrder, Cond.code yX0_inSumOrder cX0_inSumOrder 2 (some .int), Cond.fieldLink RX0 25 "ChecksumLab$Model" "reflectOut" "Z", Cond.methodLink RL 37 yX1_sum, Cond.instanceMethod yX1_sum, Cond.selects RX1 yX1_sum yX1_sum, Cond.code yX1_sum cX1_sum 4 (some .int), Cond.methodLink RL 40 yX1_remainder, Cond.instanceMethod yX1_remainder, Cond.selects RX1 yX1_remainder yX1_remainder, Cond.code yX1_remainder cX1_remainder 7 (some .int), Cond.methodLink RX1 106 yX0_divideByte, Cond.instanceMethod yX0_divideByte, Cond.selects RX0 yX0_divideByte yX0_divideByte, Cond.code yX0_divideByte cX0_divideByte 5 (some .int)]
def wsL_sum : List Cond := .codeWith yL_sum cL_sum 7 (some .int) [(0, 37, 38, 24)] :: ((wsL_sum_r1 ++ (wsL_sum_r2 ++ wsL_sum_r3)) ++ wsX10 ++ wsX00 ++ (vx_atS RX1 105 "java/lang/IndexOutOfBoundsException" ["java/lang/RuntimeException", "java/lang/Exception"]).filter goodWord)
def wsL_isAffine_r1 : List Cond := [Cond.methodLink RL 43 yL_sum, Cond.static yL_sum, Cond.initialized RL, Cond.codeWith yL_sum cL_sum 7 (some .int) [(0, 37, 38, 24)], Cond.classLink RL 24 "java/lang/IndexOutOfBoundsException", Cond.methodLink RL 33 yX1_sumOfPart, Cond.instanceMethod yX1_sumOfPart, Cond.selects RX1 yX1_sumOfPart yX1_sumOfPart, Cond.initialized RX1, Cond.code yX1_sumOfPart cX1_sumOfPart 6 (some .int), Cond.classLink RX1 101 "java/lang/IndexOutOfBoundsException", Cond.initialized "java/lang/IndexOutOfBoundsException", Cond.fieldLink RX1 24 "ChecksumLab" "sizes" "[I", Cond.methodLink RX1 47 yX1_findModel, Cond.instanceMethod yX1_findModel, Cond.selects RX1 yX1_findModel yX1_findModel, Cond.code yX1_findModel cX1_findModel 2 (some (.object "ChecksumLab$Model")), Cond.fieldLink RX1 11 "ChecksumLab" "defined" "[LChecksumLab$Model;", Cond.methodLink RX1 80 yX1_requireRow, Cond.static yX1_requireRow, Cond.code yX1_requireRow cX1_requireRow 1 none, Cond.methodLink RX1 97 yX1_partSum, Cond.instanceMethod yX1_partSum, Cond.selects RX1 yX1_partSum yX1_partSum]
def wsL_isAffine_r2 : List Cond := [Cond.code yX1_partSum cX1_partSum 7 (some .int), Cond.fieldLink RX1 51 "ChecksumLab$Model" "init" "I", Cond.fieldLink RX1 21 "ChecksumLab" "rows" "[[I", Cond.methodLink RX1 54 yX0_takeByte, Cond.instanceMethod yX0_takeByte, Cond.selects RX0 yX0_takeByte yX0_takeByte, Cond.initialized RX0, Cond.code yX0_takeByte cX0_takeByte 6 (some .int), Cond.methodLink RX0 45 yX0_inTakenOrder, Cond.instanceMethod yX0_inTakenOrder, Cond.selects RX0 yX0_inTakenOrder yX0_inTakenOrder, Cond.code yX0_inTakenOrder cX0_inTakenOrder 2 (some .int), Cond.fieldLink RX0 21 "ChecksumLab$Model" "reflectIn" "Z", Cond.static yX1_reversed, Cond.code yX1_reversed cX1_reversed 4 (some .int), Cond.methodLink RX0 48 yX0_takeBit, Cond.instanceMethod yX0_takeBit, Cond.selects RX0 yX0_takeBit yX0_takeBit, Cond.code yX0_takeBit cX0_takeBit 3 (some .int), Cond.fieldLink RX0 9 "ChecksumLab$Model" "width" "I", Cond.methodLink RX0 37 yX0_timesX, Cond.instanceMethod yX0_timesX, Cond.selects RX0 yX0_timesX yX0_timesX, Cond.code yX0_timesX cX0_timesX 3 (some .int)]
def wsL_isAffine_r3 : List Cond := [Cond.fieldLink RX0 31 "ChecksumLab$Model" "mask" "I", Cond.fieldLink RX0 34 "ChecksumLab$Model" "highest" "I", Cond.fieldLink RX0 15 "ChecksumLab$Model" "poly" "I", Cond.methodLink RX1 58 yX0_sumOfRegister, Cond.instanceMethod yX0_sumOfRegister, Cond.selects RX0 yX0_sumOfRegister yX0_sumOfRegister, Cond.code yX0_sumOfRegister cX0_sumOfRegister 2 (some .int), Cond.fieldLink RX0 28 "ChecksumLab$Model" "xorOut" "I", Cond.methodLink RX0 54 yX0_inSumOrder, Cond.instanceMethod yX0_inSumOrder, Cond.selects RX0 yX0_inSumOrder yX0_inSumOrder, Cond.code yX0_inSumOrder cX0_inSumOrder 2 (some .int), Cond.fieldLink RX0 25 "ChecksumLab$Model" "reflectOut" "Z", Cond.methodLink RL 37 yX1_sum, Cond.instanceMethod yX1_sum, Cond.selects RX1 yX1_sum yX1_sum, Cond.code yX1_sum cX1_sum 4 (some .int), Cond.methodLink RL 40 yX1_remainder, Cond.instanceMethod yX1_remainder, Cond.selects RX1 yX1_remainder yX1_remainder, Cond.code yX1_remainder cX1_remainder 7 (some .int), Cond.methodLink RX1 106 yX0_divideByte, Cond.instanceMethod yX0_divideByte, Cond.selects RX0 yX0_divideByte yX0_divideByte]
def wsL_isAffine_r4 : List Cond := [Cond.code yX0_divideByte cX0_divideByte 5 (some .int)]
def wsL_isAffine : List Cond := .code yL_isAffine cL_isAffine 5 (some .boolean) :: ((wsL_isAffine_r1 ++ (wsL_isAffine_r2 ++ (wsL_isAffine_r3 ++ wsL_isAffine_r4))) ++ wsX10 ++ wsX00 ++ (vx_atS RX1 105 "java/lang/IndexOutOfBoundsException" ["java/lang/RuntimeException", "java/lang/Exception"]).filter goodWord)
def wsL_law0_r1 : List Cond := [Cond.classLink RL 11 RX1, Cond.instantiable RX1 4, Cond.initialized RX1, Cond.constant RL 56 (65536), Cond.methodLink RL 48 yX1_init, Cond.instanceMethod yX1_init, Cond.code yX1_init cX1_init 1 none, Cond.methodLink RX1 1 objectInit, Cond.instanceMethod objectInit, Cond.code objectInit ⟨#[0xb1]⟩ 1 none, Cond.classLink RX1 9 RX0, Cond.fieldLink RX1 11 "ChecksumLab" "defined" "[LChecksumLab$Model;", Cond.fieldLink RX1 15 "ChecksumLab" "definedCount" "I", Cond.classLink RX1 19 "[[I", Cond.arrayClass .int, Cond.fieldLink RX1 21 "ChecksumLab" "rows" "[[I", Cond.fieldLink RX1 24 "ChecksumLab" "sizes" "[I", Cond.methodLink RL 49 yL_drawn, Cond.static yL_drawn, Cond.initialized RL, Cond.code yL_drawn cL_drawn 3 (some .int), Cond.constant RL 7 (214013), Cond.constant RL 8 (2531011), Cond.constant RL 9 (2147483647)]
def wsL_law0_r2 : List Cond := [Cond.methodLink RL 53 yL_model, Cond.static yL_model, Cond.codeWith yL_model cL_model 7 (some .int) [(0, 33, 34, 16), (0, 33, 38, 18)], Cond.classLink RL 16 "java/lang/IllegalArgumentException", Cond.classLink RL 18 "java/lang/IllegalStateException", Cond.methodLink RL 10 yX1_define, Cond.instanceMethod yX1_define, Cond.selects RX1 yX1_define yX1_define, Cond.code yX1_define cX1_define 8 (some .int), Cond.classLink RX1 28 "java/lang/IllegalArgumentException", Cond.initialized "java/lang/IllegalArgumentException", Cond.classLink RX1 39 "java/lang/IllegalStateException", Cond.initialized "java/lang/IllegalStateException", Cond.instantiable RX0 8, Cond.initialized RX0, Cond.methodLink RX1 35 yX1_requireNumber, Cond.static yX1_requireNumber, Cond.code yX1_requireNumber cX1_requireNumber 2 none, Cond.methodLink RX1 44 yX0_init, Cond.instanceMethod yX0_init, Cond.code yX0_init cX0_init 7 none, Cond.methodLink RX0 3 objectInit, Cond.fieldLink RX0 9 "ChecksumLab$Model" "width" "I", Cond.fieldLink RX0 15 "ChecksumLab$Model" "poly" "I"]
def wsL_law0_r3 : List Cond := [Cond.fieldLink RX0 18 "ChecksumLab$Model" "init" "I", Cond.fieldLink RX0 21 "ChecksumLab$Model" "reflectIn" "Z", Cond.fieldLink RX0 25 "ChecksumLab$Model" "reflectOut" "Z", Cond.fieldLink RX0 28 "ChecksumLab$Model" "xorOut" "I", Cond.fieldLink RX0 31 "ChecksumLab$Model" "mask" "I", Cond.fieldLink RX0 34 "ChecksumLab$Model" "highest" "I", Cond.methodLink RL 57 yL_added, Cond.static yL_added, Cond.codeWith yL_added cL_added 4 (some .int) [(0, 6, 7, 24), (0, 6, 10, 16), (0, 6, 13, 18)], Cond.classLink RL 24 "java/lang/IndexOutOfBoundsException", Cond.methodLink RL 20 yX1_append, Cond.instanceMethod yX1_append, Cond.selects RX1 yX1_append yX1_append, Cond.code yX1_append cX1_append 3 (some .int), Cond.methodLink RX1 80 yX1_requireRow, Cond.static yX1_requireRow, Cond.code yX1_requireRow cX1_requireRow 1 none, Cond.classLink RX1 101 "java/lang/IndexOutOfBoundsException", Cond.initialized "java/lang/IndexOutOfBoundsException", Cond.methodLink RX1 84 yX1_requireByte, Cond.static yX1_requireByte, Cond.code yX1_requireByte cX1_requireByte 1 none, Cond.methodLink RX1 87 yX1_requireRoom, Cond.instanceMethod yX1_requireRoom]
def wsL_law0_r4 : List Cond := [Cond.selects RX1 yX1_requireRoom yX1_requireRoom, Cond.code yX1_requireRoom cX1_requireRoom 3 none, Cond.methodLink RL 61 yL_at, Cond.static yL_at, Cond.codeWith yL_at cL_at 4 (some .int) [(0, 6, 7, 24)], Cond.methodLink RL 30 yX1_byteAt, Cond.instanceMethod yX1_byteAt, Cond.selects RX1 yX1_byteAt yX1_byteAt, Cond.code yX1_byteAt cX1_byteAt 3 (some .int), Cond.methodLink RX1 92 yX1_requireIndex, Cond.instanceMethod yX1_requireIndex, Cond.selects RX1 yX1_requireIndex yX1_requireIndex, Cond.code yX1_requireIndex cX1_requireIndex 3 none, Cond.methodLink RL 64 yL_changed, Cond.static yL_changed, Cond.codeWith yL_changed cL_changed 5 (some .int) [(0, 7, 8, 24), (0, 7, 12, 16)], Cond.methodLink RL 26 yX1_setByte, Cond.instanceMethod yX1_setByte, Cond.selects RX1 yX1_setByte yX1_setByte, Cond.code yX1_setByte cX1_setByte 5 (some .int), Cond.methodLink RL 68 yL_isAffine, Cond.static yL_isAffine, Cond.code yL_isAffine cL_isAffine 5 (some .boolean), Cond.methodLink RL 43 yL_sum]
def wsL_law0_r5 : List Cond := [Cond.static yL_sum, Cond.codeWith yL_sum cL_sum 7 (some .int) [(0, 37, 38, 24)], Cond.methodLink RL 33 yX1_sumOfPart, Cond.instanceMethod yX1_sumOfPart, Cond.selects RX1 yX1_sumOfPart yX1_sumOfPart, Cond.code yX1_sumOfPart cX1_sumOfPart 6 (some .int), Cond.methodLink RX1 47 yX1_findModel, Cond.instanceMethod yX1_findModel, Cond.selects RX1 yX1_findModel yX1_findModel, Cond.code yX1_findModel cX1_findModel 2 (some (.object "ChecksumLab$Model")), Cond.methodLink RX1 97 yX1_partSum, Cond.instanceMethod yX1_partSum, Cond.selects RX1 yX1_partSum yX1_partSum, Cond.code yX1_partSum cX1_partSum 7 (some .int), Cond.fieldLink RX1 51 "ChecksumLab$Model" "init" "I", Cond.methodLink RX1 54 yX0_takeByte, Cond.instanceMethod yX0_takeByte, Cond.selects RX0 yX0_takeByte yX0_takeByte, Cond.code yX0_takeByte cX0_takeByte 6 (some .int), Cond.methodLink RX0 45 yX0_inTakenOrder, Cond.instanceMethod yX0_inTakenOrder, Cond.selects RX0 yX0_inTakenOrder yX0_inTakenOrder, Cond.code yX0_inTakenOrder cX0_inTakenOrder 2 (some .int), Cond.static yX1_reversed]
def wsL_law0_r6 : List Cond := [Cond.code yX1_reversed cX1_reversed 4 (some .int), Cond.methodLink RX0 48 yX0_takeBit, Cond.instanceMethod yX0_takeBit, Cond.selects RX0 yX0_takeBit yX0_takeBit, Cond.code yX0_takeBit cX0_takeBit 3 (some .int), Cond.methodLink RX0 37 yX0_timesX, Cond.instanceMethod yX0_timesX, Cond.selects RX0 yX0_timesX yX0_timesX, Cond.code yX0_timesX cX0_timesX 3 (some .int), Cond.methodLink RX1 58 yX0_sumOfRegister, Cond.instanceMethod yX0_sumOfRegister, Cond.selects RX0 yX0_sumOfRegister yX0_sumOfRegister, Cond.code yX0_sumOfRegister cX0_sumOfRegister 2 (some .int), Cond.methodLink RX0 54 yX0_inSumOrder, Cond.instanceMethod yX0_inSumOrder, Cond.selects RX0 yX0_inSumOrder yX0_inSumOrder, Cond.code yX0_inSumOrder cX0_inSumOrder 2 (some .int), Cond.methodLink RL 37 yX1_sum, Cond.instanceMethod yX1_sum, Cond.selects RX1 yX1_sum yX1_sum, Cond.code yX1_sum cX1_sum 4 (some .int), Cond.methodLink RL 40 yX1_remainder, Cond.instanceMethod yX1_remainder, Cond.selects RX1 yX1_remainder yX1_remainder]
def wsL_law0_r7 : List Cond := [Cond.code yX1_remainder cX1_remainder 7 (some .int), Cond.methodLink RX1 106 yX0_divideByte, Cond.instanceMethod yX0_divideByte, Cond.selects RX0 yX0_divideByte yX0_divideByte, Cond.code yX0_divideByte cX0_divideByte 5 (some .int)]
def wsL_law0 : List Cond := (wsL_law0_r1 ++ (wsL_law0_r2 ++ (wsL_law0_r3 ++ (wsL_law0_r4 ++ (wsL_law0_r5 ++ (wsL_law0_r6 ++ wsL_law0_r7)))))) ++ wsX10 ++ wsX00 ++ ([] : List Cond)
def wsL_law : List Cond := wsL_law0 ++ (vx_atS RX1 32 "java/lang/IllegalArgumentException" ["java/lang/RuntimeException", "java/lang/Exception"]).filter goodWord ++ (vx_atS RX1 43 "java/lang/IllegalStateException" ["java/lang/RuntimeException", "java/lang/Exception"]).filter goodWord ++ (vx_atS RX1 105 "java/lang/IndexOutOfBoundsException" ["java/lang/RuntimeException", "java/lang/Exception"]).filter goodWord
abbrev vwCl : List vw_C := [(RX0, TX0, 8), (RX1, TX1, 4)]
end
section
set_option maxRecDepth 20000 in
theorem wsL_law0_r1_in : GoodIn lw_tbl wsL_law0_r1 := goodIn_r _ [14, 15, 6, 288, 16, 17, 18, 19, 20, 21, 22, 26, 27, 24, 39, 28, 29, 40, 41, 5, 42, 43, 44, 45] (by decide +kernel) (by decide +kernel)
set_option maxRecDepth 20000 in
theorem wsL_law0_r2_in : GoodIn lw_tbl wsL_law0_r2 := goodIn_r _ [46, 47, 48, 49, 50, 51, 52, 53, 54, 55, 10, 127, 11, 143, 12, 123, 124, 125, 144, 145, 146, 147, 148, 149] (by decide +kernel) (by decide +kernel)
set_option maxRecDepth 20000 in
theorem wsL_law0_r3_in : GoodIn lw_tbl wsL_law0_r3 := goodIn_r _ [150, 152, 153, 154, 155, 156, 174, 175, 176, 177, 178, 179, 180, 181, 182, 183, 184, 185, 13, 201, 202, 203, 205, 207] (by decide +kernel) (by decide +kernel)
set_option maxRecDepth 20000 in
theorem wsL_law0_r4_in : GoodIn lw_tbl wsL_law0_r4 := goodIn_r _ [1, 208, 222, 223, 224, 225, 226, 227, 228, 217, 219, 2, 220, 210, 211, 212, 213, 214, 215, 216, 229, 230, 231, 232] (by decide +kernel) (by decide +kernel)
set_option maxRecDepth 20000 in
theorem wsL_law0_r5_in : GoodIn lw_tbl wsL_law0_r5 := goodIn_r _ [233, 234, 235, 236, 237, 238, 239, 241, 3, 242, 245, 247, 4, 248, 151, 249, 250, 251, 252, 253, 254, 255, 256, 258] (by decide +kernel) (by decide +kernel)
set_option maxRecDepth 20000 in
theorem wsL_law0_r6_in : GoodIn lw_tbl wsL_law0_r6 := goodIn_r _ [259, 260, 261, 262, 263, 264, 265, 266, 267, 268, 269, 270, 271, 272, 273, 274, 275, 276, 277, 278, 279, 280, 281, 282] (by decide +kernel) (by decide +kernel)
set_option maxRecDepth 20000 in
theorem wsL_law0_r7_in : GoodIn lw_tbl wsL_law0_r7 := goodIn_r _ [283, 284, 285, 286, 287] (by decide +kernel) (by decide +kernel)
set_option maxRecDepth 20000 in
theorem wsL_law0_X10_in : GoodIn lw_tbl wsX10 := goodIn_of _ (by decide +kernel)
set_option maxRecDepth 20000 in
theorem wsL_law0_X00_in : GoodIn lw_tbl wsX00 := goodIn_of _ (by decide +kernel)
theorem wsL_law_in0 : ∀ w ∈ wsL_law0, w ∈ lw_tbl := fun w h => ((goodIn_app (goodIn_app (goodIn_app (goodIn_app wsL_law0_r1_in (goodIn_app wsL_law0_r2_in (goodIn_app wsL_law0_r3_in (goodIn_app wsL_law0_r4_in (goodIn_app wsL_law0_r5_in (goodIn_app wsL_law0_r6_in (wsL_law0_r7_in))))))) wsL_law0_X10_in) wsL_law0_X00_in) (fun _ h => absurd h List.not_mem_nil) : GoodIn lw_tbl wsL_law0) w h).1
end
section
theorem wsL_law_x0 : ∀ w ∈ (vx_atS RX1 32 "java/lang/IllegalArgumentException" ["java/lang/RuntimeException", "java/lang/Exception"]).filter goodWord, w ∈ lw_tbl := by decide +kernel
theorem wsL_law_x1 : ∀ w ∈ (vx_atS RX1 43 "java/lang/IllegalStateException" ["java/lang/RuntimeException", "java/lang/Exception"]).filter goodWord, w ∈ lw_tbl := by decide +kernel
theorem wsL_law_x2 : ∀ w ∈ (vx_atS RX1 105 "java/lang/IndexOutOfBoundsException" ["java/lang/RuntimeException", "java/lang/Exception"]).filter goodWord, w ∈ lw_tbl := by decide +kernel
theorem wsL_law_in : ∀ w ∈ wsL_law, w ∈ lw_tbl := fun w h => (List.mem_append.mp h).elim (fun h => (List.mem_append.mp h).elim (fun h => (List.mem_append.mp h).elim (fun h => wsL_law_in0 w h) (fun h => wsL_law_x0 w h)) (fun h => wsL_law_x1 w h)) (fun h => wsL_law_x2 w h)
theorem inlX0 : ∀ w ∈ wsX00, w ∈ wsL_law := fun _ h => List.mem_append_left _ (List.mem_append_left _ (List.mem_append_left _ (List.mem_append_left _ (List.mem_append_right _ h))))
theorem inX0 : ∀ w ∈ wsX00, w ∈ lw_tbl := fun w h => wsL_law_in w (inlX0 w h)
theorem inlX1 : ∀ w ∈ wsX10, w ∈ wsL_law := fun _ h => List.mem_append_left _ (List.mem_append_left _ (List.mem_append_left _ (List.mem_append_left _ (List.mem_append_left _ (List.mem_append_right _ h)))))
theorem inX1 : ∀ w ∈ wsX10, w ∈ lw_tbl := fun w h => wsL_law_in w (inlX1 w h)
theorem inX2 : ∀ w ∈ wsX20, w ∈ lw_tbl := by decide +kernel
theorem inJ0 : ∀ w ∈ wsJ00, w ∈ lw_tbl := by decide +kernel
end
section
/-! the base layer: booleans, the launch's facts that are no table words, short forms of contracts and calls -/
/-- a boolean as the machine holds it -/
def cs_z (b : Bool) : Int32 := if b then 1 else 0
theorem cs_z_t : cs_z true = 1 := rfl
theorem cs_z_f : cs_z false = 0 := rfl
theorem cs_z_0 {b : Bool} : cs_z b = 0 ↔ b = false := by cases b <;> decide
theorem cs_z_1 {b : Bool} : cs_z b = 1 ↔ b = true := by cases b <;> decide
theorem cs_z_nar (b : Bool) : narrow .boolean (.int (cs_z b)) = .int (cs_z b) := by cases b <;> rfl
theorem cs_z_fit (b : Bool) : fits .boolean (.int (cs_z b)) = true := by cases b <;> rfl
theorem cs_z_vn (b : Bool) : vp_nar .boolean (cs_z b) = cs_z b := by cases b <;> rfl
theorem cs_tt {b : Bool} (h : ¬ b = false) : b = true := by cases b; exact absurd rfl h; rfl
theorem cs_ff {b : Bool} (h : ¬ b = true) : b = false := by cases b; rfl; exact absurd rfl h
section CSR
variable {p : Program} {l : Launch} {e : Env} {R : Room} {s : State} {m : MethodId} {args : Array Value} {below : List Frame} {meth : Method} {c : Code} {H : Heap} {locs : List Loc} {cells slots : Nat} {Q : State → Prop} {cc : ByteArray} {pc : Nat} {ls : Array Slot} {rest : List Value}
theorem cs_ifeq (hexec : p.tables.exec = Jvm.exec) (hb : c.code = cc) {x : Bool} {off : Int} {tgt : Nat} (hdg : decode cc pc = .ok (.ifCond .eq off, 3)) (ht : (pc : Int) + off = (tgt : Int))
    (kt : x = false → W p l e R s m args below meth c H locs cells slots Q (F0 m tgt ls rest)) (kf : x = true → W p l e R s m args below meth c H locs cells slots Q (F0 m (pc + 3) ls rest)) : W p l e R s m args below meth c H locs cells slots Q (F0 m pc ls (.int (cs_z x) :: rest)) :=
  lv_if_eq hexec hb hdg ht (fun h => kt (cs_z_0.mp h)) (fun h => kf (cs_tt (fun q => h (cs_z_0.mpr q))))
theorem cs_ifne (hexec : p.tables.exec = Jvm.exec) (hb : c.code = cc) {x : Bool} {off : Int} {tgt : Nat} (hdg : decode cc pc = .ok (.ifCond .ne off, 3)) (ht : (pc : Int) + off = (tgt : Int))
    (kt : x = true → W p l e R s m args below meth c H locs cells slots Q (F0 m tgt ls rest)) (kf : x = false → W p l e R s m args below meth c H locs cells slots Q (F0 m (pc + 3) ls rest)) : W p l e R s m args below meth c H locs cells slots Q (F0 m pc ls (.int (cs_z x) :: rest)) :=
  lv_if_ne hexec hb hdg ht (fun h => kt (cs_tt (fun q => h (cs_z_0.mpr q)))) (fun h => kf (cs_z_0.mp h))
/-- the same value under another name -/
theorem cs_top {x y : Int32} (h : x = y) (k : W p l e R s m args below meth c H locs cells slots Q (F0 m pc ls (.int y :: rest))) : W p l e R s m args below meth c H locs cells slots Q (F0 m pc ls (.int x :: rest)) := by subst h; exact k
theorem cs_topl {x y : Int64} (h : x = y) (k : W p l e R s m args below meth c H locs cells slots Q (F0 m pc ls (.long y :: rest))) : W p l e R s m args below meth c H locs cells slots Q (F0 m pc ls (.long x :: rest)) := by subst h; exact k
end CSR
/-! the facts of a launch that calls carry on: the nest call, the texts of the exceptions, the classes that a catch asks for -/
def cs_str (k : Nat) (tx : String) (U : State) : Prop := ∃ a : Nat, vk_R RX1 k tx a U
theorem cs_str.warm {k : Nat} {tx : String} {s U : State} (hW : s.WarmedH U.vm) (h : cs_str k tx s) : cs_str k tx U := by
  obtain ⟨a, h⟩ := h
  exact ⟨a, vk_R.warm hW h⟩
def cs_IAE : String := "java/lang/IllegalArgumentException"
def cs_ISE : String := "java/lang/IllegalStateException"
def cs_IOB : String := "java/lang/IndexOutOfBoundsException"
def cs_en (U : State) : Prop :=
  va_Nw (.methodLinkNest RX0 51 yX1_reversed RX1) U ∧ (va_Nw (.castable cs_IAE cs_IAE) U ∧ va_Nw (.castable cs_ISE cs_ISE) U ∧ va_Nw (.castable cs_IOB cs_IOB) U ∧ va_Nw (.declares (Bundle.initS "java/lang/RuntimeException")) U ∧ va_Nw (.declares (Bundle.initS "java/lang/Exception")) U ∧ va_Nw (.declares (Bundle.initS Bundle.tN)) U) ∧
  (∀ q ∈ [(30, "width is out of range"), (159, "not a number with w bits"), (41, "there are 6 models already"), (147, "no such model"), (149, "no such row"), (155, "not a byte"), (153, "the row would have more than 256 bytes"), (151, "no such index"), (103, "from or to is out of range")], cs_str q.1 q.2 U)
theorem cs_en.warm {s U : State} (hW : s.WarmedH U.vm) (h : cs_en s) : cs_en U :=
  ⟨va_Nw.warmM hW h.1, ⟨va_Nw.warmC hW h.2.1.1, va_Nw.warmC hW h.2.1.2.1, va_Nw.warmC hW h.2.1.2.2.1, va_Nw.warmD hW h.2.1.2.2.2.1, va_Nw.warmD hW h.2.1.2.2.2.2.1, va_Nw.warmD hW h.2.1.2.2.2.2.2⟩, fun q hq => (h.2.2 q hq).warm hW⟩
/-- a start without writing: the world, the classes, the launch's facts -/
def cs_B (D : va_G) (tys : List (ClassId × FieldType)) (ws : va_W) (U : State) : Prop := cs_en U ∧ va_P D vwCl ws U.heap ∧ va_K D vwCl tys U
theorem cs_B.blind {D : va_G} {tys : List (ClassId × FieldType)} {ws : va_W} {av : List Value} : FrameBlind (va_Pc av (cs_B D tys ws)) := fun a U g mk q =>
  ⟨q.1, cs_en.warm (s := U) (U := U.calling g mk a) (State.WarmedH.refl U) q.2.1, q.2.2.1, va_K.moved (u := U) (U := U.calling g mk a) (Vm.Alike.refl U.vm) q.2.2.2⟩
theorem cs_B.at {D : va_G} {tys : List (ClassId × FieldType)} {ws : va_W} {av : List Value} {s : State} {H : Heap} (hE : cs_en s) (hP : va_P D vwCl ws H) (hK : va_K D vwCl tys s) : ∀ U : State, U.heap = H → s.WarmedH U.vm → va_Pc av (cs_B D tys ws) av.toArray U := fun U hU hW =>
  ⟨rfl, hE.warm hW, by rw [hU]; exact hP, va_K.moved hW.alike hK⟩
/-- an int out of a heap that stays as it is -/
abbrev cs_Mi (l : Launch) (y : MethodName) (ws : List Cond) (rm : Room) (D : va_G) (tys : List (ClassId × FieldType)) (w : va_W) (av : List Value) (v : Int32) : Prop := Met l y ws rm (va_Pc av (cs_B D tys w)) (vp_Si (fun r => r = v)) 0 0 (fun _ => False)
abbrev cs_Ml (l : Launch) (y : MethodName) (ws : List Cond) (rm : Room) (D : va_G) (tys : List (ClassId × FieldType)) (w : va_W) (av : List Value) (v : Int64) : Prop := Met l y ws rm (va_Pc av (cs_B D tys w)) (vp_Sl (fun r => r = v)) 0 0 (fun _ => False)
theorem cs_one {D : va_G} {ws : va_W} {H : Heap} (hP : va_P D vwCl ws H) {k : Nat} {q : Nat × va_E} (h : ws[k]? = some q) : va_P D vwCl [q] H := fun j x hx => by
  have h0 : j < 1 := (List.getElem?_eq_some_iff.mp hx).1
  have h1 : j = 0 := by omega
  subst h1
  cases hx
  exact hP k q h
theorem cs_none {D : va_G} {H : Heap} : va_P D vwCl [] H := fun j x hx => by simp at hx
/-- the statics of Throwable -/
def cs_zz (A : Nat → Prop) (U : State) (H : Heap) : Prop := vx_Zq Bundle.tN "UNASSIGNED_STACK" Bundle.steD A U H ∧ vx_Zq Bundle.tN "SUPPRESSED_SENTINEL" Bundle.listD A U H
theorem cs_zz.moved {A : Nat → Prop} {u U : State} {H : Heap} (hvm : u.vm.Alike U.vm) (h : cs_zz A u H) : cs_zz A U H := ⟨h.1.moved hvm, h.2.moved hvm⟩
theorem cs_zz.kept {A : Nat → Prop} {U : State} {H H1 : Heap} (h : cs_zz A U H) (hq : ∀ a : Nat, a < H.size → ¬ A a → H1[a]? = H[a]?) : cs_zz A U H1 := ⟨h.1.kept hq, h.2.kept hq⟩
theorem cs_zz.narrow {A B : Nat → Prop} {U : State} {H : Heap} (h : cs_zz A U H) (hAB : ∀ q, B q → A q) : cs_zz B U H := ⟨h.1.narrow hAB, h.2.narrow hAB⟩
theorem cs_at1 : (vx_atS RX1 32 cs_IAE ["java/lang/RuntimeException", "java/lang/Exception"]).filter (fun w => !goodWord w) = [.declares (Bundle.initS "java/lang/RuntimeException"), .declares (Bundle.initS "java/lang/Exception"), .declares (Bundle.initS Bundle.tN), .castable cs_IAE cs_IAE] := by decide +kernel
theorem cs_at2 : (vx_atS RX1 43 cs_ISE ["java/lang/RuntimeException", "java/lang/Exception"]).filter (fun w => !goodWord w) = [.declares (Bundle.initS "java/lang/RuntimeException"), .declares (Bundle.initS "java/lang/Exception"), .declares (Bundle.initS Bundle.tN), .castable cs_ISE cs_ISE] := by decide +kernel
theorem cs_at3 : (vx_atS RX1 105 cs_IOB ["java/lang/RuntimeException", "java/lang/Exception"]).filter (fun w => !goodWord w) = [.declares (Bundle.initS "java/lang/RuntimeException"), .declares (Bundle.initS "java/lang/Exception"), .declares (Bundle.initS Bundle.tN), .castable cs_IOB cs_IOB] := by decide +kernel
/-! calls: a callee that writes nothing and may throw; a callee that writes within its world -/
def cs_XC (bad : String → Prop) : String → State → State → Prop := fun E st t => bad E ∧ st.heap.size ≤ t.heap.size ∧ ∀ q : Nat, q < st.heap.size → t.heap[q]? = st.heap[q]?
def cs_Sv (ok : Prop) : Array Value → State → Outcome → State → Prop := fun _ st o t => o = .returned none ∧ ok ∧ t.heap = st.heap
def cs_Sr (r : Nat) (ok : Prop) : Array Value → State → Outcome → State → Prop := fun _ st o t => o = .returned (some (.ref r)) ∧ ok ∧ t.heap = st.heap
def cs_Wd {S : Type} (D : va_G) (w : va_W) (w' : S → va_W) (u : S) (st t : State) : Prop := va_P D vwCl (w' u) t.heap ∧ va_D (va_A w st.heap.size) (w' u) ∧ va_F (va_A w st.heap.size) st t
def cs_Qw {S : Type} (D : va_G) (w : va_W) (w' : S → va_W) (post : Int32 → S → Prop) : Array Value → State → Outcome → State → Prop := fun _ st o t => ∃ (r : Int32) (u : S), o = .returned (some (.int r)) ∧ post r u ∧ cs_Wd D w w' u st t
def cs_Qv {S : Type} (D : va_G) (w : va_W) (w' : S → va_W) (post : S → Prop) : Array Value → State → Outcome → State → Prop := fun _ st o t => ∃ u : S, o = .returned none ∧ post u ∧ cs_Wd D w w' u st t
section CSC
variable {p : Program} {l : Launch} {e : Env} {R : Room} {s : State} {m : MethodId} {args : Array Value} {below : List Frame} {meth : Method} {c : Code} {H : Heap} {locs : List Loc} {cells slots : Nat} {Q : State → Prop}
variable {pc : Nat} {ls : Array Slot} {rest st0 : List Value} {a : Array Value} {A0 : Nat → Prop} {H0 : Heap} {mc ms : Nat}
theorem cs_xcalli {post : Int32 → Prop} {bad : String → Prop} (hr : vx_Run p l e R s m args below meth c H locs cells slots mc ms (F0 m pc ls st0) rest (vp_Si post a) (cs_XC bad) (fun _ => False))
    (kx : ∀ (E : String) (ce : Cell) (q9 : Addr) (H1 : Heap), bad E → H.size ≤ H1.size → (∀ q : Nat, q < H.size → H1[q]? = H[q]?) → H1[q9]? = some ce → ce.vm = .none → s.vm.findClass E = some ce.cls → vx_W p l e R s m args below meth c H1 locs (cells + mc) (slots + ms) Q (F0 m pc ls rest) q9)
    (kk : ∀ r : Int32, post r → W p l e R s m args below meth c H locs (cells + mc) (slots + ms) Q (F0 m (pc + 3) ls (.int r :: rest))) : W p l e R s m args below meth c H locs cells slots Q (F0 m pc ls st0) := by
  intro T hT X
  rcases hr T hT X with ⟨v, st₀, t, T', L, h0, X', hL, e1, e2, ⟨r, hv, hp, hh⟩, st⟩ | ⟨q, st₀, t, T', L, E, ce, h0, X', hL, e1, e2, ⟨hbad, hz, hk⟩, hce, hcv, hcl, st⟩
  · cases hv
    have hL0 : L = [] := List.eq_nil_iff_forall_not_mem.mpr (fun q h => hL q h)
    subst hL0
    rw [List.append_nil] at X'
    obtain ⟨t2, a1, b1⟩ := kk r hp T' (by rw [e1, hh, h0]) X'
    exact ⟨t2, st t2 a1, b1⟩
  · have hL0 : L = [] := List.eq_nil_iff_forall_not_mem.mpr (fun q h => hL q h)
    subst hL0
    rw [List.append_nil] at X'
    rw [h0] at hz hk
    obtain ⟨t2, a1, b1⟩ := kx E ce q T'.heap hbad (by rw [e1]; exact hz) (fun x hx => by rw [e1]; exact hk x hx) (by rw [e1]; exact hce) hcv hcl T' rfl X'
    exact ⟨t2, st.trans a1, b1⟩
theorem cs_xcallv {ok : Prop} {bad : String → Prop} (hr : vx_Run p l e R s m args below meth c H locs cells slots mc ms (F0 m pc ls st0) rest (cs_Sv ok a) (cs_XC bad) (fun _ => False))
    (kx : ∀ (E : String) (ce : Cell) (q9 : Addr) (H1 : Heap), bad E → H.size ≤ H1.size → (∀ q : Nat, q < H.size → H1[q]? = H[q]?) → H1[q9]? = some ce → ce.vm = .none → s.vm.findClass E = some ce.cls → vx_W p l e R s m args below meth c H1 locs (cells + mc) (slots + ms) Q (F0 m pc ls rest) q9)
    (kk : ok → W p l e R s m args below meth c H locs (cells + mc) (slots + ms) Q (F0 m (pc + 3) ls rest)) : W p l e R s m args below meth c H locs cells slots Q (F0 m pc ls st0) := by
  intro T hT X
  rcases hr T hT X with ⟨v, st₀, t, T', L, h0, X', hL, e1, e2, ⟨hv, hp, hh⟩, st⟩ | ⟨q, st₀, t, T', L, E, ce, h0, X', hL, e1, e2, ⟨hbad, hz, hk⟩, hce, hcv, hcl, st⟩
  · cases hv
    have hL0 : L = [] := List.eq_nil_iff_forall_not_mem.mpr (fun q h => hL q h)
    subst hL0
    rw [List.append_nil] at X'
    obtain ⟨t2, a1, b1⟩ := kk hp T' (by rw [e1, hh, h0]) X'
    exact ⟨t2, st t2 a1, b1⟩
  · have hL0 : L = [] := List.eq_nil_iff_forall_not_mem.mpr (fun q h => hL q h)
    subst hL0
    rw [List.append_nil] at X'
    rw [h0] at hz hk
    obtain ⟨t2, a1, b1⟩ := kx E ce q T'.heap hbad (by rw [e1]; exact hz) (fun x hx => by rw [e1]; exact hk x hx) (by rw [e1]; exact hce) hcv hcl T' rfl X'
    exact ⟨t2, st.trans a1, b1⟩
theorem cs_xcallr {b : Nat} {ok : Prop} {bad : String → Prop} (hr : vx_Run p l e R s m args below meth c H locs cells slots mc ms (F0 m pc ls st0) rest (cs_Sr b ok a) (cs_XC bad) (fun _ => False))
    (kx : ∀ (E : String) (ce : Cell) (q9 : Addr) (H1 : Heap), bad E → H.size ≤ H1.size → (∀ q : Nat, q < H.size → H1[q]? = H[q]?) → H1[q9]? = some ce → ce.vm = .none → s.vm.findClass E = some ce.cls → vx_W p l e R s m args below meth c H1 locs (cells + mc) (slots + ms) Q (F0 m pc ls rest) q9)
    (kk : ok → W p l e R s m args below meth c H locs (cells + mc) (slots + ms) Q (F0 m (pc + 3) ls (.ref b :: rest))) : W p l e R s m args below meth c H locs cells slots Q (F0 m pc ls st0) := by
  intro T hT X
  rcases hr T hT X with ⟨v, st₀, t, T', L, h0, X', hL, e1, e2, ⟨hv, hp, hh⟩, st⟩ | ⟨q, st₀, t, T', L, E, ce, h0, X', hL, e1, e2, ⟨hbad, hz, hk⟩, hce, hcv, hcl, st⟩
  · cases hv
    have hL0 : L = [] := List.eq_nil_iff_forall_not_mem.mpr (fun q h => hL q h)
    subst hL0
    rw [List.append_nil] at X'
    obtain ⟨t2, a1, b1⟩ := kk hp T' (by rw [e1, hh, h0]) X'
    exact ⟨t2, st t2 a1, b1⟩
  · have hL0 : L = [] := List.eq_nil_iff_forall_not_mem.mpr (fun q h => hL q h)
    subst hL0
    rw [List.append_nil] at X'
    rw [h0] at hz hk
    obtain ⟨t2, a1, b1⟩ := kx E ce q T'.heap hbad (by rw [e1]; exact hz) (fun x hx => by rw [e1]; exact hk x hx) (by rw [e1]; exact hce) hcv hcl T' rfl X'
    exact ⟨t2, st.trans a1, b1⟩
/-- a callee that writes within its world w -/
theorem cs_wcalli {S : Type} {D : va_G} {w : va_W} {w' : S → va_W} {post : Int32 → S → Prop} (hr : va_Run p l e R s m args below meth c H locs cells slots mc ms (F0 m pc ls st0) rest (cs_Qw D w w' post a) (va_A w H.size)) (hS : va_S A0 H0 H locs) (hF : ∀ q, va_A w H.size q → A0 q)
    (kk : ∀ (r : Int32) (u : S) (H1 : Heap) (locs1 : List Loc), post r u → va_P D vwCl (w' u) H1 → va_D (va_A w H.size) (w' u) → H.size ≤ H1.size → (∀ q : Nat, q < H.size → ¬ va_A w H.size q → H1[q]? = H[q]?) → va_S A0 H0 H1 locs1 → W p l e R s m args below meth c H1 locs1 (cells + mc) (slots + ms) Q (F0 m (pc + 3) ls (.int r :: rest))) : W p l e R s m args below meth c H locs cells slots Q (F0 m pc ls st0) := by
  intro T hT X
  obtain ⟨v, st₀, t, T', L, h0, X', hL, e1, e2, ⟨r, u, hv, hp, hP, hD, hFr⟩, st⟩ := hr T hT X
  cases hv
  rw [h0] at hD hFr
  obtain ⟨k1, k2, k3⟩ := vx_keep h0 e1 hS (fun q _ h => hF q h) (fun q h => hF q h) hL hFr
  obtain ⟨t2, a1, b1⟩ := kk r u T'.heap (locs ++ L) hp (by rw [e1]; exact hP) hD k1 k2 k3 T' rfl X'
  exact ⟨t2, st t2 a1, b1⟩
theorem cs_wcallv {S : Type} {D : va_G} {w : va_W} {w' : S → va_W} {post : S → Prop} (hr : va_Run p l e R s m args below meth c H locs cells slots mc ms (F0 m pc ls st0) rest (cs_Qv D w w' post a) (va_A w H.size)) (hS : va_S A0 H0 H locs) (hF : ∀ q, va_A w H.size q → A0 q)
    (kk : ∀ (u : S) (H1 : Heap) (locs1 : List Loc), post u → va_P D vwCl (w' u) H1 → va_D (va_A w H.size) (w' u) → H.size ≤ H1.size → (∀ q : Nat, q < H.size → ¬ va_A w H.size q → H1[q]? = H[q]?) → va_S A0 H0 H1 locs1 → W p l e R s m args below meth c H1 locs1 (cells + mc) (slots + ms) Q (F0 m (pc + 3) ls rest)) : W p l e R s m args below meth c H locs cells slots Q (F0 m pc ls st0) := by
  intro T hT X
  obtain ⟨v, st₀, t, T', L, h0, X', hL, e1, e2, ⟨u, hv, hp, hP, hD, hFr⟩, st⟩ := hr T hT X
  cases hv
  rw [h0] at hD hFr
  obtain ⟨k1, k2, k3⟩ := vx_keep h0 e1 hS (fun q _ h => hF q h) (fun q h => hF q h) hL hFr
  obtain ⟨t2, a1, b1⟩ := kk u T'.heap (locs ++ L) hp (by rw [e1]; exact hP) hD k1 k2 k3 T' rfl X'
  exact ⟨t2, st t2 a1, b1⟩
/-- .. and may throw, nothing written then -/
theorem cs_wxcalli {S : Type} {D : va_G} {w : va_W} {w' : S → va_W} {post : Int32 → S → Prop} {bad : String → Prop} (hr : vx_Run p l e R s m args below meth c H locs cells slots mc ms (F0 m pc ls st0) rest (cs_Qw D w w' post a) (cs_XC bad) (va_A w H.size)) (hS : va_S A0 H0 H locs) (hF : ∀ q, va_A w H.size q → A0 q)
    (kx : ∀ (E : String) (ce : Cell) (q9 : Addr) (H1 : Heap) (locs1 : List Loc), bad E → H.size ≤ H1.size → (∀ q : Nat, q < H.size → H1[q]? = H[q]?) → va_S A0 H0 H1 locs1 → H1[q9]? = some ce → ce.vm = .none → s.vm.findClass E = some ce.cls → vx_W p l e R s m args below meth c H1 locs1 (cells + mc) (slots + ms) Q (F0 m pc ls rest) q9)
    (kk : ∀ (r : Int32) (u : S) (H1 : Heap) (locs1 : List Loc), post r u → va_P D vwCl (w' u) H1 → va_D (va_A w H.size) (w' u) → H.size ≤ H1.size → (∀ q : Nat, q < H.size → ¬ va_A w H.size q → H1[q]? = H[q]?) → va_S A0 H0 H1 locs1 → W p l e R s m args below meth c H1 locs1 (cells + mc) (slots + ms) Q (F0 m (pc + 3) ls (.int r :: rest))) : W p l e R s m args below meth c H locs cells slots Q (F0 m pc ls st0) := by
  intro T hT X
  rcases hr T hT X with ⟨v, st₀, t, T', L, h0, X', hL, e1, e2, ⟨r, u, hv, hp, hP, hD, hFr⟩, st⟩ | ⟨q, st₀, t, T', L, E, ce, h0, X', hL, e1, e2, ⟨hbad, hz, hk⟩, hce, hcv, hcl, st⟩
  · cases hv
    rw [h0] at hD hFr
    obtain ⟨k1, k2, k3⟩ := vx_keep h0 e1 hS (fun q _ h => hF q h) (fun q h => hF q h) hL hFr
    obtain ⟨t2, a1, b1⟩ := kk r u T'.heap (locs ++ L) hp (by rw [e1]; exact hP) hD k1 k2 k3 T' rfl X'
    exact ⟨t2, st t2 a1, b1⟩
  · have hFr : va_F (fun _ => False) st₀ t := ⟨hz, fun q hq _ => hk q hq⟩
    obtain ⟨k1, k2, k3⟩ := vx_keep h0 e1 hS (fun q _ h => h.elim) (fun q h => hF q h) hL hFr
    obtain ⟨t2, a1, b1⟩ := kx E ce q T'.heap (locs ++ L) hbad k1 (fun x hx => k2 x hx (fun z => z)) k3 (by rw [e1]; exact hce) hcv hcl T' rfl X'
    exact ⟨t2, st.trans a1, b1⟩
/-- a thrown exception leaves a method that has written nothing -/
theorem cs_xout {Qc : Array Value → State → Outcome → State → Prop} {bad bad' : String → Prop} {mc' ms' : Nat} {free : Addr → Prop} (hout : ∀ x ∈ c.exceptionTable.toList, False) (hlocks : meth.locks = false) (hbb : ∀ E, bad E → bad' E) (hc : cells ≤ mc') (hs : slots ≤ ms') (E : String) (ce : Cell) (q9 : Addr) (H1 : Heap) (h1 : bad E) (h2 : s.heap.size ≤ H1.size) (h3 : ∀ q : Nat, q < s.heap.size → H1[q]? = s.heap[q]?) (h4 : H1[q9]? = some ce) (h5 : ce.vm = .none) (h6 : s.vm.findClass E = some ce.cls) : vx_W p l e R s m args below meth c H1 [] cells slots (vx_MQ below Qc (cs_XC bad') args s mc' ms' free) (F0 m pc ls rest) q9 :=
  vx_out (fun x hx => (hout x hx).elim) hlocks h4 h5 h6 (fun t ht _ => ⟨hbb E h1, by rw [ht]; exact h2, fun q hq => by rw [ht]; exact h3 q hq⟩) (fun z hz => by cases hz) hc hs
end CSC
/-- the throw of an exception of the class ChecksumLab, nothing written yet -/
theorem cs_throw {p : Program} {l : Launch} {e : Env} {R : Room} {s : State} {m : MethodId} {args : Array Value} {below : List Frame} {meth : Method} {c : Code} {cells slots : Nat} {pc : Nat} {ls : Array Slot} {rest : List Value} {Qc : Array Value → State → Outcome → State → Prop} {bad : String → Prop} {mc ms : Nat} {free : Addr → Prop} {cc : ByteArray} {Ts : List Cond} {cls text : String} {ik is ic : Nat}
    (hexec : p.tables.exec = Jvm.exec) (hb : c.code = cc) (hlf : l.stackTraces = false) (hown : s.vm.findClass RX1 = some m.cls) (hts : ∀ w ∈ Ts, w.before args s = true) (hcls : Bundle.fit cls = true)
    (hng : (vx_atS RX1 ic cls ["java/lang/RuntimeException", "java/lang/Exception"]).filter (fun w => !goodWord w) = [.declares (Bundle.initS "java/lang/RuntimeException"), .declares (Bundle.initS "java/lang/Exception"), .declares (Bundle.initS Bundle.tN), .castable cls cls]) (hE : cs_en s) (hcast : va_Nw (.castable cls cls) s) (hot : (vx_atS RX1 ic cls ["java/lang/RuntimeException", "java/lang/Exception"]).all vx_ot = true)
    (hin : ∀ w ∈ (vx_atS RX1 ic cls ["java/lang/RuntimeException", "java/lang/Exception"]).filter goodWord, w ∈ Ts) (hk : Cond.classLink RX1 ik cls ∈ Ts) (hini : Cond.initialized cls ∈ Ts) (hstr : cs_str is text s) (hz : cs_zz (fun q => s.heap.size ≤ q) s s.heap) (hsize : ls.size = c.maxLocals)
    (d0 : decode cc pc = .ok (.new ik, 3)) (d3 : decode cc (pc + 3) = .ok (.dup, 1)) (d4 : decode cc (pc + 4) = .ok (.ldc is, 2)) (d6 : decode cc (pc + 6) = .ok (.invokespecial ic, 3)) (d9 : decode cc (pc + 9) = .ok (.athrow, 1))
    (hout : ∀ x ∈ c.exceptionTable.toList, False) (hRf : 5 < R.frames) (hRl : (rest.map fun v => v.category).sum + 82 ≤ R.locals) (hRc : cells + 1 ≤ R.cells) (hRs : slots + 6 ≤ R.slots) (hlocks : meth.locks = false) (hbad : bad cls) (hc : cells + 1 ≤ mc) (hs : slots + 6 ≤ ms) :
    W p l e R s m args below meth c s.heap [] cells slots (vx_MQ below Qc (cs_XC bad) args s mc ms free) (F0 m pc ls rest) := by
  obtain ⟨sa, hsa⟩ := hstr
  have hat : ∀ w ∈ vx_atS RX1 ic cls ["java/lang/RuntimeException", "java/lang/Exception"], w.before args s = true := vx_hat (B := [.declares (Bundle.initS "java/lang/RuntimeException"), .declares (Bundle.initS "java/lang/Exception"), .declares (Bundle.initS Bundle.tN), .castable cls cls]) (fun w hw => hts w (hin w hw)) (fun w hw => by rw [hng] at hw; exact hw) (vx_c (va_Nw.use rfl hE.2.1.2.2.2.1) (vx_c (va_Nw.use rfl hE.2.1.2.2.2.2.1) (vx_c (va_Nw.use rfl hE.2.1.2.2.2.2.2) (vx_c (va_Nw.use rfl hcast) vx_n))))
  refine vx_throwS (names := ["java/lang/RuntimeException", "java/lang/Exception"]) (A := fun q => s.heap.size ≤ q) hexec hb hlf hown hcls (by decide +kernel) (hts _ hk) (hts _ hini) hsa hat ?_ hz.1 hz.2 va_S.rf hsize d0 d3 d4 d6 d9 (fun x hx => (hout x hx).elim) hRf hRl hRc hRs hlocks (fun t _ h1 h2 => ⟨hbad, h1, h2⟩) (fun z hz => by cases hz) hc hs
  intro w hw
  rcases List.mem_cons.mp hw with h | h
  · rw [h]; rfl
  · rcases List.mem_cons.mp h with h | h
    · rw [h]; rfl
    · exact List.all_eq_true.mp hot w h
theorem cs_ot1 : (vx_atS RX1 32 cs_IAE ["java/lang/RuntimeException", "java/lang/Exception"]).all vx_ot = true := by decide +kernel
theorem cs_ot2 : (vx_atS RX1 43 cs_ISE ["java/lang/RuntimeException", "java/lang/Exception"]).all vx_ot = true := by decide +kernel
theorem cs_ot3 : (vx_atS RX1 105 cs_IOB ["java/lang/RuntimeException", "java/lang/Exception"]).all vx_ot = true := by decide +kernel
/-! starts and contracts of methods that write, or throw -/
def cs_Bw (D : va_G) (tys : List (ClassId × FieldType)) (ws : va_W) (sz : Nat) (U : State) : Prop := U.heap.size = sz ∧ cs_en U ∧ va_P D vwCl ws U.heap ∧ va_K D vwCl tys U ∧ va_D (fun _ => True) ws
theorem cs_Bw.blind {D : va_G} {tys : List (ClassId × FieldType)} {ws : va_W} {sz : Nat} {av : List Value} : FrameBlind (va_Pc av (cs_Bw D tys ws sz)) := fun a U g mk q =>
  ⟨q.1, q.2.1, cs_en.warm (s := U) (U := U.calling g mk a) (State.WarmedH.refl U) q.2.2.1, q.2.2.2.1, va_K.moved (u := U) (U := U.calling g mk a) (Vm.Alike.refl U.vm) q.2.2.2.2.1, q.2.2.2.2.2⟩
theorem cs_Bw.at {D : va_G} {tys : List (ClassId × FieldType)} {ws : va_W} {av : List Value} {s : State} {H : Heap} {A : Nat → Prop} (hE : cs_en s) (hP : va_P D vwCl ws H) (hK : va_K D vwCl tys s) (hD : va_D A ws) : ∀ U : State, U.heap = H → s.WarmedH U.vm → va_Pc av (cs_Bw D tys ws H.size) av.toArray U := fun U hU hW =>
  ⟨rfl, by rw [hU], hE.warm hW, by rw [hU]; exact hP, va_K.moved hW.alike hK, hD.weaken (fun _ _ _ _ => trivial)⟩
abbrev cs_Mw {S : Type} (l : Launch) (y : MethodName) (ws : List Cond) (rm : Room) (D : va_G) (tys : List (ClassId × FieldType)) (w : va_W) (sz : Nat) (av : List Value) (w' : S → va_W) (post : Int32 → S → Prop) : Prop := Met l y ws rm (va_Pc av (cs_Bw D tys w sz)) (cs_Qw D w w' post) 0 0 (va_A w sz)
abbrev cs_Mv {S : Type} (l : Launch) (y : MethodName) (ws : List Cond) (rm : Room) (D : va_G) (tys : List (ClassId × FieldType)) (w : va_W) (sz : Nat) (av : List Value) (w' : S → va_W) (post : S → Prop) : Prop := Met l y ws rm (va_Pc av (cs_Bw D tys w sz)) (cs_Qv D w w' post) 0 0 (va_A w sz)
/-- with the statics of Throwable: of a method that may throw and writes nothing -/
def cs_Bx (D : va_G) (tys : List (ClassId × FieldType)) (ws : va_W) (U : State) : Prop := cs_en U ∧ cs_zz (fun q => U.heap.size ≤ q) U U.heap ∧ va_P D vwCl ws U.heap ∧ va_K D vwCl tys U
theorem cs_Bx.blind {D : va_G} {tys : List (ClassId × FieldType)} {ws : va_W} {av : List Value} : FrameBlind (va_Pc av (cs_Bx D tys ws)) := fun a U g mk q =>
  ⟨q.1, cs_en.warm (s := U) (U := U.calling g mk a) (State.WarmedH.refl U) q.2.1, cs_zz.moved (u := U) (U := U.calling g mk a) (Vm.Alike.refl U.vm) q.2.2.1, q.2.2.2.1, va_K.moved (u := U) (U := U.calling g mk a) (Vm.Alike.refl U.vm) q.2.2.2.2⟩
theorem cs_Bx.at {D : va_G} {tys : List (ClassId × FieldType)} {ws : va_W} {av : List Value} {s : State} {H : Heap} (hE : cs_en s) (hz : cs_zz (fun q => H.size ≤ q) s H) (hP : va_P D vwCl ws H) (hK : va_K D vwCl tys s) : ∀ U : State, U.heap = H → s.WarmedH U.vm → va_Pc av (cs_Bx D tys ws) av.toArray U := fun U hU hW =>
  ⟨rfl, hE.warm hW, by rw [hU]; exact hz.moved hW.alike, by rw [hU]; exact hP, va_K.moved hW.alike hK⟩
/-- .. and of one that may throw, and writes -/
def cs_By (D : va_G) (tys : List (ClassId × FieldType)) (ws : va_W) (sz : Nat) (U : State) : Prop := U.heap.size = sz ∧ cs_en U ∧ cs_zz (va_A ws sz) U U.heap ∧ va_P D vwCl ws U.heap ∧ va_K D vwCl tys U ∧ va_D (fun _ => True) ws
theorem cs_By.blind {D : va_G} {tys : List (ClassId × FieldType)} {ws : va_W} {sz : Nat} {av : List Value} : FrameBlind (va_Pc av (cs_By D tys ws sz)) := fun a U g mk q =>
  ⟨q.1, q.2.1, cs_en.warm (s := U) (U := U.calling g mk a) (State.WarmedH.refl U) q.2.2.1, cs_zz.moved (u := U) (U := U.calling g mk a) (Vm.Alike.refl U.vm) q.2.2.2.1, q.2.2.2.2.1, va_K.moved (u := U) (U := U.calling g mk a) (Vm.Alike.refl U.vm) q.2.2.2.2.2.1, q.2.2.2.2.2.2⟩
theorem cs_By.at {D : va_G} {tys : List (ClassId × FieldType)} {ws : va_W} {av : List Value} {s : State} {H : Heap} {A : Nat → Prop} (hE : cs_en s) (hz : cs_zz (va_A ws H.size) s H) (hP : va_P D vwCl ws H) (hK : va_K D vwCl tys s) (hD : va_D A ws) : ∀ U : State, U.heap = H → s.WarmedH U.vm → va_Pc av (cs_By D tys ws H.size) av.toArray U := fun U hU hW =>
  ⟨rfl, by rw [hU], hE.warm hW, by rw [hU]; exact hz.moved hW.alike, by rw [hU]; exact hP, va_K.moved hW.alike hK, hD.weaken (fun _ _ _ _ => trivial)⟩
abbrev cs_Xi (l : Launch) (y : MethodName) (ws : List Cond) (rm : Room) (D : va_G) (tys : List (ClassId × FieldType)) (w : va_W) (av : List Value) (post : Int32 → Prop) (bad : String → Prop) (mc ms : Nat) : Prop := vx_Met l y ws rm (va_Pc av (cs_Bx D tys w)) (vp_Si post) (cs_XC bad) mc ms (fun _ => False)
abbrev cs_Xv (l : Launch) (y : MethodName) (ws : List Cond) (rm : Room) (D : va_G) (tys : List (ClassId × FieldType)) (w : va_W) (av : List Value) (ok : Prop) (bad : String → Prop) (mc ms : Nat) : Prop := vx_Met l y ws rm (va_Pc av (cs_Bx D tys w)) (cs_Sv ok) (cs_XC bad) mc ms (fun _ => False)
abbrev cs_Xr (l : Launch) (y : MethodName) (ws : List Cond) (rm : Room) (D : va_G) (tys : List (ClassId × FieldType)) (w : va_W) (av : List Value) (r : Nat) (ok : Prop) (bad : String → Prop) (mc ms : Nat) : Prop := vx_Met l y ws rm (va_Pc av (cs_Bx D tys w)) (cs_Sr r ok) (cs_XC bad) mc ms (fun _ => False)
abbrev cs_Xw {S : Type} (l : Launch) (y : MethodName) (ws : List Cond) (rm : Room) (D : va_G) (tys : List (ClassId × FieldType)) (w : va_W) (sz : Nat) (av : List Value) (w' : S → va_W) (post : Int32 → S → Prop) (bad : String → Prop) (mc ms : Nat) : Prop := vx_Met l y ws rm (va_Pc av (cs_By D tys w sz)) (cs_Qw D w w' post) (cs_XC bad) mc ms (va_A w sz)
/-! array rows at an index that is a number -/
section CSA
variable {p : Program} {l : Launch} {e : Env} {R : Room} {s : State} {m : MethodId} {args : Array Value} {below : List Frame} {meth : Method} {c : Code} {H : Heap} {locs : List Loc} {cells slots : Nat} {Q : State → Prop}
variable {cc : ByteArray} {pc : Nat} {ls : Array Slot} {rest : List Value} {D : va_G} {cl : List vw_C} {A : Nat → Prop} {a : Nat} {tys : List (ClassId × FieldType)} {ws : va_W} {H0 : Heap}
theorem cs_iald (hexec : p.tables.exec = Jvm.exec) (hb : c.code = cc) (hK : va_K D cl tys s) (hP : va_P D cl ws H) (q0 t0 : Nat) {cA : ClassId} {n k : Nat} {f : Nat → Int32} (ha : ws[q0]? = some (a, .inl (cA, n, .inl f))) (ht : tys[t0]? = some (cA, .int)) (hk : k < n) (hn : n ≤ 1024) (hdg : decode cc pc = .ok (.iaload, 1))
    (kk : W p l e R s m args below meth c H locs cells slots Q (F0 m (pc + 1) ls (.int (f k) :: rest))) : W p l e R s m args below meth c H locs cells slots Q (F0 m pc ls (.int (nI k) :: .ref a :: rest)) :=
  va_iald hexec hb hK hP q0 t0 ha ht (vp_in_nI hk (by omega)) hdg (by rw [nI_clamp (by omega)]; exact kk)
theorem cs_zald (hexec : p.tables.exec = Jvm.exec) (hb : c.code = cc) (hK : va_K D cl tys s) (hP : va_P D cl ws H) (q0 t0 : Nat) {cA : ClassId} {n k : Nat} {f : Nat → Int32} (ha : ws[q0]? = some (a, .inl (cA, n, .inl f))) (ht : tys[t0]? = some (cA, .boolean)) (hk : k < n) (hn : n ≤ 1024) (hdg : decode cc pc = .ok (.baload, 1))
    (kk : W p l e R s m args below meth c H locs cells slots Q (F0 m (pc + 1) ls (.int (f k) :: rest))) : W p l e R s m args below meth c H locs cells slots Q (F0 m pc ls (.int (nI k) :: .ref a :: rest)) :=
  va_zald hexec hb hK hP q0 t0 ha ht (vp_in_nI hk (by omega)) hdg (by rw [nI_clamp (by omega)]; exact kk)
theorem cs_lald (hexec : p.tables.exec = Jvm.exec) (hb : c.code = cc) (hK : va_K D cl tys s) (hP : va_P D cl ws H) (q0 t0 : Nat) {cA : ClassId} {n k : Nat} {f : Nat → Int64} (ha : ws[q0]? = some (a, .inl (cA, n, .inr (.inl f)))) (ht : tys[t0]? = some (cA, .long)) (hk : k < n) (hn : n ≤ 1024) (hdg : decode cc pc = .ok (.laload, 1))
    (kk : W p l e R s m args below meth c H locs cells slots Q (F0 m (pc + 1) ls (.long (f k) :: rest))) : W p l e R s m args below meth c H locs cells slots Q (F0 m pc ls (.int (nI k) :: .ref a :: rest)) :=
  va_lald hexec hb hK hP q0 t0 ha ht (vp_in_nI hk (by omega)) hdg (by rw [nI_clamp (by omega)]; exact kk)
theorem cs_aldq (hexec : p.tables.exec = Jvm.exec) (hb : c.code = cc) (hK : va_K D cl tys s) (hP : va_P D cl ws H) (q0 t0 : Nat) {cA : ClassId} {C : String} {n k : Nat} {f : Nat → Option Nat} (ha : ws[q0]? = some (a, .inl (cA, n, .inr (.inr (.inr (.inr f)))))) (ht : tys[t0]? = some (cA, .object C)) (hk : k < n) (hn : n ≤ 1024) (hdg : decode cc pc = .ok (.aaload, 1))
    (kk : W p l e R s m args below meth c H locs cells slots Q (F0 m (pc + 1) ls (va_rf (f k) :: rest))) : W p l e R s m args below meth c H locs cells slots Q (F0 m pc ls (.int (nI k) :: .ref a :: rest)) :=
  va_aldq hexec hb hK hP q0 t0 ha ht (vp_in_nI hk (by omega)) hdg (by rw [nI_clamp (by omega)]; exact kk)
theorem cs_aldA (hexec : p.tables.exec = Jvm.exec) (hb : c.code = cc) (hK : va_K D cl tys s) (hP : va_P D cl ws H) (q0 t0 : Nat) {cA : ClassId} {t : FieldType} {n k : Nat} {f : Nat → Option Nat} (ha : ws[q0]? = some (a, .inl (cA, n, .inr (.inr (.inr (.inr f)))))) (ht : tys[t0]? = some (cA, .array t)) (hk : k < n) (hn : n ≤ 1024) (hdg : decode cc pc = .ok (.aaload, 1))
    (kk : W p l e R s m args below meth c H locs cells slots Q (F0 m (pc + 1) ls (va_rf (f k) :: rest))) : W p l e R s m args below meth c H locs cells slots Q (F0 m pc ls (.int (nI k) :: .ref a :: rest)) := by
  have hc : (nI k).toNatClampNeg = k := nI_clamp (by omega)
  have hin : vp_in (nI k) n := vp_in_nI hk (by omega)
  exact W.aald (v := va_rf (f k)) (ty := .array t) hexec hb (hP q0 _ ha) ((hK.2 t0 _ ht).1 n (fun j => va_rf (f j))) rfl (fun q => by cases q) (by show ¬ (nI k < 0 ∨ (arrV _ _ _).slots.size ≤ _); rw [arrV_size]; exact hin) (by show (arrV _ _ _).slots[_]? = _; rw [hc, arrV_read _ _ hk]) rfl rfl hdg kk
theorem cs_iast (hexec : p.tables.exec = Jvm.exec) (hb : c.code = cc) (hK : va_K D cl tys s) (hP : va_P D cl ws H) (hD : va_D A ws) (hS : va_S A H0 H locs) (q0 t0 : Nat) {cA : ClassId} {n k : Nat} {f : Nat → Int32} (ha : ws[q0]? = some (a, .inl (cA, n, .inl f))) (ht : tys[t0]? = some (cA, .int)) {x : Int32} (hk : k < n) (hn : n ≤ 1024) (hdg : decode cc pc = .ok (.iastore, 1))
    (kk : ∀ (H1 : Heap) (locs1 : List Loc), va_P D cl (ws.set q0 (a, .inl (cA, n, .inl (upd f k x)))) H1 → va_D A (ws.set q0 (a, .inl (cA, n, .inl (upd f k x)))) → va_S A H0 H1 locs1 → W p l e R s m args below meth c H1 locs1 cells slots Q (F0 m (pc + 1) ls rest)) : W p l e R s m args below meth c H locs cells slots Q (F0 m pc ls (.int x :: .int (nI k) :: .ref a :: rest)) :=
  va_iast hexec hb hK hP hD hS q0 t0 ha ht (vp_in_nI hk (by omega)) hdg (by rw [nI_clamp (by omega)]; exact kk)
theorem cs_zast (hexec : p.tables.exec = Jvm.exec) (hb : c.code = cc) (hK : va_K D cl tys s) (hP : va_P D cl ws H) (hD : va_D A ws) (hS : va_S A H0 H locs) (q0 t0 : Nat) {cA : ClassId} {n k : Nat} {f : Nat → Int32} (ha : ws[q0]? = some (a, .inl (cA, n, .inl f))) (ht : tys[t0]? = some (cA, .boolean)) {x : Bool} (hk : k < n) (hn : n ≤ 1024) (hdg : decode cc pc = .ok (.bastore, 1))
    (kk : ∀ (H1 : Heap) (locs1 : List Loc), va_P D cl (ws.set q0 (a, .inl (cA, n, .inl (upd f k (cs_z x))))) H1 → va_D A (ws.set q0 (a, .inl (cA, n, .inl (upd f k (cs_z x))))) → va_S A H0 H1 locs1 → W p l e R s m args below meth c H1 locs1 cells slots Q (F0 m (pc + 1) ls rest)) : W p l e R s m args below meth c H locs cells slots Q (F0 m pc ls (.int (cs_z x) :: .int (nI k) :: .ref a :: rest)) :=
  va_zast hexec hb hK hP hD hS q0 t0 ha ht (vp_in_nI hk (by omega)) hdg (by rw [nI_clamp (by omega), cs_z_vn]; exact kk)
theorem cs_last (hexec : p.tables.exec = Jvm.exec) (hb : c.code = cc) (hK : va_K D cl tys s) (hP : va_P D cl ws H) (hD : va_D A ws) (hS : va_S A H0 H locs) (q0 t0 : Nat) {cA : ClassId} {n k : Nat} {f : Nat → Int64} (ha : ws[q0]? = some (a, .inl (cA, n, .inr (.inl f)))) (ht : tys[t0]? = some (cA, .long)) {x : Int64} (hk : k < n) (hn : n ≤ 1024) (hdg : decode cc pc = .ok (.lastore, 1))
    (kk : ∀ (H1 : Heap) (locs1 : List Loc), va_P D cl (ws.set q0 (a, .inl (cA, n, .inr (.inl (vp_updL f k x))))) H1 → va_D A (ws.set q0 (a, .inl (cA, n, .inr (.inl (vp_updL f k x))))) → va_S A H0 H1 locs1 → W p l e R s m args below meth c H1 locs1 cells slots Q (F0 m (pc + 1) ls rest)) : W p l e R s m args below meth c H locs cells slots Q (F0 m pc ls (.long x :: .int (nI k) :: .ref a :: rest)) :=
  va_last hexec hb hK hP hD hS q0 t0 ha ht (vp_in_nI hk (by omega)) hdg (by rw [nI_clamp (by omega)]; exact kk)
end CSA
/-! worlds side by side -/
theorem cs_off {A0 : Nat → Prop} {D : va_G} {w1 w2 : va_W} {H : Heap} (hP : va_P D vwCl (w1 ++ w2) H) (hD : va_D A0 (w1 ++ w2)) (k : Nat) (q : Nat × va_E) (h : w2[k]? = some q) : (w1 ++ w2)[w1.length + k]? = some q ∧ q.1 < H.size ∧ ¬ va_A w1 H.size q.1 := by
  have h2 : (w1 ++ w2)[w1.length + k]? = some q := by rw [List.getElem?_append_right (by omega), Nat.add_sub_cancel_left]; exact h
  have hl := (hP _ q h2).lt
  refine ⟨h2, hl, fun z => ?_⟩
  rcases z with ⟨i, e, z⟩ | z
  · have hi := (List.getElem?_eq_some_iff.mp z).1
    have h3 : (w1 ++ w2)[i]? = some (q.1, e) := by rw [List.getElem?_append_left hi]; exact z
    have := hD.1 _ _ q (q.1, e) h2 h3 rfl
    omega
  · omega
theorem cs_offR {A0 : Nat → Prop} {D : va_G} {w1 w2 : va_W} {H : Heap} (hP : va_P D vwCl (w1 ++ w2) H) (hD : va_D A0 (w1 ++ w2)) (k : Nat) (q : Nat × va_E) (h : w1[k]? = some q) : (w1 ++ w2)[k]? = some q ∧ q.1 < H.size ∧ ¬ va_A w2 H.size q.1 := by
  have hk := (List.getElem?_eq_some_iff.mp h).1
  have h2 : (w1 ++ w2)[k]? = some q := by rw [List.getElem?_append_left hk]; exact h
  have hl := (hP _ q h2).lt
  refine ⟨h2, hl, fun z => ?_⟩
  rcases z with ⟨i, e, z⟩ | z
  · have h3 : (w1 ++ w2)[w1.length + i]? = some (q.1, e) := by rw [List.getElem?_append_right (by omega), Nat.add_sub_cancel_left]; exact z
    have := hD.1 _ _ q (q.1, e) h2 h3 rfl
    omega
  · omega
theorem cs_PL {D : va_G} {w1 w2 : va_W} {H : Heap} (hP : va_P D vwCl (w1 ++ w2) H) : va_P D vwCl w1 H := fun k q h => hP k q (by rw [List.getElem?_append_left (List.getElem?_eq_some_iff.mp h).1]; exact h)
theorem cs_PR {D : va_G} {w1 w2 : va_W} {H : Heap} (hP : va_P D vwCl (w1 ++ w2) H) : va_P D vwCl w2 H := fun k q h => hP (w1.length + k) q (by rw [List.getElem?_append_right (by omega), Nat.add_sub_cancel_left]; exact h)
theorem cs_DL {A : Nat → Prop} {w1 w2 : va_W} (hD : va_D A (w1 ++ w2)) : va_D A w1 :=
  ⟨fun i j x y hx hy e => hD.1 i j x y (by rw [List.getElem?_append_left (List.getElem?_eq_some_iff.mp hx).1]; exact hx) (by rw [List.getElem?_append_left (List.getElem?_eq_some_iff.mp hy).1]; exact hy) e, fun k q h => hD.2 k q (by rw [List.getElem?_append_left (List.getElem?_eq_some_iff.mp h).1]; exact h)⟩
theorem cs_DR {A : Nat → Prop} {w1 w2 : va_W} (hD : va_D A (w1 ++ w2)) : va_D A w2 :=
  ⟨fun i j x y hx hy e => by
    have := hD.1 (w1.length + i) (w1.length + j) x y (by rw [List.getElem?_append_right (by omega), Nat.add_sub_cancel_left]; exact hx) (by rw [List.getElem?_append_right (by omega), Nat.add_sub_cancel_left]; exact hy) e
    omega, fun k q h => hD.2 (w1.length + k) q (by rw [List.getElem?_append_right (by omega), Nat.add_sub_cancel_left]; exact h)⟩
theorem cs_joinL {A0 : Nat → Prop} {D : va_G} {w1 w2 w1' : va_W} {H H1 : Heap} (hP : va_P D vwCl (w1 ++ w2) H) (hD : va_D A0 (w1 ++ w2)) (hk : ∀ q : Nat, q < H.size → ¬ va_A w1 H.size q → H1[q]? = H[q]?) (hF : ∀ q, va_A w1 H.size q → A0 q) (hP1 : va_P D vwCl w1' H1) (hD1 : va_D (va_A w1 H.size) w1') : va_P D vwCl (w1' ++ w2) H1 ∧ va_D A0 (w1' ++ w2) := by
  refine ⟨va_P.app hP1 (fun k q hq => ?_), va_D.app (hD1.weaken (fun k q _ h => hF q.1 h)) (cs_DR hD) (fun i j x y hx hy hxy => ?_)⟩
  · obtain ⟨h1, h2, h3⟩ := cs_off hP hD k q hq
    exact (hP _ q h1).kept (hk q.1 h2 h3)
  · obtain ⟨h1, h2, h3⟩ := cs_off hP hD j y hy
    exact h3 (by rw [← hxy]; exact hD1.2 i x hx)
theorem cs_joinR {A0 : Nat → Prop} {D : va_G} {w1 w2 w2' : va_W} {H H1 : Heap} (hP : va_P D vwCl (w1 ++ w2) H) (hD : va_D A0 (w1 ++ w2)) (hk : ∀ q : Nat, q < H.size → ¬ va_A w2 H.size q → H1[q]? = H[q]?) (hF : ∀ q, va_A w2 H.size q → A0 q) (hP1 : va_P D vwCl w2' H1) (hD1 : va_D (va_A w2 H.size) w2') : va_P D vwCl (w1 ++ w2') H1 ∧ va_D A0 (w1 ++ w2') := by
  refine ⟨va_P.app (fun k q hq => ?_) hP1, va_D.app (cs_DL hD) (hD1.weaken (fun k q _ h => hF q.1 h)) (fun i j x y hx hy hxy => ?_)⟩
  · obtain ⟨h1, h2, h3⟩ := cs_offR hP hD k q hq
    exact (hP _ q h1).kept (hk q.1 h2 h3)
  · obtain ⟨h1, h2, h3⟩ := cs_offR hP hD i x hx
    exact h3 (by rw [hxy]; exact hD1.2 j y hy)
theorem cs_keep {D : va_G} {w : va_W} {H H1 : Heap} (hP : va_P D vwCl w H) (h : ∀ q : Nat, q < H.size → H1[q]? = H[q]?) : va_P D vwCl w H1 := hP.kept (fun k q hq => h q.1 (hP k q hq).lt)
theorem cs_inL {A0 : Nat → Prop} {w1 w2 : va_W} {H0 H : Heap} {locs : List Loc} (hD : va_D A0 (w1 ++ w2)) (hS : va_S A0 H0 H locs) (hA : ∀ q, H0.size ≤ q → A0 q) : ∀ q, va_A w1 H.size q → A0 q := fun q h => by
  rcases h with ⟨k, e, h⟩ | h
  · exact (cs_DL hD).2 k (q, e) h
  · exact hA q (Nat.le_trans hS.1 h)
theorem cs_inR {A0 : Nat → Prop} {w1 w2 : va_W} {H0 H : Heap} {locs : List Loc} (hD : va_D A0 (w1 ++ w2)) (hS : va_S A0 H0 H locs) (hA : ∀ q, H0.size ≤ q → A0 q) : ∀ q, va_A w2 H.size q → A0 q := fun q h => by
  rcases h with ⟨k, e, h⟩ | h
  · exact (cs_DR hD).2 k (q, e) h
  · exact hA q (Nat.le_trans hS.1 h)
end
section
/-! ===== Int32 by its bits: bt x i ===== -/
def bt (x : Int32) (i : Nat) : Bool := x.toBitVec.getLsbD i
theorem b_ext {x y : Int32} (h : ∀ i, i < 32 → bt x i = bt y i) : x = y := Int32.toBitVec_inj.mp (BitVec.eq_of_getLsbD_eq (fun i hi => h i hi))
theorem b_or (x y : Int32) (i : Nat) : bt (x ||| y) i = (bt x i || bt y i) := by unfold bt; rw [Int32.toBitVec_or, BitVec.getLsbD_or]
theorem b_and (x y : Int32) (i : Nat) : bt (x &&& y) i = (bt x i && bt y i) := by unfold bt; rw [Int32.toBitVec_and, BitVec.getLsbD_and]
theorem b_xor (x y : Int32) (i : Nat) : bt (x ^^^ y) i = (bt x i ^^ bt y i) := by unfold bt; rw [Int32.toBitVec_xor, BitVec.getLsbD_xor]
theorem b_big {x : Int32} {i : Nat} (h : 32 ≤ i) : bt x i = false := BitVec.getLsbD_of_ge _ _ h
theorem b_255 (i : Nat) : bt 255 i = decide (i < 8) := by
  rcases Nat.lt_or_ge i 32 with h | h
  · exact (by decide +kernel : ∀ i, i < 32 → bt 255 i = decide (i < 8)) i h
  · rw [b_big h, decide_eq_false (by omega)]
theorem b_65535 (i : Nat) : bt 65535 i = decide (i < 16) := by
  rcases Nat.lt_or_ge i 32 with h | h
  · exact (by decide +kernel : ∀ i, i < 32 → bt 65535 i = decide (i < 16)) i h
  · rw [b_big h, decide_eq_false (by omega)]
theorem b_m1 : ∀ i, i < 32 → bt (-1) i = true := by decide +kernel
theorem b_0 (i : Nat) : bt 0 i = false := BitVec.getLsbD_zero
theorem s_l : ∀ n, n < 32 → ((nI n &&& 31).toBitVec.smod 32).toNat = n := by decide +kernel
theorem s_u : ∀ n, n < 32 → (((nI n).toUInt32 &&& Int32.toUInt32 31).toBitVec % 32).toNat = n := by decide +kernel
theorem b_shl (n : Nat) (hn : n < 32) (x : Int32) {i : Nat} (hi : i < 32) : bt (x <<< (nI n &&& 31)) i = (decide (n ≤ i) && bt x (i - n)) := by
  unfold bt
  rw [Int32.toBitVec_shiftLeft]
  show (x.toBitVec <<< ((nI n &&& 31).toBitVec.smod 32).toNat).getLsbD i = _
  rw [s_l n hn, BitVec.getLsbD_shiftLeft]
  rcases Nat.lt_or_ge i n with h | h
  · simp [h, Nat.not_le.mpr h]
  · simp [hi, h, Nat.not_lt.mpr h]
theorem b_ushr (n : Nat) (hn : n < 32) (x : Int32) (i : Nat) : bt ((x.toUInt32 >>> ((nI n).toUInt32 &&& Int32.toUInt32 31)).toInt32) i = bt x (n + i) := by
  show (x.toUInt32 >>> ((nI n).toUInt32 &&& Int32.toUInt32 31)).toBitVec.getLsbD i = x.toUInt32.toBitVec.getLsbD (n + i)
  rw [UInt32.toBitVec_shiftRight]
  show (x.toUInt32.toBitVec >>> (((nI n).toUInt32 &&& Int32.toUInt32 31).toBitVec % 32).toNat).getLsbD i = _
  rw [s_u n hn, BitVec.getLsbD_ushiftRight]
theorem b_sshr (n : Nat) (hn : n < 32) (x : Int32) {i : Nat} (hi : i < 32) : bt (x >>> (nI n &&& 31)) i = if n + i < 32 then bt x (n + i) else bt x 31 := by
  unfold bt
  rw [Int32.toBitVec_shiftRight]
  show (x.toBitVec.sshiftRight ((nI n &&& 31).toBitVec.smod 32).toNat).getLsbD i = _
  rw [s_l n hn, BitVec.getLsbD_sshiftRight, BitVec.msb_eq_getLsbD_last]
  simp [hi]
theorem b_shl8 (x : Int32) {i : Nat} (hi : i < 32) : bt (x <<< ((8 : Int32) &&& 31)) i = (decide (8 ≤ i) && bt x (i - 8)) := b_shl 8 (by omega) x hi
theorem b_shl16 (x : Int32) {i : Nat} (hi : i < 32) : bt (x <<< ((16 : Int32) &&& 31)) i = (decide (16 ≤ i) && bt x (i - 16)) := b_shl 16 (by omega) x hi
theorem b_shl24 (x : Int32) {i : Nat} (hi : i < 32) : bt (x <<< ((24 : Int32) &&& 31)) i = (decide (24 ≤ i) && bt x (i - 24)) := b_shl 24 (by omega) x hi
theorem b_sshr8 (x : Int32) {i : Nat} (hi : i < 32) : bt (x >>> ((8 : Int32) &&& 31)) i = if 8 + i < 32 then bt x (8 + i) else bt x 31 := b_sshr 8 (by omega) x hi
/-! ===== Int32 as a set of bits: test, set ===== -/
def nf_M (m : Int32) : Nat := 4294967296 - m.toBitVec.toNat
theorem nf_sh : ∀ l, l < 32 → ((1 : Int32) <<< (nI l &&& 31)).toBitVec = BitVec.twoPow 32 l := by decide +kernel
theorem nf_sl : ∀ l, l < 32 → (((nI l).toUInt32 &&& Int32.toUInt32 31).toBitVec % 32).toNat = l := by decide +kernel
theorem nf_tp : ∀ l, l < 32 → BitVec.twoPow 32 l ≠ 0#32 := by decide +kernel
theorem nf_bit (m : Int32) (l : Nat) (hl : l < 32) : ((m.toUInt32 >>> ((nI l).toUInt32 &&& Int32.toUInt32 31)).toInt32 &&& 1) = 0 ↔ (m &&& ((1 : Int32) <<< (nI l &&& 31))) = 0 := by
  have e : ((m.toUInt32 >>> ((nI l).toUInt32 &&& Int32.toUInt32 31)).toInt32).toBitVec = m.toBitVec >>> l := by
    show m.toBitVec >>> (((nI l).toUInt32 &&& Int32.toUInt32 31).toBitVec % 32) = m.toBitVec >>> l
    rw [BitVec.ushiftRight_eq', nf_sl l hl]
  rw [← Int32.toBitVec_inj, ← Int32.toBitVec_inj, Int32.toBitVec_and, Int32.toBitVec_and, nf_sh l hl, e, BitVec.and_twoPow]
  show (m.toBitVec >>> l &&& 1#32) = 0#32 ↔ _ = 0#32
  rw [BitVec.and_one_eq_setWidth_ofBool_getLsbD, BitVec.getLsbD_ushiftRight, Nat.add_zero]
  cases hb : m.toBitVec.getLsbD l
  · exact ⟨fun _ => by simp, fun _ => by decide⟩
  · exact ⟨fun z => absurd z (by decide), fun z => absurd ((if_pos rfl).symm.trans z) (nf_tp l hl)⟩
end
section
/-! the arithmetic of both sides, as functions of numbers -/
def cs_mk (w : Nat) : Int32 := nI (2 ^ w - 1)
def cs_hb (w : Nat) : Int32 := nI (2 ^ (w - 1))
def cs_ur (x y : Int32) : Int32 := (x.toUInt32 >>> (y.toUInt32 &&& Int32.toUInt32 31)).toInt32
def cs_bit (v n : Int32) : Int32 := cs_ur v n &&& 1
def cs_rem (x y : Int32) : Int32 := x - x / y * y
def cs_remL (x y : Int64) : Int64 := x - x / y * y
/-- a polynomial times x, modulo P -/
def cs_T (w : Nat) (p v : Int32) : Int32 := if v &&& cs_hb w = 0 then (v <<< ((1 : Int32) &&& 31)) &&& cs_mk w else ((v <<< ((1 : Int32) &&& 31)) &&& cs_mk w) ^^^ p
theorem cs_T_lo {w : Nat} {p v : Int32} (h : v &&& cs_hb w = 0) : cs_T w p v = (v <<< ((1 : Int32) &&& 31)) &&& cs_mk w := if_pos h
theorem cs_T_hi {w : Nat} {p v : Int32} (h : ¬ v &&& cs_hb w = 0) : cs_T w p v = ((v <<< ((1 : Int32) &&& 31)) &&& cs_mk w) ^^^ p := if_neg h
/-- the product, the bits of b from bit n - 1 on -/
def cs_pd (w : Nat) (p a b : Int32) : Nat → Int32 → Int32
  | 0, r => r
  | n + 1, r => cs_pd w p a b n (if cs_bit b (nI n) = 1 then cs_T w p r ^^^ a else cs_T w p r)
theorem cs_pd_1 {w : Nat} {p a b : Int32} {n : Nat} {r : Int32} (h : cs_bit b (nI n) = 1) : cs_pd w p a b (n + 1) r = cs_pd w p a b n (cs_T w p r ^^^ a) := by rw [cs_pd, if_pos h]
theorem cs_pd_0 {w : Nat} {p a b : Int32} {n : Nat} {r : Int32} (h : ¬ cs_bit b (nI n) = 1) : cs_pd w p a b (n + 1) r = cs_pd w p a b n (cs_T w p r) := by rw [cs_pd, if_neg h]
def cs_mul (w : Nat) (p a b : Int32) (n : Nat) : Int32 := cs_pd w p a b n 0
def cs_lb (x : Int64) (n : Int32) : Int64 := (x.toUInt64 >>> (n.toInt64.toUInt64 &&& Int64.toUInt64 63)).toInt64 &&& 1
/-- the power of x, the bits of the exponent from bit n - 1 on -/
def cs_pq (w : Nat) (p : Int32) (x : Int64) : Nat → Int32 → Int32
  | 0, r => r
  | n + 1, r => cs_pq w p x n (if cs_lb x (nI n) = 1 then cs_T w p (cs_mul w p r r w) else cs_mul w p r r w)
theorem cs_pq_1 {w : Nat} {p : Int32} {x : Int64} {n : Nat} {r : Int32} (h : cs_lb x (nI n) = 1) : cs_pq w p x (n + 1) r = cs_pq w p x n (cs_T w p (cs_mul w p r r w)) := by rw [cs_pq, if_pos h]
theorem cs_pq_0 {w : Nat} {p : Int32} {x : Int64} {n : Nat} {r : Int32} (h : ¬ cs_lb x (nI n) = 1) : cs_pq w p x (n + 1) r = cs_pq w p x n (cs_mul w p r r w) := by rw [cs_pq, if_neg h]
def cs_pow (w : Nat) (p : Int32) (x : Int64) : Int32 := cs_pq w p x 63 1
/-- the first n bits of v, reversed -/
def cs_rv (v : Int32) : Nat → Int32
  | 0 => 0
  | k + 1 => (cs_rv v k <<< ((1 : Int32) &&& 31)) ||| cs_bit v (nI k)
/-- the same, each bit put at its place -/
def cs_rw (v b : Int32) : Nat → Int32
  | 0 => 0
  | k + 1 => cs_rw v b k ||| (cs_bit v (nI k) <<< ((b - 1 - nI k) &&& 31))
def cs_tb (w : Nat) (p r x : Int32) : Int32 := cs_T w p (r ^^^ (x <<< ((nI w - 1) &&& 31)))
/-- the register takes the bits of o from bit n - 1 on -/
def cs_ty (w : Nat) (p o : Int32) : Nat → Int32 → Int32
  | 0, r => r
  | n + 1, r => cs_ty w p o n (cs_tb w p r (cs_bit o (nI n)))
def cs_od (ri : Bool) (v : Int32) : Int32 := if ri = true then cs_rv v 8 else v
def cs_tk (w : Nat) (p : Int32) (ri : Bool) (r v : Int32) : Int32 := cs_ty w p (cs_od ri v) 8 r
def cs_dv (w : Nat) (p v : Int32) : Nat → Int32 → Int32
  | 0, r => r
  | n + 1, r => cs_dv w p v n (cs_T w p r ^^^ cs_bit v (nI n))
def cs_so (ro : Bool) (w : Nat) (v : Int32) : Int32 := if ro = true then cs_rv v w else v
/-- the register behind k bytes of a part -/
def cs_ps (w : Nat) (p : Int32) (ri : Bool) (i : Int32) (f : Nat → Nat) (a : Nat) : Nat → Int32
  | 0 => i
  | k + 1 => cs_tk w p ri (cs_ps w p ri i f a k) (nI (f (a + k)))
/-- the remainder of n bytes -/
def cs_rs (w : Nat) (p : Int32) (f : Nat → Nat) : Nat → Int32
  | 0 => 0
  | n + 1 => cs_dv w p (nI (f n)) 8 (cs_rs w p f n)
/-- the same, of k bits -/
def cs_rm (w : Nat) (p : Int32) (f : Nat → Nat) : Nat → Int32
  | 0 => 0
  | k + 1 => cs_T w p (cs_rm w p f k) ^^^ ((nI (f (k / 8)) >>> ((7 - nI (k % 8)) &&& 31)) &&& 1)
/-- the period, from exponent k on -/
def cs_pe (w : Nat) (p : Int32) : Nat → Nat → Int32 → Int32
  | 0, _, _ => -1
  | n + 1, k, v => if cs_T w p v = 1 then nI k else cs_pe w p n (k + 1) (cs_T w p v)
/-- the wrong bit, n bits left -/
def cs_wb (w : Nat) (p d : Int32) : Nat → Int32 → Int32 → Int32
  | 0, f, _ => f
  | n + 1, f, t => cs_wb w p d n (if t = d then nI n else f) (cs_T w p t)
/-- the two numbers of a running sum over n bytes -/
def cs_ra (base a0 : Int32) (f : Nat → Nat) : Nat → Int32 × Int32
  | 0 => (a0, 0)
  | n + 1 => (cs_rem ((cs_ra base a0 f n).1 + nI (f n)) base, cs_rem ((cs_ra base a0 f n).2 + cs_rem ((cs_ra base a0 f n).1 + nI (f n)) base) base)
/-- a long modulo m, from 0 on -/
def cs_fm (x m : Int64) : Int64 := if cs_remL x m < 0 then cs_remL x m + m else cs_remL x m
def cs_ad (a b : Int64) : Int32 := 65536 * (cs_fm b 65521).toInt32 + (cs_fm a 65521).toInt32
def cs_in (v lo hi : Int32) : Bool := decide (lo ≤ v) && decide (v ≤ hi)
def cs_nb (v w : Int32) : Bool := decide (w = 32) || decide (cs_ur v w = 0)
theorem cs_dec (x : Int32) : x + Int32.ofInt (-1) = x - 1 := by rw [Int32.sub_eq_add_neg]; rfl
theorem cs_inc1 (i : Nat) : nI i + Int32.ofInt 1 = nI (i + 1) := nI_1 i
theorem cs_inc7 (i : Nat) : nI i + Int32.ofInt 7 = nI (i + 7) := nI_add i 7
theorem cs_m1 : nI 0 - 1 < 0 := by decide
theorem cs_mkI : ∀ w, w ≤ 32 → 1 ≤ w → cs_ur (-1) (32 - nI w) = cs_mk w := by decide +kernel
theorem cs_hbI : ∀ w, w ≤ 32 → 1 ≤ w → (1 : Int32) <<< ((nI w - 1) &&& 31) = cs_hb w := by decide +kernel
/-- the fields of a model object -/
abbrev cs_F (wd : Nat) (po ini : Int32) (ri ro : Bool) (xo : Int32) : List Value := [.int (nI wd), .int po, .int ini, .int (cs_z ri), .int (cs_z ro), .int xo, .int (cs_mk wd), .int (cs_hb wd)]
end
section
/-! the state of a laboratory: number of models, width, polynomial, first register, last, reflections; lengths of the rows, their bytes -/
abbrev cs_St : Type := Nat × (Nat → Nat) × (Nat → Int32) × (Nat → Int32) × (Nat → Int32) × (Nat → Bool) × (Nat → Bool) × (Nat → Nat) × (Nat → Nat → Nat)
def cs_n (S : cs_St) : Nat := S.1
def cs_w (S : cs_St) : Nat → Nat := S.2.1
def cs_p (S : cs_St) : Nat → Int32 := S.2.2.1
def cs_i (S : cs_St) : Nat → Int32 := S.2.2.2.1
def cs_x (S : cs_St) : Nat → Int32 := S.2.2.2.2.1
def cs_ri (S : cs_St) : Nat → Bool := S.2.2.2.2.2.1
def cs_ro (S : cs_St) : Nat → Bool := S.2.2.2.2.2.2.1
def cs_ln (S : cs_St) : Nat → Nat := S.2.2.2.2.2.2.2.1
def cs_by (S : cs_St) : Nat → Nat → Nat := S.2.2.2.2.2.2.2.2
def cs_ok (S : cs_St) : Prop := cs_n S ≤ 6 ∧ (∀ k, k < cs_n S → 1 ≤ cs_w S k ∧ cs_w S k ≤ 32) ∧ (∀ r, cs_ln S r ≤ 256) ∧ (∀ r j, cs_by S r j < 256)
/-- row r has l bytes, f its bytes -/
def cs_put (S : cs_St) (r l : Nat) (f : Nat → Nat) : cs_St := (S.1, S.2.1, S.2.2.1, S.2.2.2.1, S.2.2.2.2.1, S.2.2.2.2.2.1, S.2.2.2.2.2.2.1, va_up S.2.2.2.2.2.2.2.1 r l, va_up S.2.2.2.2.2.2.2.2 r f)
/-- one model more -/
def cs_def (S : cs_St) (wd : Nat) (po ini : Int32) (ri ro : Bool) (xo : Int32) : cs_St := (S.1 + 1, va_up S.2.1 S.1 wd, va_up S.2.2.1 S.1 po, va_up S.2.2.2.1 S.1 ini, va_up S.2.2.2.2.1 S.1 xo, va_up S.2.2.2.2.2.1 S.1 ri, va_up S.2.2.2.2.2.2.1 S.1 ro, S.2.2.2.2.2.2.2.1, S.2.2.2.2.2.2.2.2)
def cs_0 : cs_St := (0, fun _ => 0, fun _ => 0, fun _ => 0, fun _ => 0, fun _ => false, fun _ => false, fun _ => 0, fun _ _ => 0)
abbrev cs_tys (cy : Nat → ClassId) : List (ClassId × FieldType) := [(cy 0, .int), (cy 0, .int), (cy 0, .int), (cy 3, .object "ChecksumLab$Model"), (cy 4, .array .int)]
/-! the reference's world -/
def cs_R (S : cs_St) (th : Int32) (bd : Nat → Nat) (cy : Nat → ClassId) : va_W := [
  (bd 0, .inr (2, [.ref (bd 1), .ref (bd 2), .ref (bd 3), .ref (bd 4), .ref (bd 5), .ref (bd 6), .int (nI (cs_n S)), .ref (bd 7), .ref (bd 8), .int th])),
  (bd 1, .inl (cy 0, 6, .inl (fun j => nI (cs_w S j)))),
  (bd 2, .inl (cy 0, 6, .inl (fun j => cs_p S j))),
  (bd 3, .inl (cy 0, 6, .inl (fun j => cs_i S j))),
  (bd 4, .inl (cy 0, 6, .inl (fun j => cs_x S j))),
  (bd 5, .inl (cy 1, 6, .inl (fun j => cs_z (cs_ri S j)))),
  (bd 6, .inl (cy 1, 6, .inl (fun j => cs_z (cs_ro S j)))),
  (bd 7, .inl (cy 0, 1024, .inl (fun j => nI (cs_by S (j / 256) (j % 256))))),
  (bd 8, .inl (cy 0, 4, .inl (fun j => nI (cs_ln S j))))]
section CSW
variable {S : cs_St} {th : Int32} {bd : Nat → Nat} {cy : Nat → ClassId}
theorem cs_R0 : (cs_R S th bd cy)[0]? = some (bd 0, .inr (2, [.ref (bd 1), .ref (bd 2), .ref (bd 3), .ref (bd 4), .ref (bd 5), .ref (bd 6), .int (nI (cs_n S)), .ref (bd 7), .ref (bd 8), .int th])) := rfl
theorem cs_R1 : (cs_R S th bd cy)[1]? = some (bd 1, .inl (cy 0, 6, .inl (fun j => nI (cs_w S j)))) := rfl
theorem cs_R2 : (cs_R S th bd cy)[2]? = some (bd 2, .inl (cy 0, 6, .inl (fun j => cs_p S j))) := rfl
theorem cs_R3 : (cs_R S th bd cy)[3]? = some (bd 3, .inl (cy 0, 6, .inl (fun j => cs_i S j))) := rfl
theorem cs_R4 : (cs_R S th bd cy)[4]? = some (bd 4, .inl (cy 0, 6, .inl (fun j => cs_x S j))) := rfl
theorem cs_R5 : (cs_R S th bd cy)[5]? = some (bd 5, .inl (cy 1, 6, .inl (fun j => cs_z (cs_ri S j)))) := rfl
theorem cs_R6 : (cs_R S th bd cy)[6]? = some (bd 6, .inl (cy 1, 6, .inl (fun j => cs_z (cs_ro S j)))) := rfl
theorem cs_R7 : (cs_R S th bd cy)[7]? = some (bd 7, .inl (cy 0, 1024, .inl (fun j => nI (cs_by S (j / 256) (j % 256))))) := rfl
theorem cs_R8 : (cs_R S th bd cy)[8]? = some (bd 8, .inl (cy 0, 4, .inl (fun j => nI (cs_ln S j)))) := rfl
end CSW
theorem cs_256 (r j : Nat) : (256 : Int32) * nI r + nI j = nI (256 * r + j) := by
  show nI 256 * nI r + nI j = _
  rw [pk_mul, nI_add]
theorem cs_byE {S : cs_St} {r j : Nat} (hj : j < 256) : cs_by S ((256 * r + j) / 256) ((256 * r + j) % 256) = cs_by S r j := by
  rw [show (256 * r + j) / 256 = r by omega, show (256 * r + j) % 256 = j by omega]
/-! what is asked of arguments -/
theorem cs_inT {v lo hi : Int32} (h1 : lo ≤ v) (h2 : v ≤ hi) : cs_in v lo hi = true := by unfold cs_in; rw [decide_eq_true h1, decide_eq_true h2]; rfl
theorem cs_inF1 {v lo hi : Int32} (h1 : ¬ lo ≤ v) : cs_in v lo hi = false := by unfold cs_in; rw [decide_eq_false h1]; rfl
theorem cs_inF2 {v lo hi : Int32} (h2 : ¬ v ≤ hi) : cs_in v lo hi = false := by unfold cs_in; rw [decide_eq_false h2, Bool.and_false]
theorem cs_in_of {v : Int32} {n : Nat} (hn : n < 2 ^ 31) (h : cs_in v 0 (nI n) = true) : ∃ k, k ≤ n ∧ v = nI k := by
  unfold cs_in at h
  rw [Bool.and_eq_true, decide_eq_true_eq, decide_eq_true_eq] at h
  exact nI_of2 (nI_toInt hn) (fun z => by rw [Int32.lt_iff_toInt_lt] at z; have h1 := h.1; rw [Int32.le_iff_toInt_le] at h1; omega) h.2
theorem cs_row_of {v : Int32} (h : cs_in v 0 3 = true) : ∃ r, r < 4 ∧ v = nI r := by
  obtain ⟨k, h1, h2⟩ := cs_in_of (n := 3) (by omega) h
  exact ⟨k, by omega, h2⟩
theorem cs_byte_of {v : Int32} (h : cs_in v 0 255 = true) : ∃ b, b < 256 ∧ v = nI b := by
  obtain ⟨k, h1, h2⟩ := cs_in_of (n := 255) (by omega) h
  exact ⟨k, by omega, h2⟩
theorem cs_mod_of {S : cs_St} (hS : cs_ok S) {v : Int32} (h : cs_in v 0 (nI (cs_n S) - 1) = true) : ∃ k, k < cs_n S ∧ v = nI k := by
  have h6 := hS.1
  rcases Nat.eq_zero_or_pos (cs_n S) with h0 | h0
  · rw [h0] at h
    unfold cs_in at h
    rw [Bool.and_eq_true, decide_eq_true_eq, decide_eq_true_eq, Int32.le_iff_toInt_le, Int32.le_iff_toInt_le] at h
    have h2 : (nI 0 - 1).toInt = -1 := by decide
    have h3 : (0 : Int32).toInt = 0 := by decide
    omega
  · obtain ⟨n, hn⟩ : ∃ n, cs_n S = n + 1 := ⟨cs_n S - 1, by omega⟩
    rw [hn, nI_pred] at h
    obtain ⟨k, h1, h2⟩ := cs_in_of (by omega) h
    exact ⟨k, by omega, h2⟩
theorem cs_in_nI {k n : Nat} (h : k ≤ n) (hn : n < 2 ^ 31) : cs_in (nI k) 0 (nI n) = true := cs_inT (nI_pos' (by omega)) (nI_le h hn)
theorem cs_in_mod {k n : Nat} (h : k < n) (hn : n ≤ 6) : cs_in (nI k) 0 (nI n - 1) = true := by
  obtain ⟨m, rfl⟩ : ∃ m, n = m + 1 := ⟨n - 1, by omega⟩
  rw [nI_pred]
  exact cs_in_nI (by omega) (by omega)
def cs_k1 (b : Bool) : Int32 := if b = true then 0 else 1
def cs_k2 (b c : Bool) : Int32 := if b = true then (if c = true then 0 else 2) else 1
/-! the reference's own arithmetic -/
theorem cs_b1 (x : Int32) : x &&& 1 = 0 ∨ x &&& 1 = 1 := by
  have h : ∀ i, i < 32 → bt (x &&& 1) i = (decide (i = 0) && bt x 0) := fun i hi => by
    rw [b_and, (by decide +kernel : ∀ i, i < 32 → bt 1 i = decide (i = 0)) i hi]
    by_cases h0 : i = 0
    · subst h0; simp
    · simp [h0]
  cases hb : bt x 0
  · exact Or.inl (b_ext (fun i hi => by rw [h i hi, hb, b_0, Bool.and_false]))
  · exact Or.inr (b_ext (fun i hi => by rw [h i hi, hb, Bool.and_true, (by decide +kernel : ∀ i, i < 32 → bt 1 i = decide (i = 0)) i hi]))
theorem cs_hi {w : Nat} {v : Int32} (h1 : 1 ≤ w) (h2 : w ≤ 32) : cs_ur v (nI w - 1) &&& 1 = 1 ↔ ¬ v &&& cs_hb w = 0 := by
  obtain ⟨l, rfl⟩ : ∃ l, w = l + 1 := ⟨w - 1, by omega⟩
  rw [nI_pred]
  have h := nf_bit v l (by omega)
  have e : (1 : Int32) <<< (nI l &&& 31) = cs_hb (l + 1) := (by decide +kernel : ∀ l, l < 32 → (1 : Int32) <<< (nI l &&& 31) = cs_hb (l + 1)) l (by omega)
  rw [e] at h
  constructor
  · intro q z
    have := h.mpr z
    unfold cs_ur at q
    rw [q] at this
    exact absurd this (by decide)
  · intro q
    rcases cs_b1 (cs_ur v (nI l)) with z | z
    · exact absurd (h.mp z) q
    · exact z
theorem cs_mkR : ∀ w, w < 32 → 1 ≤ w → ((1 : Int32) <<< (nI w &&& 31)) - 1 = cs_mk w := by decide +kernel
theorem cs_mk32 (x : Int32) : x &&& cs_mk 32 = x := b_ext (fun i hi => by rw [b_and, show cs_mk 32 = -1 from by decide, b_m1 i hi, Bool.and_true])
theorem cs_T_r {w : Nat} {p v : Int32} (h1 : 1 ≤ w) (h2 : w ≤ 32) {t : Int32} (ht : t = (v <<< ((1 : Int32) &&& 31)) &&& cs_mk w) (b : Bool) (hb : b = true ↔ cs_ur v (nI w - 1) &&& 1 = 1) : (if b = true then t ^^^ p else t) = cs_T w p v := by
  subst ht
  by_cases h : cs_ur v (nI w - 1) &&& 1 = 1
  · rw [if_pos (hb.mpr h), cs_T_hi ((cs_hi h1 h2).mp h)]
  · rw [if_neg (fun z => h (hb.mp z)), cs_T_lo (Classical.byContradiction (fun z => h ((cs_hi h1 h2).mpr z)))]
/-! the reference's loops and questions -/
theorem cs_lb64 : ∀ n, n < 63 → (((nI n).toInt64 &&& 63).toBitVec.smod 64).toNat = n := by decide +kernel
theorem cs_ub64 : ∀ n, n < 63 → (((nI n).toInt64.toUInt64 &&& Int64.toUInt64 63).toBitVec % 64).toNat = n := by decide +kernel
theorem cs_lbR (x : Int64) (n : Nat) (hn : n < 63) : (x >>> ((nI n).toInt64 &&& 63)) &&& 1 = cs_lb x (nI n) := by
  unfold cs_lb
  apply Int64.toBitVec_inj.mp
  rw [Int64.toBitVec_and, Int64.toBitVec_and]
  apply BitVec.eq_of_getLsbD_eq
  intro i hi
  rw [BitVec.getLsbD_and, BitVec.getLsbD_and]
  by_cases h0 : i = 0
  · subst h0
    congr 1
    have e1 : (x >>> ((nI n).toInt64 &&& 63)).toBitVec.getLsbD 0 = x.toBitVec.getLsbD n := by
      rw [Int64.toBitVec_shiftRight]
      show (x.toBitVec.sshiftRight (((nI n).toInt64 &&& 63).toBitVec.smod 64).toNat).getLsbD 0 = _
      rw [cs_lb64 n hn, BitVec.getLsbD_sshiftRight]
      simp [show n < 64 by omega]
    have e2 : ((x.toUInt64 >>> ((nI n).toInt64.toUInt64 &&& Int64.toUInt64 63)).toInt64).toBitVec.getLsbD 0 = x.toBitVec.getLsbD n := by
      show (x.toUInt64 >>> ((nI n).toInt64.toUInt64 &&& Int64.toUInt64 63)).toBitVec.getLsbD 0 = x.toUInt64.toBitVec.getLsbD n
      rw [UInt64.toBitVec_shiftRight]
      show (x.toUInt64.toBitVec >>> (((nI n).toInt64.toUInt64 &&& Int64.toUInt64 63).toBitVec % 64).toNat).getLsbD 0 = _
      rw [cs_ub64 n hn, BitVec.getLsbD_ushiftRight, Nat.add_zero]
    rw [e1, e2]
  · have h1 : (1 : Int64).toBitVec.getLsbD i = false := (by decide +kernel : ∀ i, i < 64 → i ≠ 0 → (1 : Int64).toBitVec.getLsbD i = false) i hi h0
    rw [h1, Bool.and_false, Bool.and_false]
theorem cs_bt1 (v : Int32) (k : Nat) (hk : k < 32) (i : Nat) (hi : i < 32) : bt (cs_bit v (nI k)) i = (decide (i = 0) && bt v k) := by
  unfold cs_bit cs_ur
  rw [b_and, b_ushr k hk, (by decide +kernel : ∀ i, i < 32 → bt 1 i = decide (i = 0)) i hi]
  by_cases h0 : i = 0
  · subst h0; simp
  · simp [h0]
theorem cs_rv_b (v : Int32) : ∀ (k : Nat), k ≤ 32 → ∀ i, i < 32 → bt (cs_rv v k) i = (decide (i < k) && bt v (k - 1 - i))
  | 0, _, i, hi => by rw [cs_rv, b_0]; simp
  | k + 1, hk, i, hi => by
    rw [cs_rv, b_or, cs_bt1 v k (by omega) i hi]
    have e : bt (cs_rv v k <<< ((1 : Int32) &&& 31)) i = (decide (1 ≤ i) && bt (cs_rv v k) (i - 1)) := b_shl 1 (by omega) _ hi
    rw [e]
    rcases Nat.eq_zero_or_pos i with h0 | h0
    · subst h0; simp
    · rw [cs_rv_b v k (by omega) (i - 1) (by omega)]
      have h1 : ¬ i = 0 := by omega
      by_cases h2 : i < k + 1
      · simp [h1, h2, show 1 ≤ i by omega, show i - 1 < k by omega, show k - 1 - (i - 1) = k - i by omega]
      · simp [h1, h2, show ¬ i - 1 < k by omega]
theorem cs_sb : ∀ b, b ≤ 32 → ∀ k, k < b → nI b - 1 - nI k = nI (b - 1 - k) := by decide +kernel
theorem cs_rw_b (v : Int32) (b : Nat) (hb : b ≤ 32) : ∀ (k : Nat), k ≤ b → ∀ i, i < 32 → bt (cs_rw v (nI b) k) i = (decide (i < b) && decide (b - 1 - i < k) && bt v (b - 1 - i))
  | 0, _, i, hi => by rw [cs_rw, b_0]; simp
  | k + 1, hk, i, hi => by
    rw [cs_rw, b_or, cs_sb b hb k (by omega), cs_rw_b v b hb k (by omega) i hi, b_shl (b - 1 - k) (by omega) _ hi]
    by_cases h1 : b - 1 - k ≤ i
    · rw [cs_bt1 v k (by omega) _ (by omega)]
      by_cases h2 : i = b - 1 - k
      · simp [h2, show b - 1 - (b - 1 - k) = k by omega, show b - 1 - k < b by omega]
      · simp [h1, show ¬ i - (b - 1 - k) = 0 by omega]
        by_cases h3 : i < b
        · simp [h3, show b - 1 - i < k by omega, show b - 1 - i < k + 1 by omega]
        · simp [h3]
    · simp [h1, show ¬ b - 1 - i < k by omega, show ¬ b - 1 - i < k + 1 by omega]
theorem cs_rw_rv (v : Int32) (b : Nat) (hb : b ≤ 32) : cs_rw v (nI b) b = cs_rv v b := b_ext (fun i hi => by
  rw [cs_rw_b v b hb b (Nat.le_refl _) i hi, cs_rv_b v b hb i hi]
  by_cases h : i < b
  · simp [h, show b - 1 - i < b by omega]
  · simp [h])
def cs_tq (ri : Bool) (i : Nat) : Int32 := if ri = true then nI i else 7 - nI i
def cs_tz (w : Nat) (p : Int32) (ri : Bool) (v r : Int32) : Nat → Int32
  | 0 => r
  | i + 1 => cs_tb w p (cs_tz w p ri v r i) ((v >>> (cs_tq ri i &&& 31)) &&& 1)
theorem cs_tqT : ∀ b, b < 256 → ∀ i, i < 8 → (nI b >>> (nI i &&& 31)) &&& 1 = cs_bit (cs_rv (nI b) 8) (nI (7 - i)) := by decide +kernel
theorem cs_tqF : ∀ b, b < 256 → ∀ i, i < 8 → (nI b >>> ((7 - nI i) &&& 31)) &&& 1 = cs_bit (nI b) (nI (7 - i)) := by decide +kernel
theorem cs_tqE {ri : Bool} {b i : Nat} (hb : b < 256) (hi : i < 8) : (nI b >>> (cs_tq ri i &&& 31)) &&& 1 = cs_bit (cs_od ri (nI b)) (nI (7 - i)) := by
  cases ri
  · exact cs_tqF b hb i hi
  · exact cs_tqT b hb i hi
theorem cs_tz8 {w : Nat} {p : Int32} {ri : Bool} {b : Nat} {r : Int32} (hb : b < 256) : cs_tz w p ri (nI b) r 8 = cs_tk w p ri r (nI b) := by
  unfold cs_tk
  simp only [cs_tz, cs_ty, cs_tqE hb (show 0 < 8 by decide), cs_tqE hb (show 1 < 8 by decide), cs_tqE hb (show 2 < 8 by decide), cs_tqE hb (show 3 < 8 by decide), cs_tqE hb (show 4 < 8 by decide), cs_tqE hb (show 5 < 8 by decide), cs_tqE hb (show 6 < 8 by decide), cs_tqE hb (show 7 < 8 by decide)]
def cs_pl (S : cs_St) (v u : Int32) : Bool := cs_in v 0 3 && cs_in u 0 (nI (cs_ln S v.toNatClampNeg) - 1)
theorem cs_pl_r {S : cs_St} {r : Nat} {u : Int32} (hr : r < 4) : cs_pl S (nI r) u = cs_in u 0 (nI (cs_ln S r) - 1) := by
  unfold cs_pl
  rw [nI_clamp (by omega), show (3 : Int32) = nI 3 from rfl, cs_in_nI (by omega) (by omega), Bool.true_and]
def cs_fk (v : Int32) : Bool := decide (0 ≤ v) && decide (v / 256 < 255) && decide (cs_rem v 256 < 255)
def cs_ak (v : Int32) : Bool := decide (v &&& 65535 < 65521) && decide (cs_ur v 16 < 65521)
end
section
/-! what each call answers: k its exception's number, v its answer, s the state behind it -/
theorem cs_inW {A0 : Nat → Prop} {w : va_W} {H0 H : Heap} {locs : List Loc} (hD : va_D A0 w) (hS : va_S A0 H0 H locs) (hA : ∀ q, H0.size ≤ q → A0 q) : ∀ q, va_A w H.size q → A0 q := fun q h => by
  rcases h with ⟨k, e, h⟩ | h
  · exact hD.2 k (q, e) h
  · exact hA q (Nat.le_trans hS.1 h)
section CSP
variable {S : cs_St} {th : Int32} {bd : Nat → Nat} {cy : Nat → ClassId} {r l l' : Nat} {f : Nat → Nat}
theorem cs_put_ln : cs_ln (cs_put S r l f) r = l := va_up_self _ _ _
theorem cs_put_by : cs_by (cs_put S r l f) r = f := va_up_self _ _ _
theorem cs_put_lnN {k : Nat} (h : k ≠ r) : cs_ln (cs_put S r l f) k = cs_ln S k := va_up_ne _ _ h
theorem cs_put_byN {k : Nat} (h : k ≠ r) : cs_by (cs_put S r l f) k = cs_by S k := va_up_ne _ _ h
theorem cs_upup {α : Type} (g : Nat → α) (k : Nat) (x y : α) : va_up (va_up g k x) k y = va_up g k y := bx_uu g k x y
theorem cs_upid {α : Type} (g : Nat → α) (k : Nat) : va_up g k (g k) = g := funext fun j => by
  by_cases h : j = k
  · subst h; rw [va_up_self]
  · rw [va_up_ne _ _ h]
theorem cs_put_put {f' : Nat → Nat} : cs_put (cs_put S r l f) r l' f' = cs_put S r l' f' := by
  unfold cs_put
  rw [cs_upup, cs_upup]
theorem cs_put_id : cs_put S r (cs_ln S r) (cs_by S r) = S := by
  unfold cs_put cs_ln cs_by
  rw [cs_upid, cs_upid]
theorem cs_setB {j0 b : Nat} (hj : j0 < 256) : (cs_R S th bd cy).set 7 (bd 7, .inl (cy 0, 1024, .inl (upd (fun j => nI (cs_by S (j / 256) (j % 256))) (256 * r + j0) (nI b)))) = cs_R (cs_put S r (cs_ln S r) (va_up (cs_by S r) j0 b)) th bd cy := by
  have e1 : upd (fun j => nI (cs_by S (j / 256) (j % 256))) (256 * r + j0) (nI b) = fun j => nI (cs_by (cs_put S r (cs_ln S r) (va_up (cs_by S r) j0 b)) (j / 256) (j % 256)) := funext fun j => by
    by_cases h : j = 256 * r + j0
    · subst h
      rw [pk_us, show (256 * r + j0) / 256 = r by omega, show (256 * r + j0) % 256 = j0 by omega, cs_put_by, va_up_self]
    · rw [pk_un h]
      by_cases h2 : j / 256 = r
      · rw [h2, cs_put_by, va_up_ne _ _ (by omega)]
      · rw [cs_put_byN h2]
  have e2 : cs_ln (cs_put S r (cs_ln S r) (va_up (cs_by S r) j0 b)) = cs_ln S := cs_upid _ _
  rw [e1]
  unfold cs_R
  rw [e2]
  rfl
theorem cs_setL : (cs_R S th bd cy).set 8 (bd 8, .inl (cy 0, 4, .inl (upd (fun j => nI (cs_ln S j)) r (nI l)))) = cs_R (cs_put S r l (cs_by S r)) th bd cy := by
  have e1 : upd (fun j => nI (cs_ln S j)) r (nI l) = fun j => nI (cs_ln (cs_put S r l (cs_by S r)) j) := funext fun j => by
    by_cases h : j = r
    · subst h; rw [pk_us, cs_put_ln]
    · rw [pk_un h, cs_put_lnN h]
  have e2 : cs_by (cs_put S r l (cs_by S r)) = cs_by S := cs_upid _ _
  rw [e1]
  unfold cs_R
  rw [e2]
  rfl
end CSP
theorem cs_ok_put {S : cs_St} (hS : cs_ok S) {r l : Nat} {f : Nat → Nat} (hl : l ≤ 256) (hf : ∀ j, f j < 256) : cs_ok (cs_put S r l f) := by
  refine ⟨hS.1, hS.2.1, fun k => ?_, fun k j => ?_⟩
  · by_cases h : k = r
    · subst h; rw [cs_put_ln]; exact hl
    · rw [cs_put_lnN h]; exact hS.2.2.1 k
  · by_cases h : k = r
    · subst h; rw [cs_put_by]; exact hf j
    · rw [cs_put_byN h]; exact hS.2.2.2 k j
theorem cs_up_lt {f : Nat → Nat} (hf : ∀ j, f j < 256) {k b : Nat} (hb : b < 256) : ∀ j, va_up f k b j < 256 := fun j => by
  by_cases h : j = k
  · subst h; rw [va_up_self]; exact hb
  · rw [va_up_ne _ _ h]; exact hf j
def cs_c (v : Int32) : Nat := v.toNatClampNeg
theorem cs_cI {k : Nat} (h : k < 2 ^ 31) : cs_c (nI k) = k := nI_clamp h
def cs_M (S : cs_St) (m : Int32) : Bool := cs_in m 0 (nI (cs_n S) - 1)
def cs_nS (S : cs_St) (m v : Int32) : Bool := cs_nb v (nI (cs_w S (cs_c m)))
/-- define -/
def cs_bDef (a0 a1 a2 a5 : Int32) : Bool := cs_in a0 1 32 && cs_nb a1 a0 && cs_nb a2 a0 && cs_nb a5 a0
def cs_kDef (S : cs_St) (a0 a1 a2 a5 : Int32) : Int32 := cs_k2 (cs_bDef a0 a1 a2 a5) (decide (cs_n S < 6))
def cs_sDef (S : cs_St) (a0 a1 a2 : Int32) (a3 a4 : Bool) (a5 : Int32) : cs_St := if cs_kDef S a0 a1 a2 a5 = 0 then cs_def S (cs_c a0) a1 a2 a3 a4 a5 else S
/-- check -/
def cs_psS (S : cs_St) (m : Int32) (f : Nat → Nat) (a n : Nat) : Int32 := cs_so (cs_ro S (cs_c m)) (cs_w S (cs_c m)) (cs_ps (cs_w S (cs_c m)) (cs_p S (cs_c m)) (cs_ri S (cs_c m)) (cs_i S (cs_c m)) f a n) ^^^ cs_x S (cs_c m)
def cs_vChk (S : cs_St) (m : Int32) : Int32 := cs_psS S m (fun j => j) 49 9
/-- multiply -/
def cs_kMul (S : cs_St) (m a b : Int32) : Int32 := cs_k2 (cs_M S m) (cs_M S m && cs_nS S m a && cs_nS S m b)
def cs_vMul (S : cs_St) (m a b : Int32) : Int32 := cs_mul (cs_w S (cs_c m)) (cs_p S (cs_c m)) a b (cs_w S (cs_c m))
/-- power -/
def cs_kPow (S : cs_St) (m : Int32) (x : Int64) : Int32 := cs_k2 (cs_M S m) (decide (0 ≤ x))
def cs_vPow (S : cs_St) (m : Int32) (x : Int64) : Int32 := cs_pow (cs_w S (cs_c m)) (cs_p S (cs_c m)) x
/-- period -/
def cs_kPer (S : cs_St) (m a : Int32) : Int32 := cs_k2 (cs_M S m) (cs_in a 1 70000)
def cs_vPer (S : cs_St) (m a : Int32) : Int32 := cs_pe (cs_w S (cs_c m)) (cs_p S (cs_c m)) (cs_c a) 1 1
/-- append -/
def cs_kApp (S : cs_St) (r a : Int32) : Int32 := if cs_in r 0 3 = true then (if cs_in a 0 255 = true then (if cs_ln S (cs_c r) = 256 then 3 else 0) else 2) else 1
def cs_sApp (S : cs_St) (r a : Int32) : cs_St := if cs_kApp S r a = 0 then cs_put S (cs_c r) (cs_ln S (cs_c r) + 1) (va_up (cs_by S (cs_c r)) (cs_ln S (cs_c r)) (cs_c a)) else S
def cs_vApp (S : cs_St) (r : Int32) : Int32 := nI (cs_ln S (cs_c r) + 1)
/-- appendSeries -/
def cs_bSer (a b n : Int32) : Bool := cs_in a 0 255 && cs_in b 0 255 && cs_in n 1 256
def cs_kSer (S : cs_St) (r a b n : Int32) : Int32 := if cs_in r 0 3 = true then (if cs_bSer a b n = true then (if 256 < cs_ln S (cs_c r) + cs_c n then 3 else 0) else 2) else 1
/-- g put behind the first l of f, m of them -/
def cs_fil (f g : Nat → Nat) (l : Nat) : Nat → Nat → Nat
  | 0 => f
  | m + 1 => va_up (cs_fil f g l m) (l + m) (g m)
def cs_gSer (a b : Int32) (j : Nat) : Nat := (cs_c a + cs_c b * j) % 256
def cs_sSer (S : cs_St) (r a b n : Int32) : cs_St := if cs_kSer S r a b n = 0 then cs_put S (cs_c r) (cs_ln S (cs_c r) + cs_c n) (cs_fil (cs_by S (cs_c r)) (cs_gSer a b) (cs_ln S (cs_c r)) (cs_c n)) else S
def cs_vSer (S : cs_St) (r n : Int32) : Int32 := nI (cs_ln S (cs_c r) + cs_c n)
/-- appendRow -/
def cs_bRow (r q : Int32) : Bool := cs_in r 0 3 && cs_in q 0 3
def cs_kRow (S : cs_St) (r q : Int32) : Int32 := cs_k2 (cs_bRow r q) (cs_bRow r q && decide (cs_ln S (cs_c r) + cs_ln S (cs_c q) ≤ 256))
def cs_sRow (S : cs_St) (r q : Int32) : cs_St := if cs_kRow S r q = 0 then cs_put S (cs_c r) (cs_ln S (cs_c r) + cs_ln S (cs_c q)) (cs_fil (cs_by S (cs_c r)) (cs_by S (cs_c q)) (cs_ln S (cs_c r)) (cs_ln S (cs_c q))) else S
def cs_vRow (S : cs_St) (r q : Int32) : Int32 := nI (cs_ln S (cs_c r) + cs_ln S (cs_c q))
/-- setByte -/
def cs_kSet (S : cs_St) (r j a : Int32) : Int32 := cs_k2 (cs_pl S r j) (cs_in a 0 255)
def cs_sSet (S : cs_St) (r j a : Int32) : cs_St := if cs_kSet S r j a = 0 then cs_put S (cs_c r) (cs_ln S (cs_c r)) (va_up (cs_by S (cs_c r)) (cs_c j) (cs_c a)) else S
def cs_vByt (S : cs_St) (r j : Int32) : Int32 := nI (cs_by S (cs_c r) (cs_c j))
/-- truncate -/
def cs_kTru (S : cs_St) (r n : Int32) : Int32 := cs_k2 (cs_in r 0 3) (cs_in r 0 3 && cs_in n 0 (nI (cs_ln S (cs_c r))))
def cs_sTru (S : cs_St) (r n : Int32) : cs_St := if cs_kTru S r n = 0 then cs_put S (cs_c r) (cs_c n) (cs_by S (cs_c r)) else S
def cs_vTru (S : cs_St) (r n : Int32) : Int32 := nI (cs_ln S (cs_c r)) - n
/-- sum, sumOfPart, remainder -/
def cs_vSum (S : cs_St) (m r : Int32) : Int32 := cs_psS S m (cs_by S (cs_c r)) 0 (cs_ln S (cs_c r))
def cs_kPar (S : cs_St) (m r a b : Int32) : Int32 := cs_k1 (cs_M S m && cs_in r 0 3 && cs_in a 0 (nI (cs_ln S (cs_c r))) && cs_in b a (nI (cs_ln S (cs_c r))))
def cs_vPar (S : cs_St) (m r a b : Int32) : Int32 := cs_psS S m (cs_by S (cs_c r)) (cs_c a) (cs_c b - cs_c a)
def cs_vRem (S : cs_St) (m r : Int32) : Int32 := cs_rs (cs_w S (cs_c m)) (cs_p S (cs_c m)) (cs_by S (cs_c r)) (cs_ln S (cs_c r))
/-- joined, patched, wrongBit -/
def cs_kJoi (S : cs_St) (m a b n : Int32) : Int32 := cs_k2 (cs_M S m) (cs_M S m && cs_nS S m a && cs_nS S m b && decide (0 ≤ n))
def cs_reg (S : cs_St) (m a : Int32) : Int32 := cs_so (cs_ro S (cs_c m)) (cs_w S (cs_c m)) (a ^^^ cs_x S (cs_c m))
def cs_sum (S : cs_St) (m a : Int32) : Int32 := cs_so (cs_ro S (cs_c m)) (cs_w S (cs_c m)) a ^^^ cs_x S (cs_c m)
def cs_vJoi (S : cs_St) (m a b n : Int32) : Int32 := cs_sum S m (cs_reg S m b ^^^ cs_mul (cs_w S (cs_c m)) (cs_p S (cs_c m)) (cs_reg S m a ^^^ cs_i S (cs_c m)) (cs_pow (cs_w S (cs_c m)) (cs_p S (cs_c m)) (8 * n.toInt64)) (cs_w S (cs_c m)))
def cs_kPat (S : cs_St) (m a n d : Int32) : Int32 := cs_k2 (cs_M S m) (cs_M S m && cs_nS S m a && decide (0 ≤ n) && cs_in d 0 255)
def cs_vPat (S : cs_St) (m a n d : Int32) : Int32 := cs_sum S m (cs_reg S m a ^^^ cs_mul (cs_w S (cs_c m)) (cs_p S (cs_c m)) (cs_pow (cs_w S (cs_c m)) (cs_p S (cs_c m)) (8 * n.toInt64 + (nI (cs_w S (cs_c m))).toInt64)) (cs_od (cs_ri S (cs_c m)) d) 8)
def cs_kWro (S : cs_St) (m d n : Int32) : Int32 := cs_k2 (cs_M S m) (cs_M S m && cs_nS S m d && cs_in n 0 4000)
def cs_vWro (S : cs_St) (m d n : Int32) : Int32 := cs_wb (cs_w S (cs_c m)) (cs_p S (cs_c m)) (cs_so (cs_ro S (cs_c m)) (cs_w S (cs_c m)) d) (8 * cs_c n) (-1) (cs_p S (cs_c m))
/-- fletcher, adler -/
def cs_vFle (S : cs_St) (r : Int32) : Int32 := 256 * (cs_ra 255 0 (cs_by S (cs_c r)) (cs_ln S (cs_c r))).2 + (cs_ra 255 0 (cs_by S (cs_c r)) (cs_ln S (cs_c r))).1
def cs_kFlj (a b n : Int32) : Int32 := cs_k1 (cs_fk a && cs_fk b && decide (0 ≤ n))
def cs_vFlj (a b n : Int32) : Int32 := 256 * (cs_remL ((a / 256 + b / 256).toInt64 + n.toInt64 * (cs_rem a 256).toInt64) 255).toInt32 + cs_rem (cs_rem a 256 + cs_rem b 256) 255
def cs_vAdl (S : cs_St) (r : Int32) : Int32 := 65536 * (cs_ra 65521 1 (cs_by S (cs_c r)) (cs_ln S (cs_c r))).2 + (cs_ra 65521 1 (cs_by S (cs_c r)) (cs_ln S (cs_c r))).1
def cs_kAdj (a b n : Int32) : Int32 := cs_k1 (cs_ak a && cs_ak b && decide (0 ≤ n))
def cs_vAdj (a b n : Int32) : Int32 := cs_ad (((a &&& 65535) + (b &&& 65535)) - 1).toInt64 ((cs_ur a 16 + cs_ur b 16).toInt64 + n.toInt64 * ((a &&& 65535) - 1).toInt64)
def cs_kAdr (a n o i : Int32) : Int32 := cs_k1 (cs_ak a && decide (1 ≤ n) && cs_in o 0 255 && cs_in i 0 255)
def cs_vAdr (a n o i : Int32) : Int32 := cs_ad (((a &&& 65535) + i) - o).toInt64 ((((cs_ur a 16).toInt64 - n.toInt64 * o.toInt64) + (((a &&& 65535) + i) - o).toInt64) - 1)
theorem cs_k1_0 {b : Bool} : cs_k1 b = 0 ↔ b = true := by cases b <;> decide
theorem cs_k2_0 {b c : Bool} : cs_k2 b c = 0 ↔ (b && c) = true := by cases b <;> cases c <;> decide
theorem cs_and {b c : Bool} (h : (b && c) = true) : b = true ∧ c = true := by cases b <;> cases c <;> first | exact ⟨rfl, rfl⟩ | (exact absurd h (by decide))
theorem cs_in1_of {v : Int32} {n : Nat} (hn : n < 2 ^ 31) (h : cs_in v 1 (nI n) = true) : ∃ k, 1 ≤ k ∧ k ≤ n ∧ v = nI k := by
  have h1 := (cs_and h).1
  have h2 := (cs_and h).2
  rw [decide_eq_true_eq, Int32.le_iff_toInt_le] at h1
  have e1 : (1 : Int32).toInt = 1 := by decide
  have e0 : (0 : Int32).toInt = 0 := by decide
  have h4 : (0 : Int32) ≤ v := Int32.le_iff_toInt_le.mpr (by omega)
  obtain ⟨k, h3, rfl⟩ := cs_in_of (v := v) hn (by unfold cs_in; rw [h2, Bool.and_true]; exact decide_eq_true h4)
  rw [nI_toInt (by omega)] at h1
  exact ⟨k, by omega, h3, rfl⟩
theorem cs_serR {a b i : Nat} (ha : a < 256) (hb : b < 256) (hi : i < 256) : cs_rem (nI a + nI b * nI i) 256 = nI ((a + b * i) % 256) := by
  have h : b * i ≤ 255 * 255 := Nat.mul_le_mul (by omega) (by omega)
  rw [pk_mul, nI_add]
  exact pk_rem (by omega) (by decide) (by decide)
theorem cs_fil_lt {f g : Nat → Nat} (hf : ∀ j, f j < 256) (hg : ∀ j, g j < 256) (l : Nat) : ∀ m j, cs_fil f g l m j < 256
  | 0, j => hf j
  | m + 1, j => cs_up_lt (cs_fil_lt hf hg l m) (hg m) j
theorem cs_gSer_lt (a b : Int32) (j : Nat) : cs_gSer a b j < 256 := Nat.mod_lt _ (by decide)
theorem cs_pl_of {S : cs_St} (hS : cs_ok S) {v u : Int32} (h : cs_pl S v u = true) : ∃ r j, r < 4 ∧ j < cs_ln S r ∧ v = nI r ∧ u = nI j := by
  obtain ⟨h1, h2⟩ := cs_and h
  obtain ⟨r, hr, rfl⟩ := cs_row_of h1
  rw [nI_clamp (by omega)] at h2
  have hl := hS.2.2.1 r
  rcases Nat.eq_zero_or_pos (cs_ln S r) with h0 | h0
  · rw [h0] at h2
    obtain ⟨h3, h4⟩ := cs_and h2
    rw [decide_eq_true_eq, Int32.le_iff_toInt_le] at h3 h4
    have e2 : (nI 0 - 1).toInt = -1 := by decide
    have e3 : (0 : Int32).toInt = 0 := by decide
    omega
  · obtain ⟨n, hn⟩ : ∃ n, cs_ln S r = n + 1 := ⟨cs_ln S r - 1, by omega⟩
    rw [hn, nI_pred] at h2
    obtain ⟨j, h5, rfl⟩ := cs_in_of (by omega) h2
    exact ⟨r, j, hr, by omega, rfl, rfl⟩
theorem cs_in2_of {v : Int32} {a n : Nat} (ha : a < 2 ^ 31) (hn : n < 2 ^ 31) (h : cs_in v (nI a) (nI n) = true) : ∃ k, a ≤ k ∧ k ≤ n ∧ v = nI k := by
  have h1 := (cs_and h).1
  have h2 := (cs_and h).2
  rw [decide_eq_true_eq, Int32.le_iff_toInt_le, nI_toInt ha] at h1
  have e0 : (0 : Int32).toInt = 0 := by decide
  have h4 : (0 : Int32) ≤ v := Int32.le_iff_toInt_le.mpr (by omega)
  obtain ⟨k, h3, rfl⟩ := cs_in_of (v := v) hn (by unfold cs_in; rw [h2, Bool.and_true]; exact decide_eq_true h4)
  rw [nI_toInt (by omega)] at h1
  exact ⟨k, by omega, h3, rfl⟩
theorem cs_rmB : ∀ b, b < 256 → ∀ i, i < 8 → (nI b >>> ((7 - nI i) &&& 31)) &&& 1 = cs_bit (nI b) (nI (7 - i)) := cs_tqF
theorem cs_rm_rs {w : Nat} {p : Int32} {f : Nat → Nat} (hf : ∀ j, f j < 256) : ∀ n, cs_rm w p f (8 * n) = cs_rs w p f n
  | 0 => rfl
  | n + 1 => by
    have h : ∀ i, i < 8 → ((nI (f ((8 * n + i) / 8)) >>> ((7 - nI ((8 * n + i) % 8)) &&& 31)) &&& 1) = cs_bit (nI (f n)) (nI (7 - i)) := fun i hi => by
      rw [show (8 * n + i) / 8 = n by omega, show (8 * n + i) % 8 = i by omega]
      exact cs_rmB _ (hf n) i hi
    have h0 := h 0 (by decide)
    have h1 := h 1 (by decide)
    have h2 := h 2 (by decide)
    have h3 := h 3 (by decide)
    have h4 := h 4 (by decide)
    have h5 := h 5 (by decide)
    have h6 := h 6 (by decide)
    have h7 := h 7 (by decide)
    rw [Nat.add_zero] at h0
    rw [cs_rs, ← cs_rm_rs hf n, show 8 * (n + 1) = 8 * n + 7 + 1 from rfl]
    simp only [cs_rm, cs_dv, h0, h1, h2, h3, h4, h5, h6, h7]
theorem cs_fil_lo {f g : Nat → Nat} {l j : Nat} (h : j < l) : ∀ m, cs_fil f g l m j = f j
  | 0 => rfl
  | m + 1 => by rw [cs_fil, va_up_ne _ _ (by omega), cs_fil_lo h m]
theorem cs_rowE {S : cs_St} {r l m o i : Nat} (hi : i < cs_ln S o) (h2 : i < 256) : cs_by (cs_put S r l (cs_fil (cs_by S r) (cs_by S o) (cs_ln S r) m)) ((256 * o + i) / 256) ((256 * o + i) % 256) = cs_by S o i := by
  rw [show (256 * o + i) / 256 = o by omega, show (256 * o + i) % 256 = i by omega]
  by_cases h : o = r
  · subst h
    rw [cs_put_by, cs_fil_lo hi]
  · rw [cs_put_byN h]
theorem cs_upI {f : Nat → Int32} {k : Nat} {x : Int32} : upd f k x = va_up f k x := rfl
theorem cs_upN {f : Nat → Nat} {k b : Nat} : upd (fun j => nI (f j)) k (nI b) = fun j => nI (va_up f k b j) := funext fun j => by
  by_cases h : j = k
  · subst h; rw [pk_us, va_up_self]
  · rw [pk_un h, va_up_ne _ _ h]
theorem cs_upZ {f : Nat → Bool} {k : Nat} {b : Bool} : upd (fun j => cs_z (f j)) k (cs_z b) = fun j => cs_z (va_up f k b j) := funext fun j => by
  by_cases h : j = k
  · subst h; rw [pk_us, va_up_self]
  · rw [pk_un h, va_up_ne _ _ h]
theorem cs_defE {S : cs_St} {th : Int32} {bd : Nat → Nat} {cy : Nat → ClassId} {wd : Nat} {po ini xo : Int32} {ri ro : Bool} : ([
  (bd 0, .inr (2, [.ref (bd 1), .ref (bd 2), .ref (bd 3), .ref (bd 4), .ref (bd 5), .ref (bd 6), .int (nI (cs_n S + 1)), .ref (bd 7), .ref (bd 8), .int th])),
  (bd 1, .inl (cy 0, 6, .inl (upd (fun j => nI (cs_w S j)) (cs_n S) (nI wd)))),
  (bd 2, .inl (cy 0, 6, .inl (upd (fun j => cs_p S j) (cs_n S) po))),
  (bd 3, .inl (cy 0, 6, .inl (upd (fun j => cs_i S j) (cs_n S) ini))),
  (bd 4, .inl (cy 0, 6, .inl (upd (fun j => cs_x S j) (cs_n S) xo))),
  (bd 5, .inl (cy 1, 6, .inl (upd (fun j => cs_z (cs_ri S j)) (cs_n S) (cs_z ri)))),
  (bd 6, .inl (cy 1, 6, .inl (upd (fun j => cs_z (cs_ro S j)) (cs_n S) (cs_z ro)))),
  (bd 7, .inl (cy 0, 1024, .inl (fun j => nI (cs_by S (j / 256) (j % 256))))),
  (bd 8, .inl (cy 0, 4, .inl (fun j => nI (cs_ln S j))))] : va_W) = cs_R (cs_def S wd po ini ri ro xo) th bd cy := by
  rw [cs_upN, cs_upZ, cs_upZ, cs_upI, cs_upI, cs_upI]
  rfl
end
section
theorem dX0_init_0 : decode cX0_init 0 = .ok (.aload_n 0, 1) := by decide +kernel
theorem dX0_init_1 : decode cX0_init 1 = .ok (.invokespecial 3, 3) := by decide +kernel
theorem dX0_init_4 : decode cX0_init 4 = .ok (.aload_n 0, 1) := by decide +kernel
theorem dX0_init_5 : decode cX0_init 5 = .ok (.iload_n 1, 1) := by decide +kernel
theorem dX0_init_6 : decode cX0_init 6 = .ok (.putfield 9, 3) := by decide +kernel
theorem dX0_init_9 : decode cX0_init 9 = .ok (.aload_n 0, 1) := by decide +kernel
theorem dX0_init_10 : decode cX0_init 10 = .ok (.iload_n 2, 1) := by decide +kernel
theorem dX0_init_11 : decode cX0_init 11 = .ok (.putfield 15, 3) := by decide +kernel
theorem dX0_init_14 : decode cX0_init 14 = .ok (.aload_n 0, 1) := by decide +kernel
theorem dX0_init_15 : decode cX0_init 15 = .ok (.iload_n 3, 1) := by decide +kernel
theorem dX0_init_16 : decode cX0_init 16 = .ok (.putfield 18, 3) := by decide +kernel
theorem dX0_init_19 : decode cX0_init 19 = .ok (.aload_n 0, 1) := by decide +kernel
theorem dX0_init_20 : decode cX0_init 20 = .ok (.iload 4, 2) := by decide +kernel
theorem dX0_init_22 : decode cX0_init 22 = .ok (.putfield 21, 3) := by decide +kernel
theorem dX0_init_25 : decode cX0_init 25 = .ok (.aload_n 0, 1) := by decide +kernel
theorem dX0_init_26 : decode cX0_init 26 = .ok (.iload 5, 2) := by decide +kernel
theorem dX0_init_28 : decode cX0_init 28 = .ok (.putfield 25, 3) := by decide +kernel
theorem dX0_init_31 : decode cX0_init 31 = .ok (.aload_n 0, 1) := by decide +kernel
theorem dX0_init_32 : decode cX0_init 32 = .ok (.iload 6, 2) := by decide +kernel
theorem dX0_init_34 : decode cX0_init 34 = .ok (.putfield 28, 3) := by decide +kernel
theorem dX0_init_37 : decode cX0_init 37 = .ok (.aload_n 0, 1) := by decide +kernel
theorem dX0_init_38 : decode cX0_init 38 = .ok (.iconst (-1), 1) := by decide +kernel
theorem dX0_init_39 : decode cX0_init 39 = .ok (.bipush 32, 2) := by decide +kernel
theorem dX0_init_41 : decode cX0_init 41 = .ok (.iload_n 1, 1) := by decide +kernel
theorem dX0_init_42 : decode cX0_init 42 = .ok (.isub, 1) := by decide +kernel
theorem dX0_init_43 : decode cX0_init 43 = .ok (.iushr, 1) := by decide +kernel
theorem dX0_init_44 : decode cX0_init 44 = .ok (.putfield 31, 3) := by decide +kernel
theorem dX0_init_47 : decode cX0_init 47 = .ok (.aload_n 0, 1) := by decide +kernel
theorem dX0_init_48 : decode cX0_init 48 = .ok (.iconst 1, 1) := by decide +kernel
theorem dX0_init_49 : decode cX0_init 49 = .ok (.iload_n 1, 1) := by decide +kernel
theorem dX0_init_50 : decode cX0_init 50 = .ok (.iconst 1, 1) := by decide +kernel
theorem dX0_init_51 : decode cX0_init 51 = .ok (.isub, 1) := by decide +kernel
theorem dX0_init_52 : decode cX0_init 52 = .ok (.ishl, 1) := by decide +kernel
theorem dX0_init_53 : decode cX0_init 53 = .ok (.putfield 34, 3) := by decide +kernel
theorem dX0_init_56 : decode cX0_init 56 = .ok (.return_, 1) := by decide +kernel
theorem dX0_timesX_0 : decode cX0_timesX 0 = .ok (.iload_n 1, 1) := by decide +kernel
theorem dX0_timesX_1 : decode cX0_timesX 1 = .ok (.iconst 1, 1) := by decide +kernel
theorem dX0_timesX_2 : decode cX0_timesX 2 = .ok (.ishl, 1) := by decide +kernel
theorem dX0_timesX_3 : decode cX0_timesX 3 = .ok (.aload_n 0, 1) := by decide +kernel
theorem dX0_timesX_4 : decode cX0_timesX 4 = .ok (.getfield 31, 3) := by decide +kernel
theorem dX0_timesX_7 : decode cX0_timesX 7 = .ok (.iand, 1) := by decide +kernel
theorem dX0_timesX_8 : decode cX0_timesX 8 = .ok (.istore_n 2, 1) := by decide +kernel
theorem dX0_timesX_9 : decode cX0_timesX 9 = .ok (.iload_n 1, 1) := by decide +kernel
theorem dX0_timesX_10 : decode cX0_timesX 10 = .ok (.aload_n 0, 1) := by decide +kernel
theorem dX0_timesX_11 : decode cX0_timesX 11 = .ok (.getfield 34, 3) := by decide +kernel
theorem dX0_timesX_14 : decode cX0_timesX 14 = .ok (.iand, 1) := by decide +kernel
theorem dX0_timesX_15 : decode cX0_timesX 15 = .ok (.ifCond .eq 12, 3) := by decide +kernel
theorem dX0_timesX_18 : decode cX0_timesX 18 = .ok (.iload_n 2, 1) := by decide +kernel
theorem dX0_timesX_19 : decode cX0_timesX 19 = .ok (.aload_n 0, 1) := by decide +kernel
theorem dX0_timesX_20 : decode cX0_timesX 20 = .ok (.getfield 15, 3) := by decide +kernel
theorem dX0_timesX_23 : decode cX0_timesX 23 = .ok (.ixor, 1) := by decide +kernel
theorem dX0_timesX_24 : decode cX0_timesX 24 = .ok (.goto 4, 3) := by decide +kernel
theorem dX0_timesX_27 : decode cX0_timesX 27 = .ok (.iload_n 2, 1) := by decide +kernel
theorem dX0_timesX_28 : decode cX0_timesX 28 = .ok (.ireturn, 1) := by decide +kernel
set_option maxRecDepth 20000 in
theorem ggX0_takeBit_X0_timesX : GoodIn wsX0_takeBit wsX0_timesX := goodIn_r _ [6, 7, 8, 9, 10, 11, 12, 13, 14, 15, 16, 17] (by decide +kernel) (by decide +kernel)
set_option maxRecDepth 20000 in
theorem gX0_takeBit_X0_timesX : GoodIn wsX0_takeBit (wsV RX0 37 RX0 yX0_timesX wsX0_timesX) := goodIn_app (goodIn_of _ (by decide +kernel)) ggX0_takeBit_X0_timesX
theorem dX0_takeBit_0 : decode cX0_takeBit 0 = .ok (.aload_n 0, 1) := by decide +kernel
theorem dX0_takeBit_1 : decode cX0_takeBit 1 = .ok (.iload_n 1, 1) := by decide +kernel
theorem dX0_takeBit_2 : decode cX0_takeBit 2 = .ok (.iload_n 2, 1) := by decide +kernel
theorem dX0_takeBit_3 : decode cX0_takeBit 3 = .ok (.aload_n 0, 1) := by decide +kernel
theorem dX0_takeBit_4 : decode cX0_takeBit 4 = .ok (.getfield 9, 3) := by decide +kernel
theorem dX0_takeBit_7 : decode cX0_takeBit 7 = .ok (.iconst 1, 1) := by decide +kernel
theorem dX0_takeBit_8 : decode cX0_takeBit 8 = .ok (.isub, 1) := by decide +kernel
theorem dX0_takeBit_9 : decode cX0_takeBit 9 = .ok (.ishl, 1) := by decide +kernel
theorem dX0_takeBit_10 : decode cX0_takeBit 10 = .ok (.ixor, 1) := by decide +kernel
theorem dX0_takeBit_11 : decode cX0_takeBit 11 = .ok (.invokevirtual 37, 3) := by decide +kernel
theorem dX0_takeBit_14 : decode cX0_takeBit 14 = .ok (.ireturn, 1) := by decide +kernel
set_option maxRecDepth 20000 in
theorem ggX0_takeByte_X0_inTakenOrder : GoodIn wsX0_takeByte wsX0_inTakenOrder := goodIn_r _ [5, 6, 7, 8, 9, 22, 23, 24, 25, 26, 27, 28, 29] (by decide +kernel) (by decide +kernel)
set_option maxRecDepth 20000 in
theorem gX0_takeByte_X0_inTakenOrder : GoodIn wsX0_takeByte (wsV RX0 45 RX0 yX0_inTakenOrder wsX0_inTakenOrder) := goodIn_app (goodIn_of _ (by decide +kernel)) ggX0_takeByte_X0_inTakenOrder
set_option maxRecDepth 20000 in
theorem ggX0_takeByte_X0_takeBit : GoodIn wsX0_takeByte wsX0_takeBit := goodIn_r _ [13, 14, 15, 16, 17, 4, 18, 19, 20, 21, 22, 23, 24, 25, 26, 27, 28, 29] (by decide +kernel) (by decide +kernel)
set_option maxRecDepth 20000 in
theorem gX0_takeByte_X0_takeBit : GoodIn wsX0_takeByte (wsV RX0 48 RX0 yX0_takeBit wsX0_takeBit) := goodIn_app (goodIn_of _ (by decide +kernel)) ggX0_takeByte_X0_takeBit
theorem dX0_takeByte_0 : decode cX0_takeByte 0 = .ok (.aload_n 0, 1) := by decide +kernel
theorem dX0_takeByte_1 : decode cX0_takeByte 1 = .ok (.iload_n 2, 1) := by decide +kernel
theorem dX0_takeByte_2 : decode cX0_takeByte 2 = .ok (.invokevirtual 45, 3) := by decide +kernel
theorem dX0_takeByte_5 : decode cX0_takeByte 5 = .ok (.istore_n 3, 1) := by decide +kernel
theorem dX0_takeByte_6 : decode cX0_takeByte 6 = .ok (.iload_n 1, 1) := by decide +kernel
theorem dX0_takeByte_7 : decode cX0_takeByte 7 = .ok (.istore 4, 2) := by decide +kernel
theorem dX0_takeByte_9 : decode cX0_takeByte 9 = .ok (.bipush 7, 2) := by decide +kernel
theorem dX0_takeByte_11 : decode cX0_takeByte 11 = .ok (.istore 5, 2) := by decide +kernel
theorem dX0_takeByte_13 : decode cX0_takeByte 13 = .ok (.iload 5, 2) := by decide +kernel
theorem dX0_takeByte_15 : decode cX0_takeByte 15 = .ok (.ifCond .lt 23, 3) := by decide +kernel
theorem dX0_takeByte_18 : decode cX0_takeByte 18 = .ok (.aload_n 0, 1) := by decide +kernel
theorem dX0_takeByte_19 : decode cX0_takeByte 19 = .ok (.iload 4, 2) := by decide +kernel
theorem dX0_takeByte_21 : decode cX0_takeByte 21 = .ok (.iload_n 3, 1) := by decide +kernel
theorem dX0_takeByte_22 : decode cX0_takeByte 22 = .ok (.iload 5, 2) := by decide +kernel
theorem dX0_takeByte_24 : decode cX0_takeByte 24 = .ok (.iushr, 1) := by decide +kernel
theorem dX0_takeByte_25 : decode cX0_takeByte 25 = .ok (.iconst 1, 1) := by decide +kernel
theorem dX0_takeByte_26 : decode cX0_takeByte 26 = .ok (.iand, 1) := by decide +kernel
theorem dX0_takeByte_27 : decode cX0_takeByte 27 = .ok (.invokevirtual 48, 3) := by decide +kernel
theorem dX0_takeByte_30 : decode cX0_takeByte 30 = .ok (.istore 4, 2) := by decide +kernel
theorem dX0_takeByte_32 : decode cX0_takeByte 32 = .ok (.iinc 5 (-1), 3) := by decide +kernel
theorem dX0_takeByte_35 : decode cX0_takeByte 35 = .ok (.goto (-22), 3) := by decide +kernel
theorem dX0_takeByte_38 : decode cX0_takeByte 38 = .ok (.iload 4, 2) := by decide +kernel
theorem dX0_takeByte_40 : decode cX0_takeByte 40 = .ok (.ireturn, 1) := by decide +kernel
set_option maxRecDepth 20000 in
theorem ggX0_divideByte_X0_timesX : GoodIn wsX0_divideByte wsX0_timesX := goodIn_r _ [5, 6, 7, 8, 9, 10, 11, 12, 13, 14, 15, 16] (by decide +kernel) (by decide +kernel)
set_option maxRecDepth 20000 in
theorem gX0_divideByte_X0_timesX : GoodIn wsX0_divideByte (wsV RX0 37 RX0 yX0_timesX wsX0_timesX) := goodIn_app (goodIn_of _ (by decide +kernel)) ggX0_divideByte_X0_timesX
theorem dX0_divideByte_0 : decode cX0_divideByte 0 = .ok (.iload_n 1, 1) := by decide +kernel
theorem dX0_divideByte_1 : decode cX0_divideByte 1 = .ok (.istore_n 3, 1) := by decide +kernel
theorem dX0_divideByte_2 : decode cX0_divideByte 2 = .ok (.bipush 7, 2) := by decide +kernel
theorem dX0_divideByte_4 : decode cX0_divideByte 4 = .ok (.istore 4, 2) := by decide +kernel
theorem dX0_divideByte_6 : decode cX0_divideByte 6 = .ok (.iload 4, 2) := by decide +kernel
theorem dX0_divideByte_8 : decode cX0_divideByte 8 = .ok (.ifCond .lt 22, 3) := by decide +kernel
theorem dX0_divideByte_11 : decode cX0_divideByte 11 = .ok (.aload_n 0, 1) := by decide +kernel
theorem dX0_divideByte_12 : decode cX0_divideByte 12 = .ok (.iload_n 3, 1) := by decide +kernel
theorem dX0_divideByte_13 : decode cX0_divideByte 13 = .ok (.invokevirtual 37, 3) := by decide +kernel
theorem dX0_divideByte_16 : decode cX0_divideByte 16 = .ok (.iload_n 2, 1) := by decide +kernel
theorem dX0_divideByte_17 : decode cX0_divideByte 17 = .ok (.iload 4, 2) := by decide +kernel
theorem dX0_divideByte_19 : decode cX0_divideByte 19 = .ok (.iushr, 1) := by decide +kernel
theorem dX0_divideByte_20 : decode cX0_divideByte 20 = .ok (.iconst 1, 1) := by decide +kernel
theorem dX0_divideByte_21 : decode cX0_divideByte 21 = .ok (.iand, 1) := by decide +kernel
theorem dX0_divideByte_22 : decode cX0_divideByte 22 = .ok (.ixor, 1) := by decide +kernel
theorem dX0_divideByte_23 : decode cX0_divideByte 23 = .ok (.istore_n 3, 1) := by decide +kernel
theorem dX0_divideByte_24 : decode cX0_divideByte 24 = .ok (.iinc 4 (-1), 3) := by decide +kernel
theorem dX0_divideByte_27 : decode cX0_divideByte 27 = .ok (.goto (-21), 3) := by decide +kernel
theorem dX0_divideByte_30 : decode cX0_divideByte 30 = .ok (.iload_n 3, 1) := by decide +kernel
theorem dX0_divideByte_31 : decode cX0_divideByte 31 = .ok (.ireturn, 1) := by decide +kernel
set_option maxRecDepth 20000 in
theorem ggX0_inTakenOrder_X1_reversed : GoodIn wsX0_inTakenOrder wsX1_reversed := goodIn_r _ [4] (by decide +kernel) (by decide +kernel)
set_option maxRecDepth 20000 in
theorem gX0_inTakenOrder_X1_reversed_n51 : GoodIn wsX0_inTakenOrder (wsX1_reversed) := ggX0_inTakenOrder_X1_reversed
theorem dX0_inTakenOrder_0 : decode cX0_inTakenOrder 0 = .ok (.aload_n 0, 1) := by decide +kernel
theorem dX0_inTakenOrder_1 : decode cX0_inTakenOrder 1 = .ok (.getfield 21, 3) := by decide +kernel
theorem dX0_inTakenOrder_4 : decode cX0_inTakenOrder 4 = .ok (.ifCond .eq 12, 3) := by decide +kernel
theorem dX0_inTakenOrder_7 : decode cX0_inTakenOrder 7 = .ok (.iload_n 1, 1) := by decide +kernel
theorem dX0_inTakenOrder_8 : decode cX0_inTakenOrder 8 = .ok (.bipush 8, 2) := by decide +kernel
theorem dX0_inTakenOrder_10 : decode cX0_inTakenOrder 10 = .ok (.invokestatic 51, 3) := by decide +kernel
theorem dX0_inTakenOrder_13 : decode cX0_inTakenOrder 13 = .ok (.goto 4, 3) := by decide +kernel
theorem dX0_inTakenOrder_16 : decode cX0_inTakenOrder 16 = .ok (.iload_n 1, 1) := by decide +kernel
theorem dX0_inTakenOrder_17 : decode cX0_inTakenOrder 17 = .ok (.ireturn, 1) := by decide +kernel
set_option maxRecDepth 20000 in
theorem ggX0_inSumOrder_X1_reversed : GoodIn wsX0_inSumOrder wsX1_reversed := goodIn_r _ [5] (by decide +kernel) (by decide +kernel)
set_option maxRecDepth 20000 in
theorem gX0_inSumOrder_X1_reversed_n51 : GoodIn wsX0_inSumOrder (wsX1_reversed) := ggX0_inSumOrder_X1_reversed
theorem dX0_inSumOrder_0 : decode cX0_inSumOrder 0 = .ok (.aload_n 0, 1) := by decide +kernel
theorem dX0_inSumOrder_1 : decode cX0_inSumOrder 1 = .ok (.getfield 25, 3) := by decide +kernel
theorem dX0_inSumOrder_4 : decode cX0_inSumOrder 4 = .ok (.ifCond .eq 14, 3) := by decide +kernel
theorem dX0_inSumOrder_7 : decode cX0_inSumOrder 7 = .ok (.iload_n 1, 1) := by decide +kernel
theorem dX0_inSumOrder_8 : decode cX0_inSumOrder 8 = .ok (.aload_n 0, 1) := by decide +kernel
theorem dX0_inSumOrder_9 : decode cX0_inSumOrder 9 = .ok (.getfield 9, 3) := by decide +kernel
theorem dX0_inSumOrder_12 : decode cX0_inSumOrder 12 = .ok (.invokestatic 51, 3) := by decide +kernel
theorem dX0_inSumOrder_15 : decode cX0_inSumOrder 15 = .ok (.goto 4, 3) := by decide +kernel
theorem dX0_inSumOrder_18 : decode cX0_inSumOrder 18 = .ok (.iload_n 1, 1) := by decide +kernel
theorem dX0_inSumOrder_19 : decode cX0_inSumOrder 19 = .ok (.ireturn, 1) := by decide +kernel
set_option maxRecDepth 20000 in
theorem ggX0_sumOfRegister_X0_inSumOrder : GoodIn wsX0_sumOfRegister wsX0_inSumOrder := goodIn_r _ [6, 7, 8, 9, 10, 11, 12, 13, 14, 15, 16, 17, 18, 19] (by decide +kernel) (by decide +kernel)
set_option maxRecDepth 20000 in
theorem gX0_sumOfRegister_X0_inSumOrder : GoodIn wsX0_sumOfRegister (wsV RX0 54 RX0 yX0_inSumOrder wsX0_inSumOrder) := goodIn_app (goodIn_of _ (by decide +kernel)) ggX0_sumOfRegister_X0_inSumOrder
theorem dX0_sumOfRegister_0 : decode cX0_sumOfRegister 0 = .ok (.aload_n 0, 1) := by decide +kernel
theorem dX0_sumOfRegister_1 : decode cX0_sumOfRegister 1 = .ok (.iload_n 1, 1) := by decide +kernel
theorem dX0_sumOfRegister_2 : decode cX0_sumOfRegister 2 = .ok (.invokevirtual 54, 3) := by decide +kernel
theorem dX0_sumOfRegister_5 : decode cX0_sumOfRegister 5 = .ok (.aload_n 0, 1) := by decide +kernel
theorem dX0_sumOfRegister_6 : decode cX0_sumOfRegister 6 = .ok (.getfield 28, 3) := by decide +kernel
theorem dX0_sumOfRegister_9 : decode cX0_sumOfRegister 9 = .ok (.ixor, 1) := by decide +kernel
theorem dX0_sumOfRegister_10 : decode cX0_sumOfRegister 10 = .ok (.ireturn, 1) := by decide +kernel
end
section
theorem dX1_reversed_0 : decode cX1_reversed 0 = .ok (.iconst 0, 1) := by decide +kernel
theorem dX1_reversed_1 : decode cX1_reversed 1 = .ok (.istore_n 2, 1) := by decide +kernel
theorem dX1_reversed_2 : decode cX1_reversed 2 = .ok (.iconst 0, 1) := by decide +kernel
theorem dX1_reversed_3 : decode cX1_reversed 3 = .ok (.istore_n 3, 1) := by decide +kernel
theorem dX1_reversed_4 : decode cX1_reversed 4 = .ok (.iload_n 3, 1) := by decide +kernel
theorem dX1_reversed_5 : decode cX1_reversed 5 = .ok (.iload_n 1, 1) := by decide +kernel
theorem dX1_reversed_6 : decode cX1_reversed 6 = .ok (.if_icmp .ge 19, 3) := by decide +kernel
theorem dX1_reversed_9 : decode cX1_reversed 9 = .ok (.iload_n 2, 1) := by decide +kernel
theorem dX1_reversed_10 : decode cX1_reversed 10 = .ok (.iconst 1, 1) := by decide +kernel
theorem dX1_reversed_11 : decode cX1_reversed 11 = .ok (.ishl, 1) := by decide +kernel
theorem dX1_reversed_12 : decode cX1_reversed 12 = .ok (.iload_n 0, 1) := by decide +kernel
theorem dX1_reversed_13 : decode cX1_reversed 13 = .ok (.iload_n 3, 1) := by decide +kernel
theorem dX1_reversed_14 : decode cX1_reversed 14 = .ok (.iushr, 1) := by decide +kernel
theorem dX1_reversed_15 : decode cX1_reversed 15 = .ok (.iconst 1, 1) := by decide +kernel
theorem dX1_reversed_16 : decode cX1_reversed 16 = .ok (.iand, 1) := by decide +kernel
theorem dX1_reversed_17 : decode cX1_reversed 17 = .ok (.ior, 1) := by decide +kernel
theorem dX1_reversed_18 : decode cX1_reversed 18 = .ok (.istore_n 2, 1) := by decide +kernel
theorem dX1_reversed_19 : decode cX1_reversed 19 = .ok (.iinc 3 1, 3) := by decide +kernel
theorem dX1_reversed_22 : decode cX1_reversed 22 = .ok (.goto (-18), 3) := by decide +kernel
theorem dX1_reversed_25 : decode cX1_reversed 25 = .ok (.iload_n 2, 1) := by decide +kernel
theorem dX1_reversed_26 : decode cX1_reversed 26 = .ok (.ireturn, 1) := by decide +kernel
end
section
set_option maxHeartbeats 4000000 in
set_option maxRecDepth 100000 in
theorem k_X0_timesX (l : Launch) (D : va_G) (tys : List (ClassId × FieldType)) (a : Nat) (wd : Nat) (po ini xo : Int32) (ri ro : Bool) (v : Int32) : cs_Mi l yX0_timesX wsX0_timesX ({ frames := 0, cells := 0, slots := 0, locals := 0 }) D tys [(a, .inr (0, cs_F wd po ini ri ro xo))] [.ref a, .int v] (cs_T wd po v) := by
  refine Met.ofW (cc := cX0_timesX) (maxL := 3) (ret := (some .int)) (by decide) rfl ?_
  intro pg e s m args below meth c s₁ B hml hv
  obtain ⟨rfl, hE, hP, hK⟩ := hv
  have hx := B.exec
  have hb := B.bytes
  have hr := B.returns
  have hts := atoms_spec (ws := wsX0_timesX) B.pre
  have hown : s.vm.findClass RX0 = some m.cls := findClass_of_methodNamed B.named
  have hlocks := B.notSynchronized
  have hl := lv_entry ([.ref a, .int v]) (n := 3) (Nat.le_of_ble_eq_true rfl)
  rw [lg_entry_eq]
  generalize (lg_sl ([.ref a, .int v]) ++ List.replicate (3 - (lg_sl ([.ref a, .int v])).length) Slot.unset).toArray = ls at hl ⊢
  have hl : lv_has ls 3 [(0, .ref a), (1, .int v)] := hl
  have hinX0 : ∀ w ∈ wsX00, w ∈ wsX0_timesX := fun _ h => by unfold wsX0_timesX; exact List.mem_cons_of_mem _ (List.mem_append_right _ h)
  refine lv_iload_n hx hb dX0_timesX_0 rfl (lv_at hl 1 rfl) ?_
  refine lv_iconst (v := 1) hx hb dX0_timesX_1 (by decide) ?_
  refine lv_ishl hx hb dX0_timesX_2 ?_
  refine lv_aload_n hx hb dX0_timesX_3 rfl (lv_at hl 0 rfl) ?_
  refine va_get (D := D) (ci := 0) (v := .int (cs_mk wd)) (C := RX0) (T := TX0) (N := 8) hx hb hts hinX0 hown hK hP 0 rfl rfl 6 (by decide) (hts (.fieldLink RX0 31 "ChecksumLab$Model" "mask" "I") (by decide +kernel)) (fun _ h9 => h9) rfl dX0_timesX_4 ?_
  refine lv_iand hx hb dX0_timesX_7 ?_
  refine lv_istore_n (lv' := [(2, .int ((v <<< (1 &&& 31)) &&& (cs_mk wd))), (0, .ref a), (1, .int v)]) hx hb dX0_timesX_8 rfl hl (by decide) rfl (fun ls hl => ?_)
  refine lv_iload_n hx hb dX0_timesX_9 rfl (lv_at hl 2 rfl) ?_
  refine lv_aload_n hx hb dX0_timesX_10 rfl (lv_at hl 1 rfl) ?_
  refine va_get (D := D) (ci := 0) (v := .int (cs_hb wd)) (C := RX0) (T := TX0) (N := 8) hx hb hts hinX0 hown hK hP 0 rfl rfl 7 (by decide) (hts (.fieldLink RX0 34 "ChecksumLab$Model" "highest" "I") (by decide +kernel)) (fun _ h9 => h9) rfl dX0_timesX_11 ?_
  refine lv_iand hx hb dX0_timesX_14 ?_
  refine lv_if_eq (tgt := 27) hx hb dX0_timesX_15 (by decide) (fun c_15 => ?_) (fun c_15 => ?_)
  · refine lv_iload_n hx hb dX0_timesX_27 rfl (lv_at hl 0 rfl) ?_
    exact W.iret (v := (v <<< (1 &&& 31)) &&& (cs_mk wd)) hx hb hr (fun t ht _ => ⟨(v <<< (1 &&& 31)) &&& (cs_mk wd), rfl, (cs_T_lo c_15).symm, ht⟩) (fun q h => by cases h) dX0_timesX_28
  · refine lv_iload_n hx hb dX0_timesX_18 rfl (lv_at hl 0 rfl) ?_
    refine lv_aload_n hx hb dX0_timesX_19 rfl (lv_at hl 1 rfl) ?_
    refine va_get (D := D) (ci := 0) (v := .int po) (C := RX0) (T := TX0) (N := 8) hx hb hts hinX0 hown hK hP 0 rfl rfl 1 (by decide) (hts (.fieldLink RX0 15 "ChecksumLab$Model" "poly" "I") (by decide +kernel)) (fun _ h9 => h9) rfl dX0_timesX_20 ?_
    refine lv_ixor hx hb dX0_timesX_23 ?_
    refine lv_goto (tgt := 28) hx hb dX0_timesX_24 (by decide) ?_
    exact W.iret (v := ((v <<< (1 &&& 31)) &&& (cs_mk wd)) ^^^ po) hx hb hr (fun t ht _ => ⟨((v <<< (1 &&& 31)) &&& (cs_mk wd)) ^^^ po, rfl, (cs_T_hi c_15).symm, ht⟩) (fun q h => by cases h) dX0_timesX_28
set_option maxHeartbeats 4000000 in
set_option maxRecDepth 100000 in
theorem k_X0_takeBit (l : Launch) (D : va_G) (tys : List (ClassId × FieldType)) (a : Nat) (wd : Nat) (po ini xo : Int32) (ri ro : Bool) (v u : Int32) : cs_Mi l yX0_takeBit wsX0_takeBit ({ frames := 1, cells := 0, slots := 0, locals := 22 }) D tys [(a, .inr (0, cs_F wd po ini ri ro xo))] [.ref a, .int v, .int u] (cs_tb wd po v u) := by
  refine Met.ofW (cc := cX0_takeBit) (maxL := 3) (ret := (some .int)) (by decide) rfl ?_
  intro pg e s m args below meth c s₁ B hml hv
  obtain ⟨rfl, hE, hP, hK⟩ := hv
  have hx := B.exec
  have hb := B.bytes
  have hr := B.returns
  have hts := atoms_spec (ws := wsX0_takeBit) B.pre
  have hown : s.vm.findClass RX0 = some m.cls := findClass_of_methodNamed B.named
  have hlocks := B.notSynchronized
  have hl := lv_entry ([.ref a, .int v, .int u]) (n := 3) (Nat.le_of_ble_eq_true rfl)
  rw [lg_entry_eq]
  generalize (lg_sl ([.ref a, .int v, .int u]) ++ List.replicate (3 - (lg_sl ([.ref a, .int v, .int u])).length) Slot.unset).toArray = ls at hl ⊢
  have hl : lv_has ls 3 [(0, .ref a), (1, .int v), (2, .int u)] := hl
  have hinX0 : ∀ w ∈ wsX00, w ∈ wsX0_takeBit := fun _ h => by unfold wsX0_takeBit; exact List.mem_cons_of_mem _ (List.mem_append_right _ h)
  refine lv_aload_n hx hb dX0_takeBit_0 rfl (lv_at hl 0 rfl) ?_
  refine lv_iload_n hx hb dX0_takeBit_1 rfl (lv_at hl 1 rfl) ?_
  refine lv_iload_n hx hb dX0_takeBit_2 rfl (lv_at hl 2 rfl) ?_
  refine lv_aload_n hx hb dX0_takeBit_3 rfl (lv_at hl 0 rfl) ?_
  refine va_get (D := D) (ci := 0) (v := .int (nI wd)) (C := RX0) (T := TX0) (N := 8) hx hb hts hinX0 hown hK hP 0 rfl rfl 0 (by decide) (hts (.fieldLink RX0 9 "ChecksumLab$Model" "width" "I") (by decide +kernel)) (fun _ h9 => h9) rfl dX0_takeBit_4 ?_
  refine lv_iconst (v := 1) hx hb dX0_takeBit_7 (by decide) ?_
  refine lv_isub hx hb dX0_takeBit_8 ?_
  refine lv_ishl hx hb dX0_takeBit_9 ?_
  refine lv_ixor hx hb dX0_takeBit_10 ?_
  refine vp_callSi (W.runV (As := [.int (v ^^^ (u <<< (((nI wd) - 1) &&& 31)))]) (rest := []) ⟨hx, hb, hml, hown, hts⟩ (k_X0_timesX l D tys a wd po ini xo ri ro (v ^^^ (u <<< (((nI wd) - 1) &&& 31)))) (cwV 1 hts gX0_takeBit_X0_timesX rfl rfl rfl (by decide +kernel) ⟨Nat.le_of_ble_eq_true rfl, Nat.le_of_ble_eq_true rfl⟩) ⟨cs_B.blind, va_recv hK hP (ci := 0) (q0 := 0) rfl rfl, cs_B.at hE hP hK⟩ rfl rfl hl.1 rfl (lv_room (Nat.le_of_ble_eq_true rfl)) dX0_takeBit_11 ⟨Nat.le_of_ble_eq_true rfl, Nat.le_of_ble_eq_true rfl⟩) (fun r_11 e_11 => ?_)
  subst e_11
  exact W.iret (v := cs_T wd po (v ^^^ (u <<< (((nI wd) - 1) &&& 31)))) hx hb hr (fun t ht _ => ⟨cs_T wd po (v ^^^ (u <<< (((nI wd) - 1) &&& 31))), rfl, rfl, ht⟩) (fun q h => by cases h) dX0_takeBit_14
set_option maxHeartbeats 4000000 in
set_option maxRecDepth 100000 in
theorem k_X0_divideByte (l : Launch) (D : va_G) (tys : List (ClassId × FieldType)) (a : Nat) (wd : Nat) (po ini xo : Int32) (ri ro : Bool) (v u : Int32) : cs_Mi l yX0_divideByte wsX0_divideByte ({ frames := 1, cells := 0, slots := 0, locals := 22 }) D tys [(a, .inr (0, cs_F wd po ini ri ro xo))] [.ref a, .int v, .int u] (cs_dv wd po u 8 v) := by
  refine Met.ofW (cc := cX0_divideByte) (maxL := 5) (ret := (some .int)) (by decide) rfl ?_
  intro pg e s m args below meth c s₁ B hml hv
  obtain ⟨rfl, hE, hP, hK⟩ := hv
  have hx := B.exec
  have hb := B.bytes
  have hr := B.returns
  have hts := atoms_spec (ws := wsX0_divideByte) B.pre
  have hown : s.vm.findClass RX0 = some m.cls := findClass_of_methodNamed B.named
  have hlocks := B.notSynchronized
  have hl := lv_entry ([.ref a, .int v, .int u]) (n := 5) (Nat.le_of_ble_eq_true rfl)
  rw [lg_entry_eq]
  generalize (lg_sl ([.ref a, .int v, .int u]) ++ List.replicate (5 - (lg_sl ([.ref a, .int v, .int u])).length) Slot.unset).toArray = ls at hl ⊢
  have hl : lv_has ls 5 [(0, .ref a), (1, .int v), (2, .int u)] := hl
  have hinX0 : ∀ w ∈ wsX00, w ∈ wsX0_divideByte := fun _ h => by unfold wsX0_divideByte; exact List.mem_cons_of_mem _ (List.mem_append_right _ h)
  have loop : ∀ (n : Nat) (r : Int32) (b : Int32), b = nI n - 1 → n ≤ 8 → cs_dv wd po u 8 v = cs_dv wd po u n r → ∀ ls : Array Slot, lv_has ls 5 [(0, .ref a), (2, .int u), (3, .int r), (4, .int b)] → W pg l e (headSpec wsX0_divideByte ({ frames := 1, cells := 0, slots := 0, locals := 22 })).room s m [Value.ref a, Value.int v, Value.int u].toArray below meth c s.heap [] 0 0 (MQ below (vp_Si (fun r => r = cs_dv wd po u 8 v)) [Value.ref a, Value.int v, Value.int u].toArray s 0 0 (fun _ => False)) (F0 m 6 ls []) := by
    intro n
    induction n with
    | zero =>
      intro r b eb hn h0 ls hl
      subst eb
      refine lv_iload hx hb dX0_divideByte_6 (lv_at hl 3 rfl) ?_
      refine lv_if_lt (tgt := 30) hx hb dX0_divideByte_8 (by decide) (fun c_8 => ?_) (fun c_8 => ?_)
      · refine lv_iload_n hx hb dX0_divideByte_30 rfl (lv_at hl 2 rfl) ?_
        exact W.iret (v := r) hx hb hr (fun t ht _ => ⟨r, rfl, h0.symm, ht⟩) (fun q h => by cases h) dX0_divideByte_31
      · exact absurd cs_m1 c_8
    | succ n ih =>
      intro r b eb hn h0 ls hl
      rw [nI_pred] at eb
      subst eb
      refine lv_iload hx hb dX0_divideByte_6 (lv_at hl 3 rfl) ?_
      refine lv_if_lt (tgt := 30) hx hb dX0_divideByte_8 (by decide) (fun c_8 => ?_) (fun c_8 => ?_)
      · exact absurd c_8 (nI_pos (by omega))
      · refine lv_aload_n hx hb dX0_divideByte_11 rfl (lv_at hl 0 rfl) ?_
        refine lv_iload_n hx hb dX0_divideByte_12 rfl (lv_at hl 2 rfl) ?_
        refine vp_callSi (W.runV (As := [.int r]) (rest := []) ⟨hx, hb, hml, hown, hts⟩ (k_X0_timesX l D tys a wd po ini xo ri ro r) (cwV 1 hts gX0_divideByte_X0_timesX rfl rfl rfl (by decide +kernel) ⟨Nat.le_of_ble_eq_true rfl, Nat.le_of_ble_eq_true rfl⟩) ⟨cs_B.blind, va_recv hK hP (ci := 0) (q0 := 0) rfl rfl, cs_B.at hE hP hK⟩ rfl rfl hl.1 rfl (lv_room (Nat.le_of_ble_eq_true rfl)) dX0_divideByte_13 ⟨Nat.le_of_ble_eq_true rfl, Nat.le_of_ble_eq_true rfl⟩) (fun r_13 e_13 => ?_)
        subst e_13
        refine lv_iload_n hx hb dX0_divideByte_16 rfl (lv_at hl 1 rfl) ?_
        refine lv_iload hx hb dX0_divideByte_17 (lv_at hl 3 rfl) ?_
        refine lv_iushr (v := cs_ur u (nI n)) hx hb dX0_divideByte_19 rfl ?_
        refine lv_iconst (v := 1) hx hb dX0_divideByte_20 (by decide) ?_
        refine lv_iand hx hb dX0_divideByte_21 ?_
        refine lv_ixor hx hb dX0_divideByte_22 ?_
        refine lv_istore_n (lv' := [(3, .int ((cs_T wd po r) ^^^ ((cs_ur u (nI n)) &&& 1))), (0, .ref a), (2, .int u), (4, .int (nI n))]) hx hb dX0_divideByte_23 rfl hl (by decide) rfl (fun ls hl => ?_)
        refine lv_iinc (v := (nI n) - 1) (lv' := [(4, .int ((nI n) - 1)), (3, .int ((cs_T wd po r) ^^^ ((cs_ur u (nI n)) &&& 1))), (0, .ref a), (2, .int u)]) hx hb dX0_divideByte_24 hl (k := 3) rfl (cs_dec (nI n)) (by decide) rfl (fun ls hl => ?_)
        refine lv_goto (tgt := 6) hx hb dX0_divideByte_27 (by decide) ?_
        exact ih _ _ rfl (by omega) h0 ls (lv_sub hl [2, 3, 1, 0] rfl)
  refine lv_iload_n hx hb dX0_divideByte_0 rfl (lv_at hl 1 rfl) ?_
  refine lv_istore_n (lv' := [(3, .int v), (0, .ref a), (1, .int v), (2, .int u)]) hx hb dX0_divideByte_1 rfl hl (by decide) rfl (fun ls hl => ?_)
  refine lv_bipush (v := 7) hx hb dX0_divideByte_2 (by decide) ?_
  refine lv_istore (lv' := [(4, .int 7), (3, .int v), (0, .ref a), (1, .int v), (2, .int u)]) hx hb dX0_divideByte_4 hl (by decide) rfl (fun ls hl => ?_)
  exact loop 8 v _ (by decide) (by decide) rfl ls (lv_sub hl [2, 4, 1, 0] rfl)
set_option maxHeartbeats 4000000 in
set_option maxRecDepth 100000 in
theorem k_X1_reversed (l : Launch) (D : va_G) (tys : List (ClassId × FieldType)) (v : Int32) (b0 : Nat) (hb0 : b0 ≤ 32) : cs_Mi l yX1_reversed wsX1_reversed ({ frames := 0, cells := 0, slots := 0, locals := 0 }) D tys [] [.int v, .int (nI b0)] (cs_rv v b0) := by
  refine Met.ofW (cc := cX1_reversed) (maxL := 4) (ret := (some .int)) (by decide) rfl ?_
  intro pg e s m args below meth c s₁ B hml hv
  obtain ⟨rfl, hE, hP, hK⟩ := hv
  have hx := B.exec
  have hb := B.bytes
  have hr := B.returns
  have hts := atoms_spec (ws := wsX1_reversed) B.pre
  have hown : s.vm.findClass RX1 = some m.cls := findClass_of_methodNamed B.named
  have hlocks := B.notSynchronized
  have hl := lv_entry ([.int v, .int (nI b0)]) (n := 4) (Nat.le_of_ble_eq_true rfl)
  rw [lg_entry_eq]
  generalize (lg_sl ([.int v, .int (nI b0)]) ++ List.replicate (4 - (lg_sl ([.int v, .int (nI b0)])).length) Slot.unset).toArray = ls at hl ⊢
  have hl : lv_has ls 4 [(0, .int v), (1, .int (nI b0))] := hl
  have loop : ∀ (n i : Nat), i + n = b0 → ∀ ls : Array Slot, lv_has ls 4 [(0, .int v), (1, .int (nI b0)), (2, .int (cs_rv v i)), (3, .int (nI i))] → W pg l e (headSpec wsX1_reversed ({ frames := 0, cells := 0, slots := 0, locals := 0 })).room s m [Value.int v, Value.int (nI b0)].toArray below meth c s.heap [] 0 0 (MQ below (vp_Si (fun r => r = cs_rv v b0)) [Value.int v, Value.int (nI b0)].toArray s 0 0 (fun _ => False)) (F0 m 4 ls []) := by
    intro n
    induction n with
    | zero =>
      intro i hi ls hl
      rw [Nat.add_zero] at hi
      subst hi
      refine lv_iload_n hx hb dX1_reversed_4 rfl (lv_at hl 3 rfl) ?_
      refine lv_iload_n hx hb dX1_reversed_5 rfl (lv_at hl 1 rfl) ?_
      refine lv_icmp_ge (tgt := 25) hx hb dX1_reversed_6 (by decide) (fun c_6 => ?_) (fun c_6 => ?_)
      · refine lv_iload_n hx hb dX1_reversed_25 rfl (lv_at hl 2 rfl) ?_
        exact W.iret (v := cs_rv v i) hx hb hr (fun t ht _ => ⟨cs_rv v i, rfl, rfl, ht⟩) (fun q h => by cases h) dX1_reversed_26
      · exact absurd (nI_le (Nat.le_refl _) (by omega)) c_6
    | succ n ih =>
      intro i hi ls hl
      refine lv_iload_n hx hb dX1_reversed_4 rfl (lv_at hl 3 rfl) ?_
      refine lv_iload_n hx hb dX1_reversed_5 rfl (lv_at hl 1 rfl) ?_
      refine lv_icmp_ge (tgt := 25) hx hb dX1_reversed_6 (by decide) (fun c_6 => ?_) (fun c_6 => ?_)
      · exact absurd c_6 (nI_ge (by omega) (by omega))
      · refine lv_iload_n hx hb dX1_reversed_9 rfl (lv_at hl 2 rfl) ?_
        refine lv_iconst (v := 1) hx hb dX1_reversed_10 (by decide) ?_
        refine lv_ishl hx hb dX1_reversed_11 ?_
        refine lv_iload_n hx hb dX1_reversed_12 rfl (lv_at hl 0 rfl) ?_
        refine lv_iload_n hx hb dX1_reversed_13 rfl (lv_at hl 3 rfl) ?_
        refine lv_iushr (v := cs_ur v (nI i)) hx hb dX1_reversed_14 rfl ?_
        refine lv_iconst (v := 1) hx hb dX1_reversed_15 (by decide) ?_
        refine lv_iand hx hb dX1_reversed_16 ?_
        refine lv_ior hx hb dX1_reversed_17 ?_
        refine lv_istore_n (lv' := [(2, .int (((cs_rv v i) <<< (1 &&& 31)) ||| ((cs_ur v (nI i)) &&& 1))), (0, .int v), (1, .int (nI b0)), (3, .int (nI i))]) hx hb dX1_reversed_18 rfl hl (by decide) rfl (fun ls hl => ?_)
        refine lv_iinc (v := nI (i + 1)) (lv' := [(3, .int (nI (i + 1))), (2, .int (((cs_rv v i) <<< (1 &&& 31)) ||| ((cs_ur v (nI i)) &&& 1))), (0, .int v), (1, .int (nI b0))]) hx hb dX1_reversed_19 hl (k := 3) rfl (cs_inc1 i) (by decide) rfl (fun ls hl => ?_)
        refine lv_goto (tgt := 4) hx hb dX1_reversed_22 (by decide) ?_
        exact ih (i + 1) (by omega) ls (lv_sub hl [2, 3, 1, 0] rfl)
  refine lv_iconst (v := 0) hx hb dX1_reversed_0 (by decide) ?_
  refine lv_istore_n (lv' := [(2, .int 0), (0, .int v), (1, .int (nI b0))]) hx hb dX1_reversed_1 rfl hl (by decide) rfl (fun ls hl => ?_)
  refine lv_iconst (v := 0) hx hb dX1_reversed_2 (by decide) ?_
  refine lv_istore_n (lv' := [(3, .int 0), (2, .int 0), (0, .int v), (1, .int (nI b0))]) hx hb dX1_reversed_3 rfl hl (by decide) rfl (fun ls hl => ?_)
  exact loop b0 0 (by omega) ls (lv_sub hl [2, 3, 1, 0] rfl)
set_option maxHeartbeats 4000000 in
set_option maxRecDepth 100000 in
theorem k_X0_inTakenOrder (l : Launch) (D : va_G) (tys : List (ClassId × FieldType)) (a : Nat) (wd : Nat) (po ini xo : Int32) (ri ro : Bool) (v : Int32) : cs_Mi l yX0_inTakenOrder wsX0_inTakenOrder ({ frames := 1, cells := 0, slots := 0, locals := 23 }) D tys [(a, .inr (0, cs_F wd po ini ri ro xo))] [.ref a, .int v] (cs_od ri v) := by
  refine Met.ofW (cc := cX0_inTakenOrder) (maxL := 2) (ret := (some .int)) (by decide) rfl ?_
  intro pg e s m args below meth c s₁ B hml hv
  obtain ⟨rfl, hE, hP, hK⟩ := hv
  have hx := B.exec
  have hb := B.bytes
  have hr := B.returns
  have hts := atoms_spec (ws := wsX0_inTakenOrder) B.pre
  have hown : s.vm.findClass RX0 = some m.cls := findClass_of_methodNamed B.named
  have hlocks := B.notSynchronized
  have hl := lv_entry ([.ref a, .int v]) (n := 2) (Nat.le_of_ble_eq_true rfl)
  rw [lg_entry_eq]
  generalize (lg_sl ([.ref a, .int v]) ++ List.replicate (2 - (lg_sl ([.ref a, .int v])).length) Slot.unset).toArray = ls at hl ⊢
  have hl : lv_has ls 2 [(0, .ref a), (1, .int v)] := hl
  have hinX0 : ∀ w ∈ wsX00, w ∈ wsX0_inTakenOrder := fun _ h => by unfold wsX0_inTakenOrder; exact List.mem_cons_of_mem _ (List.mem_append_right _ h)
  refine lv_aload_n hx hb dX0_inTakenOrder_0 rfl (lv_at hl 0 rfl) ?_
  refine va_get (D := D) (ci := 0) (v := .int (cs_z ri)) (C := RX0) (T := TX0) (N := 8) hx hb hts hinX0 hown hK hP 0 rfl rfl 3 (by decide) (hts (.fieldLink RX0 21 "ChecksumLab$Model" "reflectIn" "Z") (by decide +kernel)) (fun _ h9 => h9) rfl dX0_inTakenOrder_1 ?_
  refine cs_ifeq (tgt := 16) hx hb dX0_inTakenOrder_4 (by decide) (fun c_4 => ?_) (fun c_4 => ?_)
  · refine lv_iload_n hx hb dX0_inTakenOrder_16 rfl (lv_at hl 1 rfl) ?_
    exact W.iret (v := v) hx hb hr (fun t ht _ => ⟨v, rfl, (if_neg (by rw [c_4]; decide)).symm, ht⟩) (fun q h => by cases h) dX0_inTakenOrder_17
  · refine lv_iload_n hx hb dX0_inTakenOrder_7 rfl (lv_at hl 1 rfl) ?_
    refine lv_bipush (v := 8) hx hb dX0_inTakenOrder_8 (by decide) ?_
    refine cs_top (y := nI 8) rfl ?_
    refine vp_callSi (va_Run.run (va_runSN (As := [.int v, .int (nI 8)]) (rest := []) ⟨hx, hb, hml, hown, hts⟩ (k_X1_reversed l D tys v 8 (by decide)) ⟨va_cnB 2 hts gX0_inTakenOrder_X1_reversed_n51 rfl rfl rfl hE.1 (hts (.initialized RX1) (by decide +kernel)) (by decide +kernel) ⟨Nat.le_of_ble_eq_true rfl, Nat.le_of_ble_eq_true rfl⟩, hts (.static yX1_reversed) (by decide +kernel), trivial⟩ ⟨cs_B.blind, cs_B.at hE cs_none hK⟩ rfl rfl hl.1 rfl (lv_room (Nat.le_of_ble_eq_true rfl)) dX0_inTakenOrder_10 ⟨Nat.le_of_ble_eq_true rfl, Nat.le_of_ble_eq_true rfl⟩)) (fun r_10 e_10 => ?_)
    subst e_10
    refine lv_goto (tgt := 17) hx hb dX0_inTakenOrder_13 (by decide) ?_
    exact W.iret (v := cs_rv v 8) hx hb hr (fun t ht _ => ⟨cs_rv v 8, rfl, (if_pos c_4).symm, ht⟩) (fun q h => by cases h) dX0_inTakenOrder_17
set_option maxHeartbeats 4000000 in
set_option maxRecDepth 100000 in
theorem k_X0_inSumOrder (l : Launch) (D : va_G) (tys : List (ClassId × FieldType)) (a : Nat) (wd : Nat) (po ini xo : Int32) (ri ro : Bool) (hw : wd ≤ 32) (v : Int32) : cs_Mi l yX0_inSumOrder wsX0_inSumOrder ({ frames := 1, cells := 0, slots := 0, locals := 23 }) D tys [(a, .inr (0, cs_F wd po ini ri ro xo))] [.ref a, .int v] (cs_so ro wd v) := by
  refine Met.ofW (cc := cX0_inSumOrder) (maxL := 2) (ret := (some .int)) (by decide) rfl ?_
  intro pg e s m args below meth c s₁ B hml hv
  obtain ⟨rfl, hE, hP, hK⟩ := hv
  have hx := B.exec
  have hb := B.bytes
  have hr := B.returns
  have hts := atoms_spec (ws := wsX0_inSumOrder) B.pre
  have hown : s.vm.findClass RX0 = some m.cls := findClass_of_methodNamed B.named
  have hlocks := B.notSynchronized
  have hl := lv_entry ([.ref a, .int v]) (n := 2) (Nat.le_of_ble_eq_true rfl)
  rw [lg_entry_eq]
  generalize (lg_sl ([.ref a, .int v]) ++ List.replicate (2 - (lg_sl ([.ref a, .int v])).length) Slot.unset).toArray = ls at hl ⊢
  have hl : lv_has ls 2 [(0, .ref a), (1, .int v)] := hl
  have hinX0 : ∀ w ∈ wsX00, w ∈ wsX0_inSumOrder := fun _ h => by unfold wsX0_inSumOrder; exact List.mem_cons_of_mem _ (List.mem_append_right _ h)
  refine lv_aload_n hx hb dX0_inSumOrder_0 rfl (lv_at hl 0 rfl) ?_
  refine va_get (D := D) (ci := 0) (v := .int (cs_z ro)) (C := RX0) (T := TX0) (N := 8) hx hb hts hinX0 hown hK hP 0 rfl rfl 4 (by decide) (hts (.fieldLink RX0 25 "ChecksumLab$Model" "reflectOut" "Z") (by decide +kernel)) (fun _ h9 => h9) rfl dX0_inSumOrder_1 ?_
  refine cs_ifeq (tgt := 18) hx hb dX0_inSumOrder_4 (by decide) (fun c_4 => ?_) (fun c_4 => ?_)
  · refine lv_iload_n hx hb dX0_inSumOrder_18 rfl (lv_at hl 1 rfl) ?_
    exact W.iret (v := v) hx hb hr (fun t ht _ => ⟨v, rfl, (if_neg (by rw [c_4]; decide)).symm, ht⟩) (fun q h => by cases h) dX0_inSumOrder_19
  · refine lv_iload_n hx hb dX0_inSumOrder_7 rfl (lv_at hl 1 rfl) ?_
    refine lv_aload_n hx hb dX0_inSumOrder_8 rfl (lv_at hl 0 rfl) ?_
    refine va_get (D := D) (ci := 0) (v := .int (nI wd)) (C := RX0) (T := TX0) (N := 8) hx hb hts hinX0 hown hK hP 0 rfl rfl 0 (by decide) (hts (.fieldLink RX0 9 "ChecksumLab$Model" "width" "I") (by decide +kernel)) (fun _ h9 => h9) rfl dX0_inSumOrder_9 ?_
    refine vp_callSi (va_Run.run (va_runSN (As := [.int v, .int (nI wd)]) (rest := []) ⟨hx, hb, hml, hown, hts⟩ (k_X1_reversed l D tys v wd hw) ⟨va_cnB 2 hts gX0_inSumOrder_X1_reversed_n51 rfl rfl rfl hE.1 (hts (.initialized RX1) (by decide +kernel)) (by decide +kernel) ⟨Nat.le_of_ble_eq_true rfl, Nat.le_of_ble_eq_true rfl⟩, hts (.static yX1_reversed) (by decide +kernel), trivial⟩ ⟨cs_B.blind, cs_B.at hE cs_none hK⟩ rfl rfl hl.1 rfl (lv_room (Nat.le_of_ble_eq_true rfl)) dX0_inSumOrder_12 ⟨Nat.le_of_ble_eq_true rfl, Nat.le_of_ble_eq_true rfl⟩)) (fun r_12 e_12 => ?_)
    subst e_12
    refine lv_goto (tgt := 19) hx hb dX0_inSumOrder_15 (by decide) ?_
    exact W.iret (v := cs_rv v wd) hx hb hr (fun t ht _ => ⟨cs_rv v wd, rfl, (if_pos c_4).symm, ht⟩) (fun q h => by cases h) dX0_inSumOrder_19
set_option maxHeartbeats 4000000 in
set_option maxRecDepth 100000 in
theorem k_X0_sumOfRegister (l : Launch) (D : va_G) (tys : List (ClassId × FieldType)) (a : Nat) (wd : Nat) (po ini xo : Int32) (ri ro : Bool) (hw : wd ≤ 32) (v : Int32) : cs_Mi l yX0_sumOfRegister wsX0_sumOfRegister ({ frames := 2, cells := 0, slots := 0, locals := 44 }) D tys [(a, .inr (0, cs_F wd po ini ri ro xo))] [.ref a, .int v] (cs_so ro wd v ^^^ xo) := by
  refine Met.ofW (cc := cX0_sumOfRegister) (maxL := 2) (ret := (some .int)) (by decide) rfl ?_
  intro pg e s m args below meth c s₁ B hml hv
  obtain ⟨rfl, hE, hP, hK⟩ := hv
  have hx := B.exec
  have hb := B.bytes
  have hr := B.returns
  have hts := atoms_spec (ws := wsX0_sumOfRegister) B.pre
  have hown : s.vm.findClass RX0 = some m.cls := findClass_of_methodNamed B.named
  have hlocks := B.notSynchronized
  have hl := lv_entry ([.ref a, .int v]) (n := 2) (Nat.le_of_ble_eq_true rfl)
  rw [lg_entry_eq]
  generalize (lg_sl ([.ref a, .int v]) ++ List.replicate (2 - (lg_sl ([.ref a, .int v])).length) Slot.unset).toArray = ls at hl ⊢
  have hl : lv_has ls 2 [(0, .ref a), (1, .int v)] := hl
  have hinX0 : ∀ w ∈ wsX00, w ∈ wsX0_sumOfRegister := fun _ h => by unfold wsX0_sumOfRegister; exact List.mem_cons_of_mem _ (List.mem_append_right _ h)
  refine lv_aload_n hx hb dX0_sumOfRegister_0 rfl (lv_at hl 0 rfl) ?_
  refine lv_iload_n hx hb dX0_sumOfRegister_1 rfl (lv_at hl 1 rfl) ?_
  refine vp_callSi (W.runV (As := [.int v]) (rest := []) ⟨hx, hb, hml, hown, hts⟩ (k_X0_inSumOrder l D tys a wd po ini xo ri ro hw v) (cwV 1 hts gX0_sumOfRegister_X0_inSumOrder rfl rfl rfl (by decide +kernel) ⟨Nat.le_of_ble_eq_true rfl, Nat.le_of_ble_eq_true rfl⟩) ⟨cs_B.blind, va_recv hK hP (ci := 0) (q0 := 0) rfl rfl, cs_B.at hE hP hK⟩ rfl rfl hl.1 rfl (lv_room (Nat.le_of_ble_eq_true rfl)) dX0_sumOfRegister_2 ⟨Nat.le_of_ble_eq_true rfl, Nat.le_of_ble_eq_true rfl⟩) (fun r_2 e_2 => ?_)
  subst e_2
  refine lv_aload_n hx hb dX0_sumOfRegister_5 rfl (lv_at hl 0 rfl) ?_
  refine va_get (D := D) (ci := 0) (v := .int xo) (C := RX0) (T := TX0) (N := 8) hx hb hts hinX0 hown hK hP 0 rfl rfl 5 (by decide) (hts (.fieldLink RX0 28 "ChecksumLab$Model" "xorOut" "I") (by decide +kernel)) (fun _ h9 => h9) rfl dX0_sumOfRegister_6 ?_
  refine lv_ixor hx hb dX0_sumOfRegister_9 ?_
  exact W.iret (v := (cs_so ro wd v) ^^^ xo) hx hb hr (fun t ht _ => ⟨(cs_so ro wd v) ^^^ xo, rfl, rfl, ht⟩) (fun q h => by cases h) dX0_sumOfRegister_10
set_option maxHeartbeats 4000000 in
set_option maxRecDepth 100000 in
theorem k_X0_takeByte (l : Launch) (D : va_G) (tys : List (ClassId × FieldType)) (a : Nat) (wd : Nat) (po ini xo : Int32) (ri ro : Bool) (v u : Int32) : cs_Mi l yX0_takeByte wsX0_takeByte ({ frames := 2, cells := 0, slots := 0, locals := 44 }) D tys [(a, .inr (0, cs_F wd po ini ri ro xo))] [.ref a, .int v, .int u] (cs_tk wd po ri v u) := by
  refine Met.ofW (cc := cX0_takeByte) (maxL := 6) (ret := (some .int)) (by decide) rfl ?_
  intro pg e s m args below meth c s₁ B hml hv
  obtain ⟨rfl, hE, hP, hK⟩ := hv
  have hx := B.exec
  have hb := B.bytes
  have hr := B.returns
  have hts := atoms_spec (ws := wsX0_takeByte) B.pre
  have hown : s.vm.findClass RX0 = some m.cls := findClass_of_methodNamed B.named
  have hlocks := B.notSynchronized
  have hl := lv_entry ([.ref a, .int v, .int u]) (n := 6) (Nat.le_of_ble_eq_true rfl)
  rw [lg_entry_eq]
  generalize (lg_sl ([.ref a, .int v, .int u]) ++ List.replicate (6 - (lg_sl ([.ref a, .int v, .int u])).length) Slot.unset).toArray = ls at hl ⊢
  have hl : lv_has ls 6 [(0, .ref a), (1, .int v), (2, .int u)] := hl
  have hinX0 : ∀ w ∈ wsX00, w ∈ wsX0_takeByte := fun _ h => by unfold wsX0_takeByte; exact List.mem_cons_of_mem _ (List.mem_append_right _ h)
  have loop : ∀ (n : Nat) (r : Int32) (b : Int32), b = nI n - 1 → n ≤ 8 → cs_tk wd po ri v u = cs_ty wd po (cs_od ri u) n r → ∀ ls : Array Slot, lv_has ls 6 [(0, .ref a), (3, .int (cs_od ri u)), (4, .int r), (5, .int b)] → W pg l e (headSpec wsX0_takeByte ({ frames := 2, cells := 0, slots := 0, locals := 44 })).room s m [Value.ref a, Value.int v, Value.int u].toArray below meth c s.heap [] 0 0 (MQ below (vp_Si (fun r => r = cs_tk wd po ri v u)) [Value.ref a, Value.int v, Value.int u].toArray s 0 0 (fun _ => False)) (F0 m 13 ls []) := by
    intro n
    induction n with
    | zero =>
      intro r b eb hn h0 ls hl
      subst eb
      refine lv_iload hx hb dX0_takeByte_13 (lv_at hl 3 rfl) ?_
      refine lv_if_lt (tgt := 38) hx hb dX0_takeByte_15 (by decide) (fun c_15 => ?_) (fun c_15 => ?_)
      · refine lv_iload hx hb dX0_takeByte_38 (lv_at hl 2 rfl) ?_
        exact W.iret (v := r) hx hb hr (fun t ht _ => ⟨r, rfl, h0.symm, ht⟩) (fun q h => by cases h) dX0_takeByte_40
      · exact absurd cs_m1 c_15
    | succ n ih =>
      intro r b eb hn h0 ls hl
      rw [nI_pred] at eb
      subst eb
      refine lv_iload hx hb dX0_takeByte_13 (lv_at hl 3 rfl) ?_
      refine lv_if_lt (tgt := 38) hx hb dX0_takeByte_15 (by decide) (fun c_15 => ?_) (fun c_15 => ?_)
      · exact absurd c_15 (nI_pos (by omega))
      · refine lv_aload_n hx hb dX0_takeByte_18 rfl (lv_at hl 0 rfl) ?_
        refine lv_iload hx hb dX0_takeByte_19 (lv_at hl 2 rfl) ?_
        refine lv_iload_n hx hb dX0_takeByte_21 rfl (lv_at hl 1 rfl) ?_
        refine lv_iload hx hb dX0_takeByte_22 (lv_at hl 3 rfl) ?_
        refine lv_iushr (v := cs_ur (cs_od ri u) (nI n)) hx hb dX0_takeByte_24 rfl ?_
        refine lv_iconst (v := 1) hx hb dX0_takeByte_25 (by decide) ?_
        refine lv_iand hx hb dX0_takeByte_26 ?_
        refine vp_callSi (W.runV (As := [.int r, .int ((cs_ur (cs_od ri u) (nI n)) &&& 1)]) (rest := []) ⟨hx, hb, hml, hown, hts⟩ (k_X0_takeBit l D tys a wd po ini xo ri ro r ((cs_ur (cs_od ri u) (nI n)) &&& 1)) (cwV 2 hts gX0_takeByte_X0_takeBit rfl rfl rfl (by decide +kernel) ⟨Nat.le_of_ble_eq_true rfl, Nat.le_of_ble_eq_true rfl⟩) ⟨cs_B.blind, va_recv hK hP (ci := 0) (q0 := 0) rfl rfl, cs_B.at hE hP hK⟩ rfl rfl hl.1 rfl (lv_room (Nat.le_of_ble_eq_true rfl)) dX0_takeByte_27 ⟨Nat.le_of_ble_eq_true rfl, Nat.le_of_ble_eq_true rfl⟩) (fun r_27 e_27 => ?_)
        subst e_27
        refine lv_istore (lv' := [(4, .int (cs_tb wd po r ((cs_ur (cs_od ri u) (nI n)) &&& 1))), (0, .ref a), (3, .int (cs_od ri u)), (5, .int (nI n))]) hx hb dX0_takeByte_30 hl (by decide) rfl (fun ls hl => ?_)
        refine lv_iinc (v := (nI n) - 1) (lv' := [(5, .int ((nI n) - 1)), (4, .int (cs_tb wd po r ((cs_ur (cs_od ri u) (nI n)) &&& 1))), (0, .ref a), (3, .int (cs_od ri u))]) hx hb dX0_takeByte_32 hl (k := 3) rfl (cs_dec (nI n)) (by decide) rfl (fun ls hl => ?_)
        refine lv_goto (tgt := 13) hx hb dX0_takeByte_35 (by decide) ?_
        exact ih _ _ rfl (by omega) h0 ls (lv_sub hl [2, 3, 1, 0] rfl)
  refine lv_aload_n hx hb dX0_takeByte_0 rfl (lv_at hl 0 rfl) ?_
  refine lv_iload_n hx hb dX0_takeByte_1 rfl (lv_at hl 2 rfl) ?_
  refine vp_callSi (W.runV (As := [.int u]) (rest := []) ⟨hx, hb, hml, hown, hts⟩ (k_X0_inTakenOrder l D tys a wd po ini xo ri ro u) (cwV 1 hts gX0_takeByte_X0_inTakenOrder rfl rfl rfl (by decide +kernel) ⟨Nat.le_of_ble_eq_true rfl, Nat.le_of_ble_eq_true rfl⟩) ⟨cs_B.blind, va_recv hK hP (ci := 0) (q0 := 0) rfl rfl, cs_B.at hE hP hK⟩ rfl rfl hl.1 rfl (lv_room (Nat.le_of_ble_eq_true rfl)) dX0_takeByte_2 ⟨Nat.le_of_ble_eq_true rfl, Nat.le_of_ble_eq_true rfl⟩) (fun r_2 e_2 => ?_)
  subst e_2
  refine lv_istore_n (lv' := [(3, .int (cs_od ri u)), (0, .ref a), (1, .int v), (2, .int u)]) hx hb dX0_takeByte_5 rfl hl (by decide) rfl (fun ls hl => ?_)
  refine lv_iload_n hx hb dX0_takeByte_6 rfl (lv_at hl 2 rfl) ?_
  refine lv_istore (lv' := [(4, .int v), (3, .int (cs_od ri u)), (0, .ref a), (1, .int v), (2, .int u)]) hx hb dX0_takeByte_7 hl (by decide) rfl (fun ls hl => ?_)
  refine lv_bipush (v := 7) hx hb dX0_takeByte_9 (by decide) ?_
  refine lv_istore (lv' := [(5, .int 7), (4, .int v), (3, .int (cs_od ri u)), (0, .ref a), (1, .int v), (2, .int u)]) hx hb dX0_takeByte_11 hl (by decide) rfl (fun ls hl => ?_)
  exact loop 8 v _ (by decide) (by decide) rfl ls (lv_sub hl [3, 2, 1, 0] rfl)
end
section
theorem dX1_init_0 : decode cX1_init 0 = .ok (.aload_n 0, 1) := by decide +kernel
theorem dX1_init_1 : decode cX1_init 1 = .ok (.invokespecial 1, 3) := by decide +kernel
theorem dX1_init_4 : decode cX1_init 4 = .ok (.aload_n 0, 1) := by decide +kernel
theorem dX1_init_5 : decode cX1_init 5 = .ok (.bipush 6, 2) := by decide +kernel
theorem dX1_init_7 : decode cX1_init 7 = .ok (.anewarray 9, 3) := by decide +kernel
theorem dX1_init_10 : decode cX1_init 10 = .ok (.putfield 11, 3) := by decide +kernel
theorem dX1_init_13 : decode cX1_init 13 = .ok (.aload_n 0, 1) := by decide +kernel
theorem dX1_init_14 : decode cX1_init 14 = .ok (.iconst 0, 1) := by decide +kernel
theorem dX1_init_15 : decode cX1_init 15 = .ok (.putfield 15, 3) := by decide +kernel
theorem dX1_init_18 : decode cX1_init 18 = .ok (.aload_n 0, 1) := by decide +kernel
theorem dX1_init_19 : decode cX1_init 19 = .ok (.iconst 4, 1) := by decide +kernel
theorem dX1_init_20 : decode cX1_init 20 = .ok (.sipush 256, 3) := by decide +kernel
theorem dX1_init_23 : decode cX1_init 23 = .ok (.multianewarray 19 2, 4) := by decide +kernel
theorem dX1_init_27 : decode cX1_init 27 = .ok (.putfield 21, 3) := by decide +kernel
theorem dX1_init_30 : decode cX1_init 30 = .ok (.aload_n 0, 1) := by decide +kernel
theorem dX1_init_31 : decode cX1_init 31 = .ok (.iconst 4, 1) := by decide +kernel
theorem dX1_init_32 : decode cX1_init 32 = .ok (.newarray .int, 2) := by decide +kernel
theorem dX1_init_34 : decode cX1_init 34 = .ok (.putfield 24, 3) := by decide +kernel
theorem dX1_init_37 : decode cX1_init 37 = .ok (.return_, 1) := by decide +kernel
set_option maxRecDepth 20000 in
theorem ggX1_define_X1_requireNumber : GoodIn wsX1_define wsX1_requireNumber := goodIn_ca (goodIn_r _ [13, 1, 2] (by decide +kernel) (by decide +kernel)) (goodIn_sub (fun _ h => List.mem_cons_of_mem _ (List.mem_append_left _ (List.mem_append_right _ h))) (by decide +kernel))
set_option maxRecDepth 20000 in
theorem gX1_define_X1_requireNumber : GoodIn wsX1_define (va_wsS RX1 35 yX1_requireNumber wsX1_requireNumber) := goodIn_app (goodIn_of _ (by decide +kernel)) ggX1_define_X1_requireNumber
set_option maxRecDepth 20000 in
theorem ggX1_define_X0_init : GoodIn wsX1_define wsX0_init := goodIn_r _ [16, 17, 18, 19, 20, 21, 22, 23, 24, 25, 26, 27, 32, 33, 34, 35, 36, 37, 38, 39] (by decide +kernel) (by decide +kernel)
set_option maxRecDepth 20000 in
theorem gX1_define_X0_init : GoodIn wsX1_define (wsX0_init) := ggX1_define_X0_init
theorem dX1_define_0 : decode cX1_define 0 = .ok (.iload_n 1, 1) := by decide +kernel
theorem dX1_define_1 : decode cX1_define 1 = .ok (.iconst 1, 1) := by decide +kernel
theorem dX1_define_2 : decode cX1_define 2 = .ok (.if_icmp .lt 9, 3) := by decide +kernel
theorem dX1_define_5 : decode cX1_define 5 = .ok (.iload_n 1, 1) := by decide +kernel
theorem dX1_define_6 : decode cX1_define 6 = .ok (.bipush 32, 2) := by decide +kernel
theorem dX1_define_8 : decode cX1_define 8 = .ok (.if_icmp .le 13, 3) := by decide +kernel
theorem dX1_define_11 : decode cX1_define 11 = .ok (.new 28, 3) := by decide +kernel
theorem dX1_define_14 : decode cX1_define 14 = .ok (.dup, 1) := by decide +kernel
theorem dX1_define_15 : decode cX1_define 15 = .ok (.ldc 30, 2) := by decide +kernel
theorem dX1_define_17 : decode cX1_define 17 = .ok (.invokespecial 32, 3) := by decide +kernel
theorem dX1_define_20 : decode cX1_define 20 = .ok (.athrow, 1) := by decide +kernel
theorem dX1_define_21 : decode cX1_define 21 = .ok (.iload_n 1, 1) := by decide +kernel
theorem dX1_define_22 : decode cX1_define 22 = .ok (.iload_n 2, 1) := by decide +kernel
theorem dX1_define_23 : decode cX1_define 23 = .ok (.invokestatic 35, 3) := by decide +kernel
theorem dX1_define_26 : decode cX1_define 26 = .ok (.iload_n 1, 1) := by decide +kernel
theorem dX1_define_27 : decode cX1_define 27 = .ok (.iload_n 3, 1) := by decide +kernel
theorem dX1_define_28 : decode cX1_define 28 = .ok (.invokestatic 35, 3) := by decide +kernel
theorem dX1_define_31 : decode cX1_define 31 = .ok (.iload_n 1, 1) := by decide +kernel
theorem dX1_define_32 : decode cX1_define 32 = .ok (.iload 6, 2) := by decide +kernel
theorem dX1_define_34 : decode cX1_define 34 = .ok (.invokestatic 35, 3) := by decide +kernel
theorem dX1_define_37 : decode cX1_define 37 = .ok (.aload_n 0, 1) := by decide +kernel
theorem dX1_define_38 : decode cX1_define 38 = .ok (.getfield 15, 3) := by decide +kernel
theorem dX1_define_41 : decode cX1_define 41 = .ok (.aload_n 0, 1) := by decide +kernel
theorem dX1_define_42 : decode cX1_define 42 = .ok (.getfield 11, 3) := by decide +kernel
theorem dX1_define_45 : decode cX1_define 45 = .ok (.arraylength, 1) := by decide +kernel
theorem dX1_define_46 : decode cX1_define 46 = .ok (.if_icmp .lt 13, 3) := by decide +kernel
theorem dX1_define_49 : decode cX1_define 49 = .ok (.new 39, 3) := by decide +kernel
theorem dX1_define_52 : decode cX1_define 52 = .ok (.dup, 1) := by decide +kernel
theorem dX1_define_53 : decode cX1_define 53 = .ok (.ldc 41, 2) := by decide +kernel
theorem dX1_define_55 : decode cX1_define 55 = .ok (.invokespecial 43, 3) := by decide +kernel
theorem dX1_define_58 : decode cX1_define 58 = .ok (.athrow, 1) := by decide +kernel
theorem dX1_define_59 : decode cX1_define 59 = .ok (.aload_n 0, 1) := by decide +kernel
theorem dX1_define_60 : decode cX1_define 60 = .ok (.getfield 15, 3) := by decide +kernel
theorem dX1_define_63 : decode cX1_define 63 = .ok (.istore 7, 2) := by decide +kernel
theorem dX1_define_65 : decode cX1_define 65 = .ok (.aload_n 0, 1) := by decide +kernel
theorem dX1_define_66 : decode cX1_define 66 = .ok (.getfield 11, 3) := by decide +kernel
theorem dX1_define_69 : decode cX1_define 69 = .ok (.iload 7, 2) := by decide +kernel
theorem dX1_define_71 : decode cX1_define 71 = .ok (.new 9, 3) := by decide +kernel
theorem dX1_define_74 : decode cX1_define 74 = .ok (.dup, 1) := by decide +kernel
theorem dX1_define_75 : decode cX1_define 75 = .ok (.iload_n 1, 1) := by decide +kernel
theorem dX1_define_76 : decode cX1_define 76 = .ok (.iload_n 2, 1) := by decide +kernel
theorem dX1_define_77 : decode cX1_define 77 = .ok (.iload_n 3, 1) := by decide +kernel
theorem dX1_define_78 : decode cX1_define 78 = .ok (.iload 4, 2) := by decide +kernel
theorem dX1_define_80 : decode cX1_define 80 = .ok (.iload 5, 2) := by decide +kernel
theorem dX1_define_82 : decode cX1_define 82 = .ok (.iload 6, 2) := by decide +kernel
theorem dX1_define_84 : decode cX1_define 84 = .ok (.invokespecial 44, 3) := by decide +kernel
theorem dX1_define_87 : decode cX1_define 87 = .ok (.aastore, 1) := by decide +kernel
theorem dX1_define_88 : decode cX1_define 88 = .ok (.aload_n 0, 1) := by decide +kernel
theorem dX1_define_89 : decode cX1_define 89 = .ok (.iload 7, 2) := by decide +kernel
theorem dX1_define_91 : decode cX1_define 91 = .ok (.iconst 1, 1) := by decide +kernel
theorem dX1_define_92 : decode cX1_define 92 = .ok (.iadd, 1) := by decide +kernel
theorem dX1_define_93 : decode cX1_define 93 = .ok (.putfield 15, 3) := by decide +kernel
theorem dX1_define_96 : decode cX1_define 96 = .ok (.iload 7, 2) := by decide +kernel
theorem dX1_define_98 : decode cX1_define 98 = .ok (.ireturn, 1) := by decide +kernel
set_option maxRecDepth 20000 in
theorem ggX1_append_X1_requireRow : GoodIn wsX1_append wsX1_requireRow := goodIn_ca (goodIn_r _ [6, 7, 8] (by decide +kernel) (by decide +kernel)) (goodIn_sub (fun _ h => List.mem_cons_of_mem _ (List.mem_append_left _ (List.mem_append_left _ (List.mem_append_right _ h)))) (by decide +kernel))
set_option maxRecDepth 20000 in
theorem gX1_append_X1_requireRow : GoodIn wsX1_append (va_wsS RX1 80 yX1_requireRow wsX1_requireRow) := goodIn_app (goodIn_of _ (by decide +kernel)) ggX1_append_X1_requireRow
set_option maxRecDepth 20000 in
theorem ggX1_append_X1_requireByte : GoodIn wsX1_append wsX1_requireByte := goodIn_ca (goodIn_r _ [11, 12, 13] (by decide +kernel) (by decide +kernel)) (goodIn_sub (fun _ h => List.mem_cons_of_mem _ (List.mem_append_left _ (List.mem_append_right _ h))) (by decide +kernel))
set_option maxRecDepth 20000 in
theorem gX1_append_X1_requireByte : GoodIn wsX1_append (va_wsS RX1 84 yX1_requireByte wsX1_requireByte) := goodIn_app (goodIn_of _ (by decide +kernel)) ggX1_append_X1_requireByte
set_option maxRecDepth 20000 in
theorem ggX1_append_X1_requireRoom : GoodIn wsX1_append wsX1_requireRoom := goodIn_ca (goodIn_r _ [17, 18, 19, 2, 20, 21, 22, 23] (by decide +kernel) (by decide +kernel)) (goodIn_sub (fun _ h => List.mem_cons_of_mem _ (List.mem_append_right _ h)) (by decide +kernel))
set_option maxRecDepth 20000 in
theorem gX1_append_X1_requireRoom : GoodIn wsX1_append (wsV RX1 87 RX1 yX1_requireRoom wsX1_requireRoom) := goodIn_app (goodIn_of _ (by decide +kernel)) ggX1_append_X1_requireRoom
theorem dX1_append_0 : decode cX1_append 0 = .ok (.iload_n 1, 1) := by decide +kernel
theorem dX1_append_1 : decode cX1_append 1 = .ok (.invokestatic 80, 3) := by decide +kernel
theorem dX1_append_4 : decode cX1_append 4 = .ok (.iload_n 2, 1) := by decide +kernel
theorem dX1_append_5 : decode cX1_append 5 = .ok (.invokestatic 84, 3) := by decide +kernel
theorem dX1_append_8 : decode cX1_append 8 = .ok (.aload_n 0, 1) := by decide +kernel
theorem dX1_append_9 : decode cX1_append 9 = .ok (.iload_n 1, 1) := by decide +kernel
theorem dX1_append_10 : decode cX1_append 10 = .ok (.iconst 1, 1) := by decide +kernel
theorem dX1_append_11 : decode cX1_append 11 = .ok (.invokevirtual 87, 3) := by decide +kernel
theorem dX1_append_14 : decode cX1_append 14 = .ok (.aload_n 0, 1) := by decide +kernel
theorem dX1_append_15 : decode cX1_append 15 = .ok (.getfield 21, 3) := by decide +kernel
theorem dX1_append_18 : decode cX1_append 18 = .ok (.iload_n 1, 1) := by decide +kernel
theorem dX1_append_19 : decode cX1_append 19 = .ok (.aaload, 1) := by decide +kernel
theorem dX1_append_20 : decode cX1_append 20 = .ok (.aload_n 0, 1) := by decide +kernel
theorem dX1_append_21 : decode cX1_append 21 = .ok (.getfield 24, 3) := by decide +kernel
theorem dX1_append_24 : decode cX1_append 24 = .ok (.iload_n 1, 1) := by decide +kernel
theorem dX1_append_25 : decode cX1_append 25 = .ok (.iaload, 1) := by decide +kernel
theorem dX1_append_26 : decode cX1_append 26 = .ok (.iload_n 2, 1) := by decide +kernel
theorem dX1_append_27 : decode cX1_append 27 = .ok (.iastore, 1) := by decide +kernel
theorem dX1_append_28 : decode cX1_append 28 = .ok (.aload_n 0, 1) := by decide +kernel
theorem dX1_append_29 : decode cX1_append 29 = .ok (.getfield 24, 3) := by decide +kernel
theorem dX1_append_32 : decode cX1_append 32 = .ok (.iload_n 1, 1) := by decide +kernel
theorem dX1_append_33 : decode cX1_append 33 = .ok (.dup2, 1) := by decide +kernel
theorem dX1_append_34 : decode cX1_append 34 = .ok (.iaload, 1) := by decide +kernel
theorem dX1_append_35 : decode cX1_append 35 = .ok (.iconst 1, 1) := by decide +kernel
theorem dX1_append_36 : decode cX1_append 36 = .ok (.iadd, 1) := by decide +kernel
theorem dX1_append_37 : decode cX1_append 37 = .ok (.iastore, 1) := by decide +kernel
theorem dX1_append_38 : decode cX1_append 38 = .ok (.aload_n 0, 1) := by decide +kernel
theorem dX1_append_39 : decode cX1_append 39 = .ok (.getfield 24, 3) := by decide +kernel
theorem dX1_append_42 : decode cX1_append 42 = .ok (.iload_n 1, 1) := by decide +kernel
theorem dX1_append_43 : decode cX1_append 43 = .ok (.iaload, 1) := by decide +kernel
theorem dX1_append_44 : decode cX1_append 44 = .ok (.ireturn, 1) := by decide +kernel
set_option maxRecDepth 20000 in
theorem ggX1_setByte_X1_requireRow : GoodIn wsX1_setByte wsX1_requireRow := goodIn_ca (goodIn_r _ [5, 6, 7] (by decide +kernel) (by decide +kernel)) (goodIn_sub (fun _ h => List.mem_cons_of_mem _ (List.mem_append_left _ (List.mem_append_right _ h))) (by decide +kernel))
set_option maxRecDepth 20000 in
theorem gX1_setByte_X1_requireRow : GoodIn wsX1_setByte (va_wsS RX1 80 yX1_requireRow wsX1_requireRow) := goodIn_app (goodIn_of _ (by decide +kernel)) ggX1_setByte_X1_requireRow
set_option maxRecDepth 20000 in
theorem ggX1_setByte_X1_requireIndex : GoodIn wsX1_setByte wsX1_requireIndex := goodIn_ca (goodIn_r _ [11, 6, 7, 12, 18, 19, 20, 21] (by decide +kernel) (by decide +kernel)) (goodIn_sub (fun _ h => List.mem_cons_of_mem _ (List.mem_append_left _ (List.mem_append_right _ h))) (by decide +kernel))
set_option maxRecDepth 20000 in
theorem gX1_setByte_X1_requireIndex : GoodIn wsX1_setByte (wsV RX1 92 RX1 yX1_requireIndex wsX1_requireIndex) := goodIn_app (goodIn_of _ (by decide +kernel)) ggX1_setByte_X1_requireIndex
set_option maxRecDepth 20000 in
theorem ggX1_setByte_X1_requireByte : GoodIn wsX1_setByte wsX1_requireByte := goodIn_ca (goodIn_r _ [15, 16, 17] (by decide +kernel) (by decide +kernel)) (goodIn_sub (fun _ h => List.mem_cons_of_mem _ (List.mem_append_right _ h)) (by decide +kernel))
set_option maxRecDepth 20000 in
theorem gX1_setByte_X1_requireByte : GoodIn wsX1_setByte (va_wsS RX1 84 yX1_requireByte wsX1_requireByte) := goodIn_app (goodIn_of _ (by decide +kernel)) ggX1_setByte_X1_requireByte
theorem dX1_setByte_0 : decode cX1_setByte 0 = .ok (.iload_n 1, 1) := by decide +kernel
theorem dX1_setByte_1 : decode cX1_setByte 1 = .ok (.invokestatic 80, 3) := by decide +kernel
theorem dX1_setByte_4 : decode cX1_setByte 4 = .ok (.aload_n 0, 1) := by decide +kernel
theorem dX1_setByte_5 : decode cX1_setByte 5 = .ok (.iload_n 1, 1) := by decide +kernel
theorem dX1_setByte_6 : decode cX1_setByte 6 = .ok (.iload_n 2, 1) := by decide +kernel
theorem dX1_setByte_7 : decode cX1_setByte 7 = .ok (.invokevirtual 92, 3) := by decide +kernel
theorem dX1_setByte_10 : decode cX1_setByte 10 = .ok (.iload_n 3, 1) := by decide +kernel
theorem dX1_setByte_11 : decode cX1_setByte 11 = .ok (.invokestatic 84, 3) := by decide +kernel
theorem dX1_setByte_14 : decode cX1_setByte 14 = .ok (.aload_n 0, 1) := by decide +kernel
theorem dX1_setByte_15 : decode cX1_setByte 15 = .ok (.getfield 21, 3) := by decide +kernel
theorem dX1_setByte_18 : decode cX1_setByte 18 = .ok (.iload_n 1, 1) := by decide +kernel
theorem dX1_setByte_19 : decode cX1_setByte 19 = .ok (.aaload, 1) := by decide +kernel
theorem dX1_setByte_20 : decode cX1_setByte 20 = .ok (.iload_n 2, 1) := by decide +kernel
theorem dX1_setByte_21 : decode cX1_setByte 21 = .ok (.iaload, 1) := by decide +kernel
theorem dX1_setByte_22 : decode cX1_setByte 22 = .ok (.istore 4, 2) := by decide +kernel
theorem dX1_setByte_24 : decode cX1_setByte 24 = .ok (.aload_n 0, 1) := by decide +kernel
theorem dX1_setByte_25 : decode cX1_setByte 25 = .ok (.getfield 21, 3) := by decide +kernel
theorem dX1_setByte_28 : decode cX1_setByte 28 = .ok (.iload_n 1, 1) := by decide +kernel
theorem dX1_setByte_29 : decode cX1_setByte 29 = .ok (.aaload, 1) := by decide +kernel
theorem dX1_setByte_30 : decode cX1_setByte 30 = .ok (.iload_n 2, 1) := by decide +kernel
theorem dX1_setByte_31 : decode cX1_setByte 31 = .ok (.iload_n 3, 1) := by decide +kernel
theorem dX1_setByte_32 : decode cX1_setByte 32 = .ok (.iastore, 1) := by decide +kernel
theorem dX1_setByte_33 : decode cX1_setByte 33 = .ok (.iload 4, 2) := by decide +kernel
theorem dX1_setByte_35 : decode cX1_setByte 35 = .ok (.ireturn, 1) := by decide +kernel
set_option maxRecDepth 20000 in
theorem ggX1_byteAt_X1_requireRow : GoodIn wsX1_byteAt wsX1_requireRow := goodIn_ca (goodIn_r _ [5, 6, 7] (by decide +kernel) (by decide +kernel)) (goodIn_sub (fun _ h => List.mem_cons_of_mem _ (List.mem_append_right _ h)) (by decide +kernel))
set_option maxRecDepth 20000 in
theorem gX1_byteAt_X1_requireRow : GoodIn wsX1_byteAt (va_wsS RX1 80 yX1_requireRow wsX1_requireRow) := goodIn_app (goodIn_of _ (by decide +kernel)) ggX1_byteAt_X1_requireRow
set_option maxRecDepth 20000 in
theorem ggX1_byteAt_X1_requireIndex : GoodIn wsX1_byteAt wsX1_requireIndex := goodIn_ca (goodIn_r _ [11, 6, 7, 12, 13, 14, 15, 16] (by decide +kernel) (by decide +kernel)) (goodIn_sub (fun _ h => List.mem_cons_of_mem _ (List.mem_append_right _ h)) (by decide +kernel))
set_option maxRecDepth 20000 in
theorem gX1_byteAt_X1_requireIndex : GoodIn wsX1_byteAt (wsV RX1 92 RX1 yX1_requireIndex wsX1_requireIndex) := goodIn_app (goodIn_of _ (by decide +kernel)) ggX1_byteAt_X1_requireIndex
theorem dX1_byteAt_0 : decode cX1_byteAt 0 = .ok (.iload_n 1, 1) := by decide +kernel
theorem dX1_byteAt_1 : decode cX1_byteAt 1 = .ok (.invokestatic 80, 3) := by decide +kernel
theorem dX1_byteAt_4 : decode cX1_byteAt 4 = .ok (.aload_n 0, 1) := by decide +kernel
theorem dX1_byteAt_5 : decode cX1_byteAt 5 = .ok (.iload_n 1, 1) := by decide +kernel
theorem dX1_byteAt_6 : decode cX1_byteAt 6 = .ok (.iload_n 2, 1) := by decide +kernel
theorem dX1_byteAt_7 : decode cX1_byteAt 7 = .ok (.invokevirtual 92, 3) := by decide +kernel
theorem dX1_byteAt_10 : decode cX1_byteAt 10 = .ok (.aload_n 0, 1) := by decide +kernel
theorem dX1_byteAt_11 : decode cX1_byteAt 11 = .ok (.getfield 21, 3) := by decide +kernel
theorem dX1_byteAt_14 : decode cX1_byteAt 14 = .ok (.iload_n 1, 1) := by decide +kernel
theorem dX1_byteAt_15 : decode cX1_byteAt 15 = .ok (.aaload, 1) := by decide +kernel
theorem dX1_byteAt_16 : decode cX1_byteAt 16 = .ok (.iload_n 2, 1) := by decide +kernel
theorem dX1_byteAt_17 : decode cX1_byteAt 17 = .ok (.iaload, 1) := by decide +kernel
theorem dX1_byteAt_18 : decode cX1_byteAt 18 = .ok (.ireturn, 1) := by decide +kernel
set_option maxRecDepth 20000 in
theorem ggX1_sum_X1_findModel : GoodIn wsX1_sum wsX1_findModel := goodIn_ca (goodIn_r _ [6, 7, 8, 9, 53, 54, 55, 56] (by decide +kernel) (by decide +kernel)) (goodIn_sub (fun _ h => List.mem_cons_of_mem _ (List.mem_append_right _ h)) (by decide +kernel))
set_option maxRecDepth 20000 in
theorem gX1_sum_X1_findModel : GoodIn wsX1_sum (wsV RX1 47 RX1 yX1_findModel wsX1_findModel) := goodIn_app (goodIn_of _ (by decide +kernel)) ggX1_sum_X1_findModel
set_option maxRecDepth 20000 in
theorem ggX1_sum_X1_requireRow : GoodIn wsX1_sum wsX1_requireRow := goodIn_ca (goodIn_r _ [12, 7, 8] (by decide +kernel) (by decide +kernel)) (goodIn_sub (fun _ h => List.mem_cons_of_mem _ (List.mem_append_right _ h)) (by decide +kernel))
set_option maxRecDepth 20000 in
theorem gX1_sum_X1_requireRow : GoodIn wsX1_sum (va_wsS RX1 80 yX1_requireRow wsX1_requireRow) := goodIn_app (goodIn_of _ (by decide +kernel)) ggX1_sum_X1_requireRow
set_option maxRecDepth 20000 in
theorem ggX1_sum_X1_partSum : GoodIn wsX1_sum wsX1_partSum := goodIn_r _ [16, 17, 18, 19, 20, 21, 22, 23, 24, 25, 26, 27, 28, 29, 5, 30, 31, 32, 33, 34, 35, 36, 37, 38, 39, 40, 41, 42, 43, 44, 45, 46, 47, 48, 49, 50, 51, 52, 57, 58, 59, 60, 61, 62, 63, 64, 53, 54, 55, 56] (by decide +kernel) (by decide +kernel)
set_option maxRecDepth 20000 in
theorem gX1_sum_X1_partSum : GoodIn wsX1_sum (wsV RX1 97 RX1 yX1_partSum wsX1_partSum) := goodIn_app (goodIn_of _ (by decide +kernel)) ggX1_sum_X1_partSum
theorem dX1_sum_0 : decode cX1_sum 0 = .ok (.aload_n 0, 1) := by decide +kernel
theorem dX1_sum_1 : decode cX1_sum 1 = .ok (.iload_n 1, 1) := by decide +kernel
theorem dX1_sum_2 : decode cX1_sum 2 = .ok (.invokevirtual 47, 3) := by decide +kernel
theorem dX1_sum_5 : decode cX1_sum 5 = .ok (.astore_n 3, 1) := by decide +kernel
theorem dX1_sum_6 : decode cX1_sum 6 = .ok (.iload_n 2, 1) := by decide +kernel
theorem dX1_sum_7 : decode cX1_sum 7 = .ok (.invokestatic 80, 3) := by decide +kernel
theorem dX1_sum_10 : decode cX1_sum 10 = .ok (.aload_n 0, 1) := by decide +kernel
theorem dX1_sum_11 : decode cX1_sum 11 = .ok (.aload_n 3, 1) := by decide +kernel
theorem dX1_sum_12 : decode cX1_sum 12 = .ok (.iload_n 2, 1) := by decide +kernel
theorem dX1_sum_13 : decode cX1_sum 13 = .ok (.iconst 0, 1) := by decide +kernel
theorem dX1_sum_14 : decode cX1_sum 14 = .ok (.aload_n 0, 1) := by decide +kernel
theorem dX1_sum_15 : decode cX1_sum 15 = .ok (.getfield 24, 3) := by decide +kernel
theorem dX1_sum_18 : decode cX1_sum 18 = .ok (.iload_n 2, 1) := by decide +kernel
theorem dX1_sum_19 : decode cX1_sum 19 = .ok (.iaload, 1) := by decide +kernel
theorem dX1_sum_20 : decode cX1_sum 20 = .ok (.invokevirtual 97, 3) := by decide +kernel
theorem dX1_sum_23 : decode cX1_sum 23 = .ok (.ireturn, 1) := by decide +kernel
set_option maxRecDepth 20000 in
theorem ggX1_sumOfPart_X1_findModel : GoodIn wsX1_sumOfPart wsX1_findModel := goodIn_ca (goodIn_r _ [8, 1, 2, 9, 53, 54, 55, 56] (by decide +kernel) (by decide +kernel)) (goodIn_sub (fun _ h => List.mem_cons_of_mem _ (List.mem_append_right _ h)) (by decide +kernel))
set_option maxRecDepth 20000 in
theorem gX1_sumOfPart_X1_findModel : GoodIn wsX1_sumOfPart (wsV RX1 47 RX1 yX1_findModel wsX1_findModel) := goodIn_app (goodIn_of _ (by decide +kernel)) ggX1_sumOfPart_X1_findModel
set_option maxRecDepth 20000 in
theorem ggX1_sumOfPart_X1_requireRow : GoodIn wsX1_sumOfPart wsX1_requireRow := goodIn_ca (goodIn_r _ [12, 1, 2] (by decide +kernel) (by decide +kernel)) (goodIn_sub (fun _ h => List.mem_cons_of_mem _ (List.mem_append_right _ h)) (by decide +kernel))
set_option maxRecDepth 20000 in
theorem gX1_sumOfPart_X1_requireRow : GoodIn wsX1_sumOfPart (va_wsS RX1 80 yX1_requireRow wsX1_requireRow) := goodIn_app (goodIn_of _ (by decide +kernel)) ggX1_sumOfPart_X1_requireRow
set_option maxRecDepth 20000 in
theorem ggX1_sumOfPart_X1_partSum : GoodIn wsX1_sumOfPart wsX1_partSum := goodIn_r _ [16, 17, 18, 19, 20, 21, 22, 23, 24, 25, 26, 27, 28, 29, 7, 30, 31, 32, 33, 34, 35, 36, 37, 38, 39, 40, 41, 42, 43, 44, 45, 46, 47, 48, 49, 50, 51, 52, 57, 58, 59, 60, 61, 62, 63, 64, 53, 54, 55, 56] (by decide +kernel) (by decide +kernel)
set_option maxRecDepth 20000 in
theorem gX1_sumOfPart_X1_partSum : GoodIn wsX1_sumOfPart (wsV RX1 97 RX1 yX1_partSum wsX1_partSum) := goodIn_app (goodIn_of _ (by decide +kernel)) ggX1_sumOfPart_X1_partSum
theorem dX1_sumOfPart_0 : decode cX1_sumOfPart 0 = .ok (.aload_n 0, 1) := by decide +kernel
theorem dX1_sumOfPart_1 : decode cX1_sumOfPart 1 = .ok (.iload_n 1, 1) := by decide +kernel
theorem dX1_sumOfPart_2 : decode cX1_sumOfPart 2 = .ok (.invokevirtual 47, 3) := by decide +kernel
theorem dX1_sumOfPart_5 : decode cX1_sumOfPart 5 = .ok (.astore 5, 2) := by decide +kernel
theorem dX1_sumOfPart_7 : decode cX1_sumOfPart 7 = .ok (.iload_n 2, 1) := by decide +kernel
theorem dX1_sumOfPart_8 : decode cX1_sumOfPart 8 = .ok (.invokestatic 80, 3) := by decide +kernel
theorem dX1_sumOfPart_11 : decode cX1_sumOfPart 11 = .ok (.iload_n 3, 1) := by decide +kernel
theorem dX1_sumOfPart_12 : decode cX1_sumOfPart 12 = .ok (.ifCond .lt 20, 3) := by decide +kernel
theorem dX1_sumOfPart_15 : decode cX1_sumOfPart 15 = .ok (.iload_n 3, 1) := by decide +kernel
theorem dX1_sumOfPart_16 : decode cX1_sumOfPart 16 = .ok (.iload 4, 2) := by decide +kernel
theorem dX1_sumOfPart_18 : decode cX1_sumOfPart 18 = .ok (.if_icmp .gt 14, 3) := by decide +kernel
theorem dX1_sumOfPart_21 : decode cX1_sumOfPart 21 = .ok (.iload 4, 2) := by decide +kernel
theorem dX1_sumOfPart_23 : decode cX1_sumOfPart 23 = .ok (.aload_n 0, 1) := by decide +kernel
theorem dX1_sumOfPart_24 : decode cX1_sumOfPart 24 = .ok (.getfield 24, 3) := by decide +kernel
theorem dX1_sumOfPart_27 : decode cX1_sumOfPart 27 = .ok (.iload_n 2, 1) := by decide +kernel
theorem dX1_sumOfPart_28 : decode cX1_sumOfPart 28 = .ok (.iaload, 1) := by decide +kernel
theorem dX1_sumOfPart_29 : decode cX1_sumOfPart 29 = .ok (.if_icmp .le 13, 3) := by decide +kernel
theorem dX1_sumOfPart_32 : decode cX1_sumOfPart 32 = .ok (.new 101, 3) := by decide +kernel
theorem dX1_sumOfPart_35 : decode cX1_sumOfPart 35 = .ok (.dup, 1) := by decide +kernel
theorem dX1_sumOfPart_36 : decode cX1_sumOfPart 36 = .ok (.ldc 103, 2) := by decide +kernel
theorem dX1_sumOfPart_38 : decode cX1_sumOfPart 38 = .ok (.invokespecial 105, 3) := by decide +kernel
theorem dX1_sumOfPart_41 : decode cX1_sumOfPart 41 = .ok (.athrow, 1) := by decide +kernel
theorem dX1_sumOfPart_42 : decode cX1_sumOfPart 42 = .ok (.aload_n 0, 1) := by decide +kernel
theorem dX1_sumOfPart_43 : decode cX1_sumOfPart 43 = .ok (.aload 5, 2) := by decide +kernel
theorem dX1_sumOfPart_45 : decode cX1_sumOfPart 45 = .ok (.iload_n 2, 1) := by decide +kernel
theorem dX1_sumOfPart_46 : decode cX1_sumOfPart 46 = .ok (.iload_n 3, 1) := by decide +kernel
theorem dX1_sumOfPart_47 : decode cX1_sumOfPart 47 = .ok (.iload 4, 2) := by decide +kernel
theorem dX1_sumOfPart_49 : decode cX1_sumOfPart 49 = .ok (.invokevirtual 97, 3) := by decide +kernel
theorem dX1_sumOfPart_52 : decode cX1_sumOfPart 52 = .ok (.ireturn, 1) := by decide +kernel
set_option maxRecDepth 20000 in
theorem ggX1_remainder_X1_findModel : GoodIn wsX1_remainder wsX1_findModel := goodIn_ca (goodIn_r _ [7, 8, 9, 10, 26, 27, 28, 29] (by decide +kernel) (by decide +kernel)) (goodIn_sub (fun _ h => List.mem_cons_of_mem _ (List.mem_append_right _ h)) (by decide +kernel))
set_option maxRecDepth 20000 in
theorem gX1_remainder_X1_findModel : GoodIn wsX1_remainder (wsV RX1 47 RX1 yX1_findModel wsX1_findModel) := goodIn_app (goodIn_of _ (by decide +kernel)) ggX1_remainder_X1_findModel
set_option maxRecDepth 20000 in
theorem ggX1_remainder_X1_requireRow : GoodIn wsX1_remainder wsX1_requireRow := goodIn_ca (goodIn_r _ [13, 8, 9] (by decide +kernel) (by decide +kernel)) (goodIn_sub (fun _ h => List.mem_cons_of_mem _ (List.mem_append_right _ h)) (by decide +kernel))
set_option maxRecDepth 20000 in
theorem gX1_remainder_X1_requireRow : GoodIn wsX1_remainder (va_wsS RX1 80 yX1_requireRow wsX1_requireRow) := goodIn_app (goodIn_of _ (by decide +kernel)) ggX1_remainder_X1_requireRow
set_option maxRecDepth 20000 in
theorem ggX1_remainder_X0_divideByte : GoodIn wsX1_remainder wsX0_divideByte := goodIn_r _ [18, 19, 20, 21, 17, 22, 23, 24, 25, 30, 31, 32, 33, 34, 35, 36, 37] (by decide +kernel) (by decide +kernel)
set_option maxRecDepth 20000 in
theorem gX1_remainder_X0_divideByte : GoodIn wsX1_remainder (wsV RX1 106 RX0 yX0_divideByte wsX0_divideByte) := goodIn_app (goodIn_of _ (by decide +kernel)) ggX1_remainder_X0_divideByte
theorem dX1_remainder_0 : decode cX1_remainder 0 = .ok (.aload_n 0, 1) := by decide +kernel
theorem dX1_remainder_1 : decode cX1_remainder 1 = .ok (.iload_n 1, 1) := by decide +kernel
theorem dX1_remainder_2 : decode cX1_remainder 2 = .ok (.invokevirtual 47, 3) := by decide +kernel
theorem dX1_remainder_5 : decode cX1_remainder 5 = .ok (.astore_n 3, 1) := by decide +kernel
theorem dX1_remainder_6 : decode cX1_remainder 6 = .ok (.iload_n 2, 1) := by decide +kernel
theorem dX1_remainder_7 : decode cX1_remainder 7 = .ok (.invokestatic 80, 3) := by decide +kernel
theorem dX1_remainder_10 : decode cX1_remainder 10 = .ok (.aload_n 0, 1) := by decide +kernel
theorem dX1_remainder_11 : decode cX1_remainder 11 = .ok (.getfield 24, 3) := by decide +kernel
theorem dX1_remainder_14 : decode cX1_remainder 14 = .ok (.iload_n 2, 1) := by decide +kernel
theorem dX1_remainder_15 : decode cX1_remainder 15 = .ok (.iaload, 1) := by decide +kernel
theorem dX1_remainder_16 : decode cX1_remainder 16 = .ok (.istore 4, 2) := by decide +kernel
theorem dX1_remainder_18 : decode cX1_remainder 18 = .ok (.iconst 0, 1) := by decide +kernel
theorem dX1_remainder_19 : decode cX1_remainder 19 = .ok (.istore 5, 2) := by decide +kernel
theorem dX1_remainder_21 : decode cX1_remainder 21 = .ok (.iconst 0, 1) := by decide +kernel
theorem dX1_remainder_22 : decode cX1_remainder 22 = .ok (.istore 6, 2) := by decide +kernel
theorem dX1_remainder_24 : decode cX1_remainder 24 = .ok (.iload 6, 2) := by decide +kernel
theorem dX1_remainder_26 : decode cX1_remainder 26 = .ok (.iload 4, 2) := by decide +kernel
theorem dX1_remainder_28 : decode cX1_remainder 28 = .ok (.if_icmp .ge 26, 3) := by decide +kernel
theorem dX1_remainder_31 : decode cX1_remainder 31 = .ok (.aload_n 3, 1) := by decide +kernel
theorem dX1_remainder_32 : decode cX1_remainder 32 = .ok (.iload 5, 2) := by decide +kernel
theorem dX1_remainder_34 : decode cX1_remainder 34 = .ok (.aload_n 0, 1) := by decide +kernel
theorem dX1_remainder_35 : decode cX1_remainder 35 = .ok (.getfield 21, 3) := by decide +kernel
theorem dX1_remainder_38 : decode cX1_remainder 38 = .ok (.iload_n 2, 1) := by decide +kernel
theorem dX1_remainder_39 : decode cX1_remainder 39 = .ok (.aaload, 1) := by decide +kernel
theorem dX1_remainder_40 : decode cX1_remainder 40 = .ok (.iload 6, 2) := by decide +kernel
theorem dX1_remainder_42 : decode cX1_remainder 42 = .ok (.iaload, 1) := by decide +kernel
theorem dX1_remainder_43 : decode cX1_remainder 43 = .ok (.invokevirtual 106, 3) := by decide +kernel
theorem dX1_remainder_46 : decode cX1_remainder 46 = .ok (.istore 5, 2) := by decide +kernel
theorem dX1_remainder_48 : decode cX1_remainder 48 = .ok (.iinc 6 1, 3) := by decide +kernel
theorem dX1_remainder_51 : decode cX1_remainder 51 = .ok (.goto (-27), 3) := by decide +kernel
theorem dX1_remainder_54 : decode cX1_remainder 54 = .ok (.iload 5, 2) := by decide +kernel
theorem dX1_remainder_56 : decode cX1_remainder 56 = .ok (.ireturn, 1) := by decide +kernel
theorem dX1_findModel_0 : decode cX1_findModel 0 = .ok (.iload_n 1, 1) := by decide +kernel
theorem dX1_findModel_1 : decode cX1_findModel 1 = .ok (.ifCond .lt 21, 3) := by decide +kernel
theorem dX1_findModel_4 : decode cX1_findModel 4 = .ok (.iload_n 1, 1) := by decide +kernel
theorem dX1_findModel_5 : decode cX1_findModel 5 = .ok (.aload_n 0, 1) := by decide +kernel
theorem dX1_findModel_6 : decode cX1_findModel 6 = .ok (.getfield 11, 3) := by decide +kernel
theorem dX1_findModel_9 : decode cX1_findModel 9 = .ok (.arraylength, 1) := by decide +kernel
theorem dX1_findModel_10 : decode cX1_findModel 10 = .ok (.if_icmp .ge 12, 3) := by decide +kernel
theorem dX1_findModel_13 : decode cX1_findModel 13 = .ok (.aload_n 0, 1) := by decide +kernel
theorem dX1_findModel_14 : decode cX1_findModel 14 = .ok (.getfield 11, 3) := by decide +kernel
theorem dX1_findModel_17 : decode cX1_findModel 17 = .ok (.iload_n 1, 1) := by decide +kernel
theorem dX1_findModel_18 : decode cX1_findModel 18 = .ok (.aaload, 1) := by decide +kernel
theorem dX1_findModel_19 : decode cX1_findModel 19 = .ok (.ifnonnull 13, 3) := by decide +kernel
theorem dX1_findModel_22 : decode cX1_findModel 22 = .ok (.new 101, 3) := by decide +kernel
theorem dX1_findModel_25 : decode cX1_findModel 25 = .ok (.dup, 1) := by decide +kernel
theorem dX1_findModel_26 : decode cX1_findModel 26 = .ok (.ldc 147, 2) := by decide +kernel
theorem dX1_findModel_28 : decode cX1_findModel 28 = .ok (.invokespecial 105, 3) := by decide +kernel
theorem dX1_findModel_31 : decode cX1_findModel 31 = .ok (.athrow, 1) := by decide +kernel
theorem dX1_findModel_32 : decode cX1_findModel 32 = .ok (.aload_n 0, 1) := by decide +kernel
theorem dX1_findModel_33 : decode cX1_findModel 33 = .ok (.getfield 11, 3) := by decide +kernel
theorem dX1_findModel_36 : decode cX1_findModel 36 = .ok (.iload_n 1, 1) := by decide +kernel
theorem dX1_findModel_37 : decode cX1_findModel 37 = .ok (.aaload, 1) := by decide +kernel
theorem dX1_findModel_38 : decode cX1_findModel 38 = .ok (.areturn, 1) := by decide +kernel
set_option maxRecDepth 20000 in
theorem ggX1_partSum_X0_takeByte : GoodIn wsX1_partSum wsX0_takeByte := goodIn_r _ [7, 8, 9, 10, 6, 11, 12, 13, 14, 15, 16, 17, 18, 19, 20, 21, 22, 23, 24, 25, 26, 27, 38, 39, 40, 41, 42, 43, 44, 45] (by decide +kernel) (by decide +kernel)
set_option maxRecDepth 20000 in
theorem gX1_partSum_X0_takeByte : GoodIn wsX1_partSum (wsV RX1 54 RX0 yX0_takeByte wsX0_takeByte) := goodIn_app (goodIn_of _ (by decide +kernel)) ggX1_partSum_X0_takeByte
set_option maxRecDepth 20000 in
theorem ggX1_partSum_X0_sumOfRegister : GoodIn wsX1_partSum wsX0_sumOfRegister := goodIn_r _ [31, 32, 33, 34, 35, 6, 36, 37, 20, 13, 14, 15, 38, 39, 40, 41, 42, 43, 44, 45] (by decide +kernel) (by decide +kernel)
set_option maxRecDepth 20000 in
theorem gX1_partSum_X0_sumOfRegister : GoodIn wsX1_partSum (wsV RX1 58 RX0 yX0_sumOfRegister wsX0_sumOfRegister) := goodIn_app (goodIn_of _ (by decide +kernel)) ggX1_partSum_X0_sumOfRegister
theorem dX1_partSum_0 : decode cX1_partSum 0 = .ok (.aload_n 1, 1) := by decide +kernel
theorem dX1_partSum_1 : decode cX1_partSum 1 = .ok (.getfield 51, 3) := by decide +kernel
theorem dX1_partSum_4 : decode cX1_partSum 4 = .ok (.istore 5, 2) := by decide +kernel
theorem dX1_partSum_6 : decode cX1_partSum 6 = .ok (.iload_n 3, 1) := by decide +kernel
theorem dX1_partSum_7 : decode cX1_partSum 7 = .ok (.istore 6, 2) := by decide +kernel
theorem dX1_partSum_9 : decode cX1_partSum 9 = .ok (.iload 6, 2) := by decide +kernel
theorem dX1_partSum_11 : decode cX1_partSum 11 = .ok (.iload 4, 2) := by decide +kernel
theorem dX1_partSum_13 : decode cX1_partSum 13 = .ok (.if_icmp .ge 26, 3) := by decide +kernel
theorem dX1_partSum_16 : decode cX1_partSum 16 = .ok (.aload_n 1, 1) := by decide +kernel
theorem dX1_partSum_17 : decode cX1_partSum 17 = .ok (.iload 5, 2) := by decide +kernel
theorem dX1_partSum_19 : decode cX1_partSum 19 = .ok (.aload_n 0, 1) := by decide +kernel
theorem dX1_partSum_20 : decode cX1_partSum 20 = .ok (.getfield 21, 3) := by decide +kernel
theorem dX1_partSum_23 : decode cX1_partSum 23 = .ok (.iload_n 2, 1) := by decide +kernel
theorem dX1_partSum_24 : decode cX1_partSum 24 = .ok (.aaload, 1) := by decide +kernel
theorem dX1_partSum_25 : decode cX1_partSum 25 = .ok (.iload 6, 2) := by decide +kernel
theorem dX1_partSum_27 : decode cX1_partSum 27 = .ok (.iaload, 1) := by decide +kernel
theorem dX1_partSum_28 : decode cX1_partSum 28 = .ok (.invokevirtual 54, 3) := by decide +kernel
theorem dX1_partSum_31 : decode cX1_partSum 31 = .ok (.istore 5, 2) := by decide +kernel
theorem dX1_partSum_33 : decode cX1_partSum 33 = .ok (.iinc 6 1, 3) := by decide +kernel
theorem dX1_partSum_36 : decode cX1_partSum 36 = .ok (.goto (-27), 3) := by decide +kernel
theorem dX1_partSum_39 : decode cX1_partSum 39 = .ok (.aload_n 1, 1) := by decide +kernel
theorem dX1_partSum_40 : decode cX1_partSum 40 = .ok (.iload 5, 2) := by decide +kernel
theorem dX1_partSum_42 : decode cX1_partSum 42 = .ok (.invokevirtual 58, 3) := by decide +kernel
theorem dX1_partSum_45 : decode cX1_partSum 45 = .ok (.ireturn, 1) := by decide +kernel
theorem dX1_requireRow_0 : decode cX1_requireRow 0 = .ok (.iload_n 0, 1) := by decide +kernel
theorem dX1_requireRow_1 : decode cX1_requireRow 1 = .ok (.ifCond .lt 8, 3) := by decide +kernel
theorem dX1_requireRow_4 : decode cX1_requireRow 4 = .ok (.iload_n 0, 1) := by decide +kernel
theorem dX1_requireRow_5 : decode cX1_requireRow 5 = .ok (.iconst 4, 1) := by decide +kernel
theorem dX1_requireRow_6 : decode cX1_requireRow 6 = .ok (.if_icmp .lt 13, 3) := by decide +kernel
theorem dX1_requireRow_9 : decode cX1_requireRow 9 = .ok (.new 101, 3) := by decide +kernel
theorem dX1_requireRow_12 : decode cX1_requireRow 12 = .ok (.dup, 1) := by decide +kernel
theorem dX1_requireRow_13 : decode cX1_requireRow 13 = .ok (.ldc 149, 2) := by decide +kernel
theorem dX1_requireRow_15 : decode cX1_requireRow 15 = .ok (.invokespecial 105, 3) := by decide +kernel
theorem dX1_requireRow_18 : decode cX1_requireRow 18 = .ok (.athrow, 1) := by decide +kernel
theorem dX1_requireRow_19 : decode cX1_requireRow 19 = .ok (.return_, 1) := by decide +kernel
theorem dX1_requireIndex_0 : decode cX1_requireIndex 0 = .ok (.iload_n 2, 1) := by decide +kernel
theorem dX1_requireIndex_1 : decode cX1_requireIndex 1 = .ok (.ifCond .lt 13, 3) := by decide +kernel
theorem dX1_requireIndex_4 : decode cX1_requireIndex 4 = .ok (.iload_n 2, 1) := by decide +kernel
theorem dX1_requireIndex_5 : decode cX1_requireIndex 5 = .ok (.aload_n 0, 1) := by decide +kernel
theorem dX1_requireIndex_6 : decode cX1_requireIndex 6 = .ok (.getfield 24, 3) := by decide +kernel
theorem dX1_requireIndex_9 : decode cX1_requireIndex 9 = .ok (.iload_n 1, 1) := by decide +kernel
theorem dX1_requireIndex_10 : decode cX1_requireIndex 10 = .ok (.iaload, 1) := by decide +kernel
theorem dX1_requireIndex_11 : decode cX1_requireIndex 11 = .ok (.if_icmp .lt 13, 3) := by decide +kernel
theorem dX1_requireIndex_14 : decode cX1_requireIndex 14 = .ok (.new 101, 3) := by decide +kernel
theorem dX1_requireIndex_17 : decode cX1_requireIndex 17 = .ok (.dup, 1) := by decide +kernel
theorem dX1_requireIndex_18 : decode cX1_requireIndex 18 = .ok (.ldc 151, 2) := by decide +kernel
theorem dX1_requireIndex_20 : decode cX1_requireIndex 20 = .ok (.invokespecial 105, 3) := by decide +kernel
theorem dX1_requireIndex_23 : decode cX1_requireIndex 23 = .ok (.athrow, 1) := by decide +kernel
theorem dX1_requireIndex_24 : decode cX1_requireIndex 24 = .ok (.return_, 1) := by decide +kernel
theorem dX1_requireRoom_0 : decode cX1_requireRoom 0 = .ok (.iload_n 2, 1) := by decide +kernel
theorem dX1_requireRoom_1 : decode cX1_requireRoom 1 = .ok (.sipush 256, 3) := by decide +kernel
theorem dX1_requireRoom_4 : decode cX1_requireRoom 4 = .ok (.aload_n 0, 1) := by decide +kernel
theorem dX1_requireRoom_5 : decode cX1_requireRoom 5 = .ok (.getfield 24, 3) := by decide +kernel
theorem dX1_requireRoom_8 : decode cX1_requireRoom 8 = .ok (.iload_n 1, 1) := by decide +kernel
theorem dX1_requireRoom_9 : decode cX1_requireRoom 9 = .ok (.iaload, 1) := by decide +kernel
theorem dX1_requireRoom_10 : decode cX1_requireRoom 10 = .ok (.isub, 1) := by decide +kernel
theorem dX1_requireRoom_11 : decode cX1_requireRoom 11 = .ok (.if_icmp .le 13, 3) := by decide +kernel
theorem dX1_requireRoom_14 : decode cX1_requireRoom 14 = .ok (.new 39, 3) := by decide +kernel
theorem dX1_requireRoom_17 : decode cX1_requireRoom 17 = .ok (.dup, 1) := by decide +kernel
theorem dX1_requireRoom_18 : decode cX1_requireRoom 18 = .ok (.ldc 153, 2) := by decide +kernel
theorem dX1_requireRoom_20 : decode cX1_requireRoom 20 = .ok (.invokespecial 43, 3) := by decide +kernel
theorem dX1_requireRoom_23 : decode cX1_requireRoom 23 = .ok (.athrow, 1) := by decide +kernel
theorem dX1_requireRoom_24 : decode cX1_requireRoom 24 = .ok (.return_, 1) := by decide +kernel
theorem dX1_requireByte_0 : decode cX1_requireByte 0 = .ok (.iload_n 0, 1) := by decide +kernel
theorem dX1_requireByte_1 : decode cX1_requireByte 1 = .ok (.ifCond .lt 10, 3) := by decide +kernel
theorem dX1_requireByte_4 : decode cX1_requireByte 4 = .ok (.iload_n 0, 1) := by decide +kernel
theorem dX1_requireByte_5 : decode cX1_requireByte 5 = .ok (.sipush 255, 3) := by decide +kernel
theorem dX1_requireByte_8 : decode cX1_requireByte 8 = .ok (.if_icmp .le 13, 3) := by decide +kernel
theorem dX1_requireByte_11 : decode cX1_requireByte 11 = .ok (.new 28, 3) := by decide +kernel
theorem dX1_requireByte_14 : decode cX1_requireByte 14 = .ok (.dup, 1) := by decide +kernel
theorem dX1_requireByte_15 : decode cX1_requireByte 15 = .ok (.ldc 155, 2) := by decide +kernel
theorem dX1_requireByte_17 : decode cX1_requireByte 17 = .ok (.invokespecial 32, 3) := by decide +kernel
theorem dX1_requireByte_20 : decode cX1_requireByte 20 = .ok (.athrow, 1) := by decide +kernel
theorem dX1_requireByte_21 : decode cX1_requireByte 21 = .ok (.return_, 1) := by decide +kernel
theorem dX1_requireNumber_0 : decode cX1_requireNumber 0 = .ok (.iload_n 0, 1) := by decide +kernel
theorem dX1_requireNumber_1 : decode cX1_requireNumber 1 = .ok (.bipush 32, 2) := by decide +kernel
theorem dX1_requireNumber_3 : decode cX1_requireNumber 3 = .ok (.if_icmp .ge 19, 3) := by decide +kernel
theorem dX1_requireNumber_6 : decode cX1_requireNumber 6 = .ok (.iload_n 1, 1) := by decide +kernel
theorem dX1_requireNumber_7 : decode cX1_requireNumber 7 = .ok (.iload_n 0, 1) := by decide +kernel
theorem dX1_requireNumber_8 : decode cX1_requireNumber 8 = .ok (.iushr, 1) := by decide +kernel
theorem dX1_requireNumber_9 : decode cX1_requireNumber 9 = .ok (.ifCond .eq 13, 3) := by decide +kernel
theorem dX1_requireNumber_12 : decode cX1_requireNumber 12 = .ok (.new 28, 3) := by decide +kernel
theorem dX1_requireNumber_15 : decode cX1_requireNumber 15 = .ok (.dup, 1) := by decide +kernel
theorem dX1_requireNumber_16 : decode cX1_requireNumber 16 = .ok (.ldc 159, 2) := by decide +kernel
theorem dX1_requireNumber_18 : decode cX1_requireNumber 18 = .ok (.invokespecial 32, 3) := by decide +kernel
theorem dX1_requireNumber_21 : decode cX1_requireNumber 21 = .ok (.athrow, 1) := by decide +kernel
theorem dX1_requireNumber_22 : decode cX1_requireNumber 22 = .ok (.return_, 1) := by decide +kernel
end
section
/-! the laboratory's world -/
def cs_L (S : cs_St) (ad : Nat → Nat) (cy : Nat → ClassId) : va_W := [
  (ad 0, .inr (1, [.ref (ad 1), .int (nI (cs_n S)), .ref (ad 2), .ref (ad 3)])),
  (ad 1, .inl (cy 3, 6, .inr (.inr (.inr (.inr (fun j => if j < cs_n S then some (ad (8 + j)) else none)))))),
  (ad 2, .inl (cy 4, 4, .inr (.inr (.inr (.inr (fun j => if j < 4 then some (ad (4 + j)) else none)))))),
  (ad 3, .inl (cy 0, 4, .inl (fun j => nI (cs_ln S j)))),
  (ad 4, .inl (cy 0, 256, .inl (fun j => nI (cs_by S 0 j)))),
  (ad 5, .inl (cy 0, 256, .inl (fun j => nI (cs_by S 1 j)))),
  (ad 6, .inl (cy 0, 256, .inl (fun j => nI (cs_by S 2 j)))),
  (ad 7, .inl (cy 0, 256, .inl (fun j => nI (cs_by S 3 j))))] ++
  (List.range (cs_n S)).map (fun k => (ad (8 + k), .inr (0, cs_F (cs_w S k) (cs_p S k) (cs_i S k) (cs_ri S k) (cs_ro S k) (cs_x S k))))
section CSL
variable {S : cs_St} {ad : Nat → Nat} {cy : Nat → ClassId} {r k : Nat}
theorem cs_L0 : (cs_L S ad cy)[0]? = some (ad 0, .inr (1, [.ref (ad 1), .int (nI (cs_n S)), .ref (ad 2), .ref (ad 3)])) := rfl
theorem cs_L1 : (cs_L S ad cy)[1]? = some (ad 1, .inl (cy 3, 6, .inr (.inr (.inr (.inr (fun j => if j < cs_n S then some (ad (8 + j)) else none)))))) := rfl
theorem cs_L2 : (cs_L S ad cy)[2]? = some (ad 2, .inl (cy 4, 4, .inr (.inr (.inr (.inr (fun j => if j < 4 then some (ad (4 + j)) else none)))))) := rfl
theorem cs_L3 : (cs_L S ad cy)[3]? = some (ad 3, .inl (cy 0, 4, .inl (fun j => nI (cs_ln S j)))) := rfl
theorem cs_Lr (hr : r < 4) : (cs_L S ad cy)[4 + r]? = some (ad (4 + r), .inl (cy 0, 256, .inl (fun j => nI (cs_by S r j)))) := by
  rcases (show r = 0 ∨ r = 1 ∨ r = 2 ∨ r = 3 by omega) with rfl | rfl | rfl | rfl <;> rfl
theorem cs_Lm (hk : k < cs_n S) : (cs_L S ad cy)[8 + k]? = some (ad (8 + k), .inr (0, cs_F (cs_w S k) (cs_p S k) (cs_i S k) (cs_ri S k) (cs_ro S k) (cs_x S k))) := by
  unfold cs_L
  rw [List.getElem?_append_right (by simp), List.getElem?_map]
  have e : 8 + k - ([
    (ad 0, .inr (1, [.ref (ad 1), .int (nI (cs_n S)), .ref (ad 2), .ref (ad 3)])),
    (ad 1, .inl (cy 3, 6, .inr (.inr (.inr (.inr (fun j => if j < cs_n S then some (ad (8 + j)) else none)))))),
    (ad 2, .inl (cy 4, 4, .inr (.inr (.inr (.inr (fun j => if j < 4 then some (ad (4 + j)) else none)))))),
    (ad 3, .inl (cy 0, 4, .inl (fun j => nI (cs_ln S j)))),
    (ad 4, .inl (cy 0, 256, .inl (fun j => nI (cs_by S 0 j)))),
    (ad 5, .inl (cy 0, 256, .inl (fun j => nI (cs_by S 1 j)))),
    (ad 6, .inl (cy 0, 256, .inl (fun j => nI (cs_by S 2 j)))),
    (ad 7, .inl (cy 0, 256, .inl (fun j => nI (cs_by S 3 j))))] : va_W).length = k := by
    show 8 + k - 8 = k
    omega
  rw [e, List.getElem?_range hk]
  rfl
theorem cs_LsetR {j0 b : Nat} (hr : r < 4) : (cs_L S ad cy).set (4 + r) (ad (4 + r), .inl (cy 0, 256, .inl (upd (fun j => nI (cs_by S r j)) j0 (nI b)))) = cs_L (cs_put S r (cs_ln S r) (va_up (cs_by S r) j0 b)) ad cy := by
  have e2 : cs_ln (cs_put S r (cs_ln S r) (va_up (cs_by S r) j0 b)) = cs_ln S := cs_upid _ _
  rw [cs_upN]
  unfold cs_L
  rw [e2]
  rcases (show r = 0 ∨ r = 1 ∨ r = 2 ∨ r = 3 by omega) with rfl | rfl | rfl | rfl <;> rfl
theorem cs_LsetL {l : Nat} : (cs_L S ad cy).set 3 (ad 3, .inl (cy 0, 4, .inl (upd (fun j => nI (cs_ln S j)) r (nI l)))) = cs_L (cs_put S r l (cs_by S r)) ad cy := by
  have e2 : cs_by (cs_put S r l (cs_by S r)) = cs_by S := cs_upid _ _
  rw [cs_upN]
  unfold cs_L
  rw [e2]
  rfl
end CSL
section CSV
variable {p : Program} {l : Launch} {e : Env} {R : Room} {s : State} {m : MethodId} {args : Array Value} {below : List Frame} {meth : Method} {c : Code} {H : Heap} {locs : List Loc} {cells slots : Nat} {Q : State → Prop} {pc : Nat} {ls : Array Slot} {rest : List Value}
theorem cs_topv {x y : Value} (h : x = y) (k : W p l e R s m args below meth c H locs cells slots Q (F0 m pc ls (y :: rest))) : W p l e R s m args below meth c H locs cells slots Q (F0 m pc ls (x :: rest)) := by subst h; exact k
end CSV
def cs_bad (E0 : String) (b : Bool) : String → Prop := fun E => E = E0 ∧ b = false
/-- the exception that goes with its number -/
def cs_E (k : Int32) (a b c : String) : String → Prop := fun E => (k = 1 ∧ E = a) ∨ (k = 2 ∧ E = b) ∨ (k = 3 ∧ E = c)
theorem cs_serA {a b i : Nat} (ha : a < 256) (hb : b < 256) (hi : i < 256) : (nI a + nI i * nI b) &&& 255 = nI ((a + b * i) % 256) := by
  have h : i * b ≤ 255 * 255 := Nat.mul_le_mul (by omega) (by omega)
  rw [pk_mul, nI_add, Nat.mul_comm b i]
  exact pk_andN (n := a + i * b) (by omega) 8 (by decide)
theorem cs_room {l c : Nat} (hl : l ≤ 256) (hc : c ≤ 256) : nI c ≤ 256 - nI l ↔ l + c ≤ 256 := by
  have e : (256 : Int32) - nI l = nI (256 - l) := pk_sub hl
  rw [e, nI_leI (by omega) (by omega)]
  omega
end
section
/-! numbers: the long remainder by 65521, shifts, indexes -/
theorem cs_rm5 (x : Int64) : (cs_remL x 65521).toInt = x.toInt.tmod 65521 := by
  have e : (65521 : Int64).toInt = 65521 := by decide
  have hq : (x / 65521).toInt = x.toInt.tdiv 65521 := by
    have := Int64.toInt_div_of_ne_right x 65521 (by decide)
    rw [this, e]
  have h1 := x.toInt_lt
  have h2 := x.le_toInt
  have hm := Int.tmod_add_mul_tdiv x.toInt 65521
  have hlt : (x.toInt.tmod 65521).natAbs < 65521 := by
    rw [Int.natAbs_tmod]
    exact Nat.mod_lt _ (by decide)
  unfold cs_remL
  rw [Int64.toInt_sub, Int64.toInt_mul, hq, e]
  rw [show x.toInt.tdiv 65521 * 65521 = x.toInt - x.toInt.tmod 65521 by omega]
  rw [Int.sub_bmod_bmod]
  rw [show x.toInt - (x.toInt - x.toInt.tmod 65521) = x.toInt.tmod 65521 by omega]
  exact Int.bmod_eq_of_le (by omega) (by omega)
theorem cs_xs5 (x : Int64) : x ^^^ 65521 < 0 ↔ x < 0 := by
  rw [Int64.lt_iff_toInt_lt, Int64.lt_iff_toInt_lt]
  have e0 : (0 : Int64).toInt = 0 := by decide
  rw [e0, ← Int64.toInt_toBitVec, ← Int64.toInt_toBitVec, Int64.toBitVec_xor]
  have h1 := BitVec.toInt_neg_iff (x := x.toBitVec)
  have h2 := BitVec.toInt_neg_iff (x := x.toBitVec ^^^ (65521 : Int64).toBitVec)
  have h3 := BitVec.msb_eq_true_iff_two_mul_ge (x := x.toBitVec)
  have h4 := BitVec.msb_eq_true_iff_two_mul_ge (x := x.toBitVec ^^^ (65521 : Int64).toBitVec)
  have h5 : (x.toBitVec ^^^ (65521 : Int64).toBitVec).msb = x.toBitVec.msb := by
    rw [BitVec.msb_xor, show (65521 : Int64).toBitVec.msb = false by decide, Bool.xor_false]
  rw [h5] at h4
  rw [h1, h2]
  exact h4.symm.trans h3
theorem cs_fm0 {x : Int64} (h : 0 ≤ lg_cmp (x ^^^ 65521) 0) : cs_remL x 65521 = cs_fm x 65521 := by
  have h1 := (lg_cmp_ge _ _).mp h
  have h2 : ¬ x < 0 := fun z => absurd ((cs_xs5 x).mpr z) (Int64.not_lt.mpr h1)
  unfold cs_fm
  rw [if_neg]
  intro z
  apply h2
  rw [Int64.lt_iff_toInt_lt] at z ⊢
  have e0 : (0 : Int64).toInt = 0 := by decide
  rw [cs_rm5, e0] at z
  rw [e0]
  rcases Int.lt_or_le x.toInt 0 with h | h
  · exact h
  · have := Int.tmod_nonneg (a := x.toInt) 65521 h
    omega
theorem cs_fm1 {x : Int64} (h : lg_cmp (cs_remL x 65521) 0 = 0) : cs_remL x 65521 = cs_fm x 65521 := by
  have h1 := (lg_cmp_eq _ _).mp h
  unfold cs_fm
  rw [if_neg]
  rw [h1]
  decide
theorem cs_fm2 {x : Int64} (h : ¬ 0 ≤ lg_cmp (x ^^^ 65521) 0) (h0 : ¬ lg_cmp (cs_remL x 65521) 0 = 0) : cs_remL x 65521 + 65521 = cs_fm x 65521 := by
  have h1 : ¬ (0 : Int64) ≤ x ^^^ 65521 := fun z => h ((lg_cmp_ge _ _).mpr z)
  have h2 : x < 0 := (cs_xs5 x).mp (Int64.not_le.mp h1)
  have h3 : ¬ cs_remL x 65521 = 0 := fun z => h0 ((lg_cmp_eq _ _).mpr z)
  unfold cs_fm
  rw [if_pos]
  rw [Int64.lt_iff_toInt_lt] at h2 ⊢
  have e0 : (0 : Int64).toInt = 0 := by decide
  rw [e0] at h2 ⊢
  have h4 : ¬ (cs_remL x 65521).toInt = 0 := fun z => h3 (Int64.toInt_inj.mp (by rw [z, e0]))
  rw [cs_rm5] at h4 ⊢
  have h5 := Int.neg_tmod x.toInt 65521
  have h6 := Int.tmod_nonneg (a := -x.toInt) 65521 (by omega)
  omega
theorem cs_sh16 (x : Int32) : x <<< ((16 : Int32) &&& 31) = 65536 * x := by
  apply Int32.toBitVec_inj.mp
  rw [Int32.toBitVec_shiftLeft, Int32.toBitVec_mul]
  have e : (((16 : Int32) &&& 31).toBitVec.smod 32) = 16#32 := by decide
  have e2 : (65536 : Int32).toBitVec = BitVec.twoPow 32 16 := by decide
  rw [e, e2, BitVec.mul_comm, ← BitVec.shiftLeft_eq_mul_twoPow]
  rfl
theorem cs_adE (x y : Int64) : ((cs_fm y 65521).toInt32 <<< ((16 : Int32) &&& 31)) + (cs_fm x 65521).toInt32 = cs_ad x y := by
  rw [cs_sh16]; rfl
theorem cs_pl1 {l : Nat} (hl : l ≤ 256) {v : Int32} (h1 : ¬ v < 0) (h2 : v < nI l) : cs_in v 0 (nI l - 1) = true := by
  have h3 := Int32.lt_iff_toInt_lt.mp h2
  have h4 := Int32.le_iff_toInt_le.mp (Int32.not_lt.mp h1)
  have e0 : (0 : Int32).toInt = 0 := by decide
  rw [nI_toInt (by omega)] at h3
  rw [e0] at h4
  obtain ⟨n, rfl⟩ : ∃ n, l = n + 1 := ⟨l - 1, by omega⟩
  rw [nI_pred]
  refine cs_inT (Int32.not_lt.mp h1) ?_
  rw [Int32.le_iff_toInt_le, nI_toInt (by omega)]
  omega
theorem cs_pl0 {l : Nat} (hl : l ≤ 256) {v : Int32} (h2 : ¬ v < nI l) : cs_in v 0 (nI l - 1) = false := by
  have h3 := Int32.le_iff_toInt_le.mp (Int32.not_lt.mp h2)
  rw [nI_toInt (by omega)] at h3
  refine cs_inF2 (fun z => ?_)
  have h4 := Int32.le_iff_toInt_le.mp z
  rcases Nat.eq_zero_or_pos l with h0 | h0
  · subst h0
    have e : (nI 0 - 1).toInt = -1 := by decide
    rw [e] at h4
    omega
  · obtain ⟨n, rfl⟩ : ∃ n, l = n + 1 := ⟨l - 1, by omega⟩
    rw [nI_pred, nI_toInt (by omega)] at h4
    omega
theorem cs_M6 {S : cs_St} (h6 : cs_n S ≤ 6) {v : Int32} (h : (6 : Int32) ≤ v) : cs_M S v = false := cs_pl0 (by omega) (fun z => by
  have h1 := Int32.lt_iff_toInt_lt.mp z
  have h2 := Int32.le_iff_toInt_le.mp h
  have e : (6 : Int32).toInt = 6 := by decide
  rw [nI_toInt (by omega)] at h1
  omega)
theorem cs_ix6 {v : Int32} (h1 : ¬ v < 0) (h2 : ¬ (6 : Int32) ≤ v) : ∃ k, k < 6 ∧ v = nI k := by
  rcases pk_ix v (n := 6) (by decide) with h | h | h
  · exact absurd h h1
  · exact absurd h h2
  · exact h
theorem cs_Mn {S : cs_St} (h6 : cs_n S ≤ 6) {k : Nat} (hk6 : k < 6) (hk : ¬ k < cs_n S) : cs_M S (nI k) = false := cs_pl0 (by omega) (fun z => by
  have h1 := Int32.lt_iff_toInt_lt.mp z
  rw [nI_toInt (by omega), nI_toInt (by omega)] at h1
  omega)
theorem cs_k1_1 {b : Bool} (h : b = false) : cs_k1 b = 1 := by rw [h]; rfl
theorem cs_k2_1 {b c : Bool} (h : b = false) : cs_k2 b c = 1 := by rw [h]; rfl
theorem cs_k2_2 {b c : Bool} (h1 : b = true) (h : c = false) : cs_k2 b c = 2 := by rw [h1, h]; rfl
end
section
theorem cs_lt4 {v : Int32} (h : v < 4) : v ≤ 3 := by
  rw [Int32.lt_iff_toInt_lt] at h
  rw [Int32.le_iff_toInt_le]
  have e4 : (4 : Int32).toInt = 4 := by decide
  have e3 : (3 : Int32).toInt = 3 := by decide
  omega
theorem cs_le3 {v : Int32} (h : v ≤ 3) : v < 4 := by
  rw [Int32.le_iff_toInt_le] at h
  rw [Int32.lt_iff_toInt_lt]
  have e4 : (4 : Int32).toInt = 4 := by decide
  have e3 : (3 : Int32).toInt = 3 := by decide
  omega
set_option maxHeartbeats 4000000 in
set_option maxRecDepth 100000 in
theorem k_X1_requireRow (l : Launch) (hlf : l.stackTraces = false) (D : va_G) (S : cs_St) (ad : Nat → Nat) (cy : Nat → ClassId) (v : Int32) : cs_Xv l yX1_requireRow wsX1_requireRow ({ frames := 6, cells := 1, slots := 6, locals := 82 }) D (cs_tys cy) [] [.int v] (cs_in v 0 3 = true) (cs_bad cs_IOB (cs_in v 0 3)) 1 6 := by
  refine vx_ofW (cc := cX1_requireRow) (maxL := 1) (ret := none) (by decide) rfl ?_
  intro pg e s m args below meth c s₁ B hml hout hv
  obtain ⟨rfl, hE, hz, hP, hK⟩ := hv
  have hx := B.exec
  have hb := B.bytes
  have hr := B.returns
  have hts := atoms_spec (ws := wsX1_requireRow) B.pre
  have hown : s.vm.findClass RX1 = some m.cls := findClass_of_methodNamed B.named
  have hlocks := B.notSynchronized
  have hl := lv_entry ([.int v]) (n := 1) (Nat.le_of_ble_eq_true rfl)
  rw [lg_entry_eq]
  generalize (lg_sl ([.int v]) ++ List.replicate (1 - (lg_sl ([.int v])).length) Slot.unset).toArray = ls at hl ⊢
  have hl : lv_has ls 1 [(0, .int v)] := hl
  refine lv_iload_n hx hb dX1_requireRow_0 rfl (lv_at hl 0 rfl) ?_
  refine lv_if_lt (tgt := 9) hx hb dX1_requireRow_1 (by decide) (fun c_1 => ?_) (fun c_1 => ?_)
  · exact cs_throw (cls := cs_IOB) (text := "no such row") hx hb hlf hown hts (by decide +kernel) cs_at3 hE hE.2.1.2.2.1 cs_ot3 (fun _ h => by unfold wsX1_requireRow; exact List.mem_cons_of_mem _ (List.mem_append_right _ (h))) (by decide +kernel) (by decide +kernel) (hE.2.2 (149, "no such row") (by decide +kernel)) hz (hl.1.trans hml.symm) dX1_requireRow_9 dX1_requireRow_12 dX1_requireRow_13 dX1_requireRow_15 dX1_requireRow_18 hout (Nat.le_of_ble_eq_true rfl) (Nat.le_of_ble_eq_true rfl) (Nat.le_of_ble_eq_true rfl) (Nat.le_of_ble_eq_true rfl) hlocks (⟨rfl, cs_inF1 (Int32.not_le.mpr c_1)⟩) (Nat.le_of_ble_eq_true rfl) (Nat.le_of_ble_eq_true rfl)
  · refine lv_iload_n hx hb dX1_requireRow_4 rfl (lv_at hl 0 rfl) ?_
    refine lv_iconst (v := 4) hx hb dX1_requireRow_5 (by decide) ?_
    refine lv_icmp_lt (tgt := 19) hx hb dX1_requireRow_6 (by decide) (fun c_6 => ?_) (fun c_6 => ?_)
    · refine W.widen (k := 1) (n := 6) (Nat.le_of_ble_eq_true rfl) (Nat.le_of_ble_eq_true rfl) ?_
      exact vx_ret (W.vret hx hb hr (fun t ht _ => ⟨rfl, cs_inT (Int32.not_lt.mp c_1) (cs_lt4 c_6), ht⟩) (fun q h => by cases h) dX1_requireRow_19)
    · exact cs_throw (cls := cs_IOB) (text := "no such row") hx hb hlf hown hts (by decide +kernel) cs_at3 hE hE.2.1.2.2.1 cs_ot3 (fun _ h => by unfold wsX1_requireRow; exact List.mem_cons_of_mem _ (List.mem_append_right _ (h))) (by decide +kernel) (by decide +kernel) (hE.2.2 (149, "no such row") (by decide +kernel)) hz (hl.1.trans hml.symm) dX1_requireRow_9 dX1_requireRow_12 dX1_requireRow_13 dX1_requireRow_15 dX1_requireRow_18 hout (Nat.le_of_ble_eq_true rfl) (Nat.le_of_ble_eq_true rfl) (Nat.le_of_ble_eq_true rfl) (Nat.le_of_ble_eq_true rfl) hlocks (⟨rfl, cs_inF2 (fun z => c_6 (cs_le3 z))⟩) (Nat.le_of_ble_eq_true rfl) (Nat.le_of_ble_eq_true rfl)
set_option maxHeartbeats 4000000 in
set_option maxRecDepth 100000 in
theorem k_X1_requireByte (l : Launch) (hlf : l.stackTraces = false) (D : va_G) (S : cs_St) (ad : Nat → Nat) (cy : Nat → ClassId) (v : Int32) : cs_Xv l yX1_requireByte wsX1_requireByte ({ frames := 6, cells := 1, slots := 6, locals := 82 }) D (cs_tys cy) [] [.int v] (cs_in v 0 255 = true) (cs_bad cs_IAE (cs_in v 0 255)) 1 6 := by
  refine vx_ofW (cc := cX1_requireByte) (maxL := 1) (ret := none) (by decide) rfl ?_
  intro pg e s m args below meth c s₁ B hml hout hv
  obtain ⟨rfl, hE, hz, hP, hK⟩ := hv
  have hx := B.exec
  have hb := B.bytes
  have hr := B.returns
  have hts := atoms_spec (ws := wsX1_requireByte) B.pre
  have hown : s.vm.findClass RX1 = some m.cls := findClass_of_methodNamed B.named
  have hlocks := B.notSynchronized
  have hl := lv_entry ([.int v]) (n := 1) (Nat.le_of_ble_eq_true rfl)
  rw [lg_entry_eq]
  generalize (lg_sl ([.int v]) ++ List.replicate (1 - (lg_sl ([.int v])).length) Slot.unset).toArray = ls at hl ⊢
  have hl : lv_has ls 1 [(0, .int v)] := hl
  refine lv_iload_n hx hb dX1_requireByte_0 rfl (lv_at hl 0 rfl) ?_
  refine lv_if_lt (tgt := 11) hx hb dX1_requireByte_1 (by decide) (fun c_1 => ?_) (fun c_1 => ?_)
  · exact cs_throw (cls := cs_IAE) (text := "not a byte") hx hb hlf hown hts (by decide +kernel) cs_at1 hE hE.2.1.1 cs_ot1 (fun _ h => by unfold wsX1_requireByte; exact List.mem_cons_of_mem _ (List.mem_append_right _ (h))) (by decide +kernel) (by decide +kernel) (hE.2.2 (155, "not a byte") (by decide +kernel)) hz (hl.1.trans hml.symm) dX1_requireByte_11 dX1_requireByte_14 dX1_requireByte_15 dX1_requireByte_17 dX1_requireByte_20 hout (Nat.le_of_ble_eq_true rfl) (Nat.le_of_ble_eq_true rfl) (Nat.le_of_ble_eq_true rfl) (Nat.le_of_ble_eq_true rfl) hlocks (⟨rfl, cs_inF1 (Int32.not_le.mpr c_1)⟩) (Nat.le_of_ble_eq_true rfl) (Nat.le_of_ble_eq_true rfl)
  · refine lv_iload_n hx hb dX1_requireByte_4 rfl (lv_at hl 0 rfl) ?_
    refine lv_sipush (v := 255) hx hb dX1_requireByte_5 (by decide) ?_
    refine lv_icmp_le (tgt := 21) hx hb dX1_requireByte_8 (by decide) (fun c_8 => ?_) (fun c_8 => ?_)
    · refine W.widen (k := 1) (n := 6) (Nat.le_of_ble_eq_true rfl) (Nat.le_of_ble_eq_true rfl) ?_
      exact vx_ret (W.vret hx hb hr (fun t ht _ => ⟨rfl, cs_inT (Int32.not_lt.mp c_1) c_8, ht⟩) (fun q h => by cases h) dX1_requireByte_21)
    · exact cs_throw (cls := cs_IAE) (text := "not a byte") hx hb hlf hown hts (by decide +kernel) cs_at1 hE hE.2.1.1 cs_ot1 (fun _ h => by unfold wsX1_requireByte; exact List.mem_cons_of_mem _ (List.mem_append_right _ (h))) (by decide +kernel) (by decide +kernel) (hE.2.2 (155, "not a byte") (by decide +kernel)) hz (hl.1.trans hml.symm) dX1_requireByte_11 dX1_requireByte_14 dX1_requireByte_15 dX1_requireByte_17 dX1_requireByte_20 hout (Nat.le_of_ble_eq_true rfl) (Nat.le_of_ble_eq_true rfl) (Nat.le_of_ble_eq_true rfl) (Nat.le_of_ble_eq_true rfl) hlocks (⟨rfl, cs_inF2 c_8⟩) (Nat.le_of_ble_eq_true rfl) (Nat.le_of_ble_eq_true rfl)
theorem cs_is32 {w : Nat} (hw : w ≤ 32) (h : (32 : Int32) ≤ nI w) : nI w = 32 := by
  have := (nI_leI (a := 32) (by decide) (by omega)).mp h
  have e : w = 32 := by omega
  rw [e]; rfl
set_option maxHeartbeats 4000000 in
set_option maxRecDepth 100000 in
theorem k_X1_requireNumber (l : Launch) (hlf : l.stackTraces = false) (D : va_G) (S : cs_St) (ad : Nat → Nat) (cy : Nat → ClassId) (wd : Nat) (hwd : wd ≤ 32) (v : Int32) : cs_Xv l yX1_requireNumber wsX1_requireNumber ({ frames := 6, cells := 1, slots := 6, locals := 82 }) D (cs_tys cy) [] [.int (nI wd), .int v] (cs_nb v (nI wd) = true) (cs_bad cs_IAE (cs_nb v (nI wd))) 1 6 := by
  refine vx_ofW (cc := cX1_requireNumber) (maxL := 2) (ret := none) (by decide) rfl ?_
  intro pg e s m args below meth c s₁ B hml hout hv
  obtain ⟨rfl, hE, hz, hP, hK⟩ := hv
  have hx := B.exec
  have hb := B.bytes
  have hr := B.returns
  have hts := atoms_spec (ws := wsX1_requireNumber) B.pre
  have hown : s.vm.findClass RX1 = some m.cls := findClass_of_methodNamed B.named
  have hlocks := B.notSynchronized
  have hl := lv_entry ([.int (nI wd), .int v]) (n := 2) (Nat.le_of_ble_eq_true rfl)
  rw [lg_entry_eq]
  generalize (lg_sl ([.int (nI wd), .int v]) ++ List.replicate (2 - (lg_sl ([.int (nI wd), .int v])).length) Slot.unset).toArray = ls at hl ⊢
  have hl : lv_has ls 2 [(0, .int (nI wd)), (1, .int v)] := hl
  refine lv_iload_n hx hb dX1_requireNumber_0 rfl (lv_at hl 0 rfl) ?_
  refine lv_bipush (v := 32) hx hb dX1_requireNumber_1 (by decide) ?_
  refine lv_icmp_ge (tgt := 22) hx hb dX1_requireNumber_3 (by decide) (fun c_3 => ?_) (fun c_3 => ?_)
  · refine W.widen (k := 1) (n := 6) (Nat.le_of_ble_eq_true rfl) (Nat.le_of_ble_eq_true rfl) ?_
    exact vx_ret (W.vret hx hb hr (fun t ht _ => ⟨rfl, by unfold cs_nb; rw [decide_eq_true (cs_is32 hwd c_3)]; rfl, ht⟩) (fun q h => by cases h) dX1_requireNumber_22)
  · refine lv_iload_n hx hb dX1_requireNumber_6 rfl (lv_at hl 1 rfl) ?_
    refine lv_iload_n hx hb dX1_requireNumber_7 rfl (lv_at hl 0 rfl) ?_
    refine lv_iushr (v := cs_ur v (nI wd)) hx hb dX1_requireNumber_8 rfl ?_
    refine lv_if_eq (tgt := 22) hx hb dX1_requireNumber_9 (by decide) (fun c_9 => ?_) (fun c_9 => ?_)
    · refine W.widen (k := 1) (n := 6) (Nat.le_of_ble_eq_true rfl) (Nat.le_of_ble_eq_true rfl) ?_
      exact vx_ret (W.vret hx hb hr (fun t ht _ => ⟨rfl, by unfold cs_nb; rw [decide_eq_true c_9, Bool.or_true], ht⟩) (fun q h => by cases h) dX1_requireNumber_22)
    · exact cs_throw (cls := cs_IAE) (text := "not a number with w bits") hx hb hlf hown hts (by decide +kernel) cs_at1 hE hE.2.1.1 cs_ot1 (fun _ h => by unfold wsX1_requireNumber; exact List.mem_cons_of_mem _ (List.mem_append_right _ (h))) (by decide +kernel) (by decide +kernel) (hE.2.2 (159, "not a number with w bits") (by decide +kernel)) hz (hl.1.trans hml.symm) dX1_requireNumber_12 dX1_requireNumber_15 dX1_requireNumber_16 dX1_requireNumber_18 dX1_requireNumber_21 hout (Nat.le_of_ble_eq_true rfl) (Nat.le_of_ble_eq_true rfl) (Nat.le_of_ble_eq_true rfl) (Nat.le_of_ble_eq_true rfl) hlocks (⟨rfl, by unfold cs_nb; rw [decide_eq_false c_9, decide_eq_false (fun z => c_3 (by rw [z]; exact Int32.le_refl _))]; rfl⟩) (Nat.le_of_ble_eq_true rfl) (Nat.le_of_ble_eq_true rfl)
end
section
set_option maxHeartbeats 4000000 in
set_option maxRecDepth 100000 in
theorem k_X1_requireIndex (l : Launch) (hlf : l.stackTraces = false) (D : va_G) (S : cs_St) (ad : Nat → Nat) (cy : Nat → ClassId) (hS : cs_ok S) (r : Nat) (hr4 : r < 4) (v : Int32) : cs_Xv l yX1_requireIndex wsX1_requireIndex ({ frames := 6, cells := 1, slots := 6, locals := 82 }) D (cs_tys cy) (cs_L S ad cy) [.ref (ad 0), .int (nI r), .int v] (cs_in v 0 (nI (cs_ln S r) - 1) = true) (cs_bad cs_IOB (cs_in v 0 (nI (cs_ln S r) - 1))) 1 6 := by
  refine vx_ofW (cc := cX1_requireIndex) (maxL := 3) (ret := none) (by decide) rfl ?_
  intro pg e s m args below meth c s₁ B hml hout hv
  obtain ⟨rfl, hE, hz, hP, hK⟩ := hv
  have hx := B.exec
  have hb := B.bytes
  have hr := B.returns
  have hts := atoms_spec (ws := wsX1_requireIndex) B.pre
  have hown : s.vm.findClass RX1 = some m.cls := findClass_of_methodNamed B.named
  have hlocks := B.notSynchronized
  have hl := lv_entry ([.ref (ad 0), .int (nI r), .int v]) (n := 3) (Nat.le_of_ble_eq_true rfl)
  rw [lg_entry_eq]
  generalize (lg_sl ([.ref (ad 0), .int (nI r), .int v]) ++ List.replicate (3 - (lg_sl ([.ref (ad 0), .int (nI r), .int v])).length) Slot.unset).toArray = ls at hl ⊢
  have hl : lv_has ls 3 [(0, .ref (ad 0)), (1, .int (nI r)), (2, .int v)] := hl
  have hinX1 : ∀ w ∈ wsX10, w ∈ wsX1_requireIndex := fun _ h => by unfold wsX1_requireIndex; exact List.mem_cons_of_mem _ (List.mem_append_left _ (List.mem_append_right _ (h)))
  refine lv_iload_n hx hb dX1_requireIndex_0 rfl (lv_at hl 2 rfl) ?_
  refine lv_if_lt (tgt := 14) hx hb dX1_requireIndex_1 (by decide) (fun c_1 => ?_) (fun c_1 => ?_)
  · exact cs_throw (cls := cs_IOB) (text := "no such index") hx hb hlf hown hts (by decide +kernel) cs_at3 hE hE.2.1.2.2.1 cs_ot3 (fun _ h => by unfold wsX1_requireIndex; exact List.mem_cons_of_mem _ (List.mem_append_right _ (h))) (by decide +kernel) (by decide +kernel) (hE.2.2 (151, "no such index") (by decide +kernel)) hz (hl.1.trans hml.symm) dX1_requireIndex_14 dX1_requireIndex_17 dX1_requireIndex_18 dX1_requireIndex_20 dX1_requireIndex_23 hout (Nat.le_of_ble_eq_true rfl) (Nat.le_of_ble_eq_true rfl) (Nat.le_of_ble_eq_true rfl) (Nat.le_of_ble_eq_true rfl) hlocks (⟨rfl, cs_inF1 (Int32.not_le.mpr c_1)⟩) (Nat.le_of_ble_eq_true rfl) (Nat.le_of_ble_eq_true rfl)
  · refine lv_iload_n hx hb dX1_requireIndex_4 rfl (lv_at hl 2 rfl) ?_
    refine lv_aload_n hx hb dX1_requireIndex_5 rfl (lv_at hl 0 rfl) ?_
    refine va_get (D := D) (ci := 1) (v := .ref (ad 3)) (C := RX1) (T := TX1) (N := 4) hx hb hts hinX1 hown hK hP 0 cs_L0 rfl 3 (by decide) (hts (.fieldLink RX1 24 "ChecksumLab" "sizes" "[I") (by decide +kernel)) (fun _ h9 => h9) rfl dX1_requireIndex_6 ?_
    refine lv_iload_n hx hb dX1_requireIndex_9 rfl (lv_at hl 1 rfl) ?_
    refine cs_iald hx hb hK hP 3 0 cs_L3 rfl (k := r) (hr4) (by decide) dX1_requireIndex_10 ?_
    refine cs_top (y := nI (cs_ln S r)) rfl ?_
    refine lv_icmp_lt (tgt := 24) hx hb dX1_requireIndex_11 (by decide) (fun c_11 => ?_) (fun c_11 => ?_)
    · refine W.widen (k := 1) (n := 6) (Nat.le_of_ble_eq_true rfl) (Nat.le_of_ble_eq_true rfl) ?_
      exact vx_ret (W.vret hx hb hr (fun t ht _ => ⟨rfl, cs_pl1 (hS.2.2.1 r) c_1 c_11, ht⟩) (fun q h => by cases h) dX1_requireIndex_24)
    · exact cs_throw (cls := cs_IOB) (text := "no such index") hx hb hlf hown hts (by decide +kernel) cs_at3 hE hE.2.1.2.2.1 cs_ot3 (fun _ h => by unfold wsX1_requireIndex; exact List.mem_cons_of_mem _ (List.mem_append_right _ (h))) (by decide +kernel) (by decide +kernel) (hE.2.2 (151, "no such index") (by decide +kernel)) hz (hl.1.trans hml.symm) dX1_requireIndex_14 dX1_requireIndex_17 dX1_requireIndex_18 dX1_requireIndex_20 dX1_requireIndex_23 hout (Nat.le_of_ble_eq_true rfl) (Nat.le_of_ble_eq_true rfl) (Nat.le_of_ble_eq_true rfl) (Nat.le_of_ble_eq_true rfl) hlocks (⟨rfl, cs_pl0 (hS.2.2.1 r) c_11⟩) (Nat.le_of_ble_eq_true rfl) (Nat.le_of_ble_eq_true rfl)
set_option maxHeartbeats 4000000 in
set_option maxRecDepth 100000 in
theorem k_X1_requireRoom (l : Launch) (hlf : l.stackTraces = false) (D : va_G) (S : cs_St) (ad : Nat → Nat) (cy : Nat → ClassId) (r : Nat) (hr4 : r < 4) (v : Int32) : cs_Xv l yX1_requireRoom wsX1_requireRoom ({ frames := 6, cells := 1, slots := 6, locals := 82 }) D (cs_tys cy) (cs_L S ad cy) [.ref (ad 0), .int (nI r), .int v] (v ≤ 256 - nI (cs_ln S r)) (cs_bad cs_ISE (decide (v ≤ 256 - nI (cs_ln S r)))) 1 6 := by
  refine vx_ofW (cc := cX1_requireRoom) (maxL := 3) (ret := none) (by decide) rfl ?_
  intro pg e s m args below meth c s₁ B hml hout hv
  obtain ⟨rfl, hE, hz, hP, hK⟩ := hv
  have hx := B.exec
  have hb := B.bytes
  have hr := B.returns
  have hts := atoms_spec (ws := wsX1_requireRoom) B.pre
  have hown : s.vm.findClass RX1 = some m.cls := findClass_of_methodNamed B.named
  have hlocks := B.notSynchronized
  have hl := lv_entry ([.ref (ad 0), .int (nI r), .int v]) (n := 3) (Nat.le_of_ble_eq_true rfl)
  rw [lg_entry_eq]
  generalize (lg_sl ([.ref (ad 0), .int (nI r), .int v]) ++ List.replicate (3 - (lg_sl ([.ref (ad 0), .int (nI r), .int v])).length) Slot.unset).toArray = ls at hl ⊢
  have hl : lv_has ls 3 [(0, .ref (ad 0)), (1, .int (nI r)), (2, .int v)] := hl
  have hinX1 : ∀ w ∈ wsX10, w ∈ wsX1_requireRoom := fun _ h => by unfold wsX1_requireRoom; exact List.mem_cons_of_mem _ (List.mem_append_left _ (List.mem_append_right _ (h)))
  refine lv_iload_n hx hb dX1_requireRoom_0 rfl (lv_at hl 2 rfl) ?_
  refine lv_sipush (v := 256) hx hb dX1_requireRoom_1 (by decide) ?_
  refine lv_aload_n hx hb dX1_requireRoom_4 rfl (lv_at hl 0 rfl) ?_
  refine va_get (D := D) (ci := 1) (v := .ref (ad 3)) (C := RX1) (T := TX1) (N := 4) hx hb hts hinX1 hown hK hP 0 cs_L0 rfl 3 (by decide) (hts (.fieldLink RX1 24 "ChecksumLab" "sizes" "[I") (by decide +kernel)) (fun _ h9 => h9) rfl dX1_requireRoom_5 ?_
  refine lv_iload_n hx hb dX1_requireRoom_8 rfl (lv_at hl 1 rfl) ?_
  refine cs_iald hx hb hK hP 3 0 cs_L3 rfl (k := r) (hr4) (by decide) dX1_requireRoom_9 ?_
  refine cs_top (y := nI (cs_ln S r)) rfl ?_
  refine lv_isub hx hb dX1_requireRoom_10 ?_
  refine lv_icmp_le (tgt := 24) hx hb dX1_requireRoom_11 (by decide) (fun c_11 => ?_) (fun c_11 => ?_)
  · refine W.widen (k := 1) (n := 6) (Nat.le_of_ble_eq_true rfl) (Nat.le_of_ble_eq_true rfl) ?_
    exact vx_ret (W.vret hx hb hr (fun t ht _ => ⟨rfl, c_11, ht⟩) (fun q h => by cases h) dX1_requireRoom_24)
  · exact cs_throw (cls := cs_ISE) (text := "the row would have more than 256 bytes") hx hb hlf hown hts (by decide +kernel) cs_at2 hE hE.2.1.2.1 cs_ot2 (fun _ h => by unfold wsX1_requireRoom; exact List.mem_cons_of_mem _ (List.mem_append_right _ (h))) (by decide +kernel) (by decide +kernel) (hE.2.2 (153, "the row would have more than 256 bytes") (by decide +kernel)) hz (hl.1.trans hml.symm) dX1_requireRoom_14 dX1_requireRoom_17 dX1_requireRoom_18 dX1_requireRoom_20 dX1_requireRoom_23 hout (Nat.le_of_ble_eq_true rfl) (Nat.le_of_ble_eq_true rfl) (Nat.le_of_ble_eq_true rfl) (Nat.le_of_ble_eq_true rfl) hlocks (⟨rfl, decide_eq_false c_11⟩) (Nat.le_of_ble_eq_true rfl) (Nat.le_of_ble_eq_true rfl)
set_option maxHeartbeats 4000000 in
set_option maxRecDepth 100000 in
theorem k_X1_findModel (l : Launch) (hlf : l.stackTraces = false) (D : va_G) (S : cs_St) (ad : Nat → Nat) (cy : Nat → ClassId) (hS : cs_ok S) (v : Int32) : cs_Xr l yX1_findModel wsX1_findModel ({ frames := 6, cells := 1, slots := 6, locals := 82 }) D (cs_tys cy) (cs_L S ad cy) [.ref (ad 0), .int v] (ad (8 + cs_c v)) (cs_M S v = true) (cs_bad cs_IOB (cs_M S v)) 1 6 := by
  refine vx_ofW (cc := cX1_findModel) (maxL := 2) (ret := (some (.object "ChecksumLab$Model"))) (by decide) rfl ?_
  intro pg e s m args below meth c s₁ B hml hout hv
  obtain ⟨rfl, hE, hz, hP, hK⟩ := hv
  have hx := B.exec
  have hb := B.bytes
  have hr := B.returns
  have hts := atoms_spec (ws := wsX1_findModel) B.pre
  have hown : s.vm.findClass RX1 = some m.cls := findClass_of_methodNamed B.named
  have hlocks := B.notSynchronized
  have hl := lv_entry ([.ref (ad 0), .int v]) (n := 2) (Nat.le_of_ble_eq_true rfl)
  rw [lg_entry_eq]
  generalize (lg_sl ([.ref (ad 0), .int v]) ++ List.replicate (2 - (lg_sl ([.ref (ad 0), .int v])).length) Slot.unset).toArray = ls at hl ⊢
  have hl : lv_has ls 2 [(0, .ref (ad 0)), (1, .int v)] := hl
  have hinX1 : ∀ w ∈ wsX10, w ∈ wsX1_findModel := fun _ h => by unfold wsX1_findModel; exact List.mem_cons_of_mem _ (List.mem_append_left _ (List.mem_append_right _ (h)))
  have h6 := hS.1
  refine lv_iload_n hx hb dX1_findModel_0 rfl (lv_at hl 1 rfl) ?_
  refine lv_if_lt (tgt := 22) hx hb dX1_findModel_1 (by decide) (fun c_1 => ?_) (fun c_1 => ?_)
  · exact cs_throw (cls := cs_IOB) (text := "no such model") hx hb hlf hown hts (by decide +kernel) cs_at3 hE hE.2.1.2.2.1 cs_ot3 (fun _ h => by unfold wsX1_findModel; exact List.mem_cons_of_mem _ (List.mem_append_right _ (h))) (by decide +kernel) (by decide +kernel) (hE.2.2 (147, "no such model") (by decide +kernel)) hz (hl.1.trans hml.symm) dX1_findModel_22 dX1_findModel_25 dX1_findModel_26 dX1_findModel_28 dX1_findModel_31 hout (Nat.le_of_ble_eq_true rfl) (Nat.le_of_ble_eq_true rfl) (Nat.le_of_ble_eq_true rfl) (Nat.le_of_ble_eq_true rfl) hlocks (⟨rfl, cs_inF1 (Int32.not_le.mpr c_1)⟩) (Nat.le_of_ble_eq_true rfl) (Nat.le_of_ble_eq_true rfl)
  · refine lv_iload_n hx hb dX1_findModel_4 rfl (lv_at hl 1 rfl) ?_
    refine lv_aload_n hx hb dX1_findModel_5 rfl (lv_at hl 0 rfl) ?_
    refine va_get (D := D) (ci := 1) (v := .ref (ad 1)) (C := RX1) (T := TX1) (N := 4) hx hb hts hinX1 hown hK hP 0 cs_L0 rfl 0 (by decide) (hts (.fieldLink RX1 11 "ChecksumLab" "defined" "[LChecksumLab$Model;") (by decide +kernel)) (fun _ h9 => h9) rfl dX1_findModel_6 ?_
    refine va_alen (v := 6) hx hb hK hP 1 3 cs_L1 rfl rfl dX1_findModel_9 ?_
    refine lv_icmp_ge (tgt := 22) hx hb dX1_findModel_10 (by decide) (fun c_10 => ?_) (fun c_10 => ?_)
    · exact cs_throw (cls := cs_IOB) (text := "no such model") hx hb hlf hown hts (by decide +kernel) cs_at3 hE hE.2.1.2.2.1 cs_ot3 (fun _ h => by unfold wsX1_findModel; exact List.mem_cons_of_mem _ (List.mem_append_right _ (h))) (by decide +kernel) (by decide +kernel) (hE.2.2 (147, "no such model") (by decide +kernel)) hz (hl.1.trans hml.symm) dX1_findModel_22 dX1_findModel_25 dX1_findModel_26 dX1_findModel_28 dX1_findModel_31 hout (Nat.le_of_ble_eq_true rfl) (Nat.le_of_ble_eq_true rfl) (Nat.le_of_ble_eq_true rfl) (Nat.le_of_ble_eq_true rfl) hlocks (⟨rfl, cs_M6 h6 c_10⟩) (Nat.le_of_ble_eq_true rfl) (Nat.le_of_ble_eq_true rfl)
    · obtain ⟨k, hk6, rfl⟩ := cs_ix6 c_1 c_10
      have hkc : cs_c (nI k) = k := cs_cI (by omega)
      refine lv_aload_n hx hb dX1_findModel_13 rfl (lv_at hl 0 rfl) ?_
      refine va_get (D := D) (ci := 1) (v := .ref (ad 1)) (C := RX1) (T := TX1) (N := 4) hx hb hts hinX1 hown hK hP 0 cs_L0 rfl 0 (by decide) (hts (.fieldLink RX1 11 "ChecksumLab" "defined" "[LChecksumLab$Model;") (by decide +kernel)) (fun _ h9 => h9) rfl dX1_findModel_14 ?_
      refine lv_iload_n hx hb dX1_findModel_17 rfl (lv_at hl 1 rfl) ?_
      refine cs_aldq hx hb hK hP 1 3 cs_L1 rfl (k := k) hk6 (by decide) dX1_findModel_18 ?_
      by_cases hk : k < cs_n S
      · refine cs_topv (y := .ref (ad (8 + k))) (by rw [if_pos hk]; rfl) ?_
        refine lv_ifnonnull (tgt := 32) hx hb dX1_findModel_19 (by decide) ?_
        refine lv_aload_n hx hb dX1_findModel_32 rfl (lv_at hl 0 rfl) ?_
        refine va_get (D := D) (ci := 1) (v := .ref (ad 1)) (C := RX1) (T := TX1) (N := 4) hx hb hts hinX1 hown hK hP 0 cs_L0 rfl 0 (by decide) (hts (.fieldLink RX1 11 "ChecksumLab" "defined" "[LChecksumLab$Model;") (by decide +kernel)) (fun _ h9 => h9) rfl dX1_findModel_33 ?_
        refine lv_iload_n hx hb dX1_findModel_36 rfl (lv_at hl 1 rfl) ?_
        refine cs_aldq hx hb hK hP 1 3 cs_L1 rfl (k := k) hk6 (by decide) dX1_findModel_37 ?_
        refine cs_topv (y := .ref (ad (8 + k))) (by rw [if_pos hk]; rfl) ?_
        refine W.widen (k := 1) (n := 6) (Nat.le_of_ble_eq_true rfl) (Nat.le_of_ble_eq_true rfl) ?_
        exact vx_ret (W.aret (v := .ref (ad (8 + k))) hx hb hr (Or.inl ⟨_, rfl⟩) (Or.inr ⟨_, rfl⟩) (fun t ht _ => ⟨by rw [hkc], cs_in_mod hk h6, ht⟩) (fun q h => by cases h) dX1_findModel_38)
      · refine cs_topv (y := .null) (by rw [if_neg hk]; rfl) ?_
        refine lv_ifnonnullN hx hb dX1_findModel_19 ?_
        exact cs_throw (cls := cs_IOB) (text := "no such model") hx hb hlf hown hts (by decide +kernel) cs_at3 hE hE.2.1.2.2.1 cs_ot3 (fun _ h => by unfold wsX1_findModel; exact List.mem_cons_of_mem _ (List.mem_append_right _ (h))) (by decide +kernel) (by decide +kernel) (hE.2.2 (147, "no such model") (by decide +kernel)) hz (hl.1.trans hml.symm) dX1_findModel_22 dX1_findModel_25 dX1_findModel_26 dX1_findModel_28 dX1_findModel_31 hout (Nat.le_of_ble_eq_true rfl) (Nat.le_of_ble_eq_true rfl) (Nat.le_of_ble_eq_true rfl) (Nat.le_of_ble_eq_true rfl) hlocks (⟨rfl, cs_Mn h6 hk6 hk⟩) (Nat.le_of_ble_eq_true rfl) (Nat.le_of_ble_eq_true rfl)
end
section
theorem cs_idx {l : Nat} (hl : l ≤ 256) {v : Int32} (h : cs_in v 0 (nI l - 1) = true) : ∃ j, j < l ∧ v = nI j := by
  rcases Nat.eq_zero_or_pos l with h0 | h0
  · subst h0
    obtain ⟨h3, h4⟩ := cs_and h
    rw [decide_eq_true_eq, Int32.le_iff_toInt_le] at h3 h4
    have e2 : (nI 0 - 1).toInt = -1 := by decide
    have e3 : (0 : Int32).toInt = 0 := by decide
    omega
  · obtain ⟨n, rfl⟩ : ∃ n, l = n + 1 := ⟨l - 1, by omega⟩
    rw [nI_pred] at h
    obtain ⟨j, h5, rfl⟩ := cs_in_of (by omega) h
    exact ⟨j, by omega, rfl⟩
theorem cs_par1 {S : cs_St} {m r a b : Int32} (h : (cs_M S m && cs_in r 0 3 && cs_in a 0 (nI (cs_ln S (cs_c r))) && cs_in b a (nI (cs_ln S (cs_c r)))) = false) : cs_kPar S m r a b = 1 := cs_k1_1 h
end
section
set_option maxHeartbeats 4000000 in
set_option maxRecDepth 100000 in
theorem k_X1_partSum (l : Launch) (D : va_G) (S : cs_St) (ad : Nat → Nat) (cy : Nat → ClassId) (hS : cs_ok S) (k : Nat) (hk : k < cs_n S) (r : Nat) (hr4 : r < 4) (fr to : Nat) (hft : fr ≤ to) (ht : to ≤ 256) : cs_Mi l yX1_partSum wsX1_partSum ({ frames := 3, cells := 0, slots := 0, locals := 69 }) D (cs_tys cy) (cs_L S ad cy) [.ref (ad 0), .ref (ad (8 + k)), .int (nI r), .int (nI fr), .int (nI to)] (cs_so (cs_ro S k) (cs_w S k) (cs_ps (cs_w S k) (cs_p S k) (cs_ri S k) (cs_i S k) (cs_by S r) fr (to - fr)) ^^^ cs_x S k) := by
  refine Met.ofW (cc := cX1_partSum) (maxL := 7) (ret := (some .int)) (by decide) rfl ?_
  intro pg e s m args below meth c s₁ B hml hv
  obtain ⟨rfl, hE, hP, hK⟩ := hv
  have hx := B.exec
  have hb := B.bytes
  have hr := B.returns
  have hts := atoms_spec (ws := wsX1_partSum) B.pre
  have hown : s.vm.findClass RX1 = some m.cls := findClass_of_methodNamed B.named
  have hlocks := B.notSynchronized
  have hl := lv_entry ([.ref (ad 0), .ref (ad (8 + k)), .int (nI r), .int (nI fr), .int (nI to)]) (n := 7) (Nat.le_of_ble_eq_true rfl)
  rw [lg_entry_eq]
  generalize (lg_sl ([.ref (ad 0), .ref (ad (8 + k)), .int (nI r), .int (nI fr), .int (nI to)]) ++ List.replicate (7 - (lg_sl ([.ref (ad 0), .ref (ad (8 + k)), .int (nI r), .int (nI fr), .int (nI to)])).length) Slot.unset).toArray = ls at hl ⊢
  have hl : lv_has ls 7 [(0, .ref (ad 0)), (1, .ref (ad (8 + k))), (2, .int (nI r)), (3, .int (nI fr)), (4, .int (nI to))] := hl
  have hinX1 : ∀ w ∈ wsX10, w ∈ wsX1_partSum := fun _ h => by unfold wsX1_partSum; exact List.mem_cons_of_mem _ (List.mem_append_right _ (h))
  have hinX0 : ∀ w ∈ wsX00, w ∈ wsX1_partSum := fun _ h => by unfold wsX1_partSum; exact List.mem_cons_of_mem _ (List.mem_append_left _ (List.mem_append_right _ (h)))
  obtain ⟨hw1, hw2⟩ := hS.2.1 k hk
  refine lv_aload_n hx hb dX1_partSum_0 rfl (lv_at hl 1 rfl) ?_
  refine va_get (D := D) (ci := 0) (v := .int (cs_i S k)) (C := RX0) (T := TX0) (N := 8) hx hb hts hinX0 hown hK hP (8 + k) (cs_Lm hk) rfl 2 (by decide) (hts (.fieldLink RX1 51 "ChecksumLab$Model" "init" "I") (by decide +kernel)) (fun _ h9 => h9) rfl dX1_partSum_1 ?_
  refine lv_istore (lv' := [(5, .int (cs_i S k)), (0, .ref (ad 0)), (1, .ref (ad (8 + k))), (2, .int (nI r)), (3, .int (nI fr)), (4, .int (nI to))]) hx hb dX1_partSum_4 hl (by decide) rfl (fun ls hl => ?_)
  refine lv_iload_n hx hb dX1_partSum_6 rfl (lv_at hl 4 rfl) ?_
  refine lv_istore (lv' := [(6, .int (nI fr)), (5, .int (cs_i S k)), (0, .ref (ad 0)), (1, .ref (ad (8 + k))), (2, .int (nI r)), (3, .int (nI fr)), (4, .int (nI to))]) hx hb dX1_partSum_7 hl (by decide) rfl (fun ls hl => ?_)
  have loop : ∀ (n j : Nat), fr + j + n = to → ∀ ls : Array Slot, lv_has ls 7 [(0, .ref (ad 0)), (1, .ref (ad (8 + k))), (2, .int (nI r)), (4, .int (nI to)), (5, .int (cs_ps (cs_w S k) (cs_p S k) (cs_ri S k) (cs_i S k) (cs_by S r) fr j)), (6, .int (nI (fr + j)))] → W pg l e (headSpec wsX1_partSum ({ frames := 3, cells := 0, slots := 0, locals := 69 })).room s m [Value.ref (ad 0), Value.ref (ad (8 + k)), Value.int (nI r), Value.int (nI fr), Value.int (nI to)].toArray below meth c s.heap [] 0 0 (MQ below (vp_Si (fun rr => rr = cs_so (cs_ro S k) (cs_w S k) (cs_ps (cs_w S k) (cs_p S k) (cs_ri S k) (cs_i S k) (cs_by S r) fr (to - fr)) ^^^ cs_x S k)) [Value.ref (ad 0), Value.ref (ad (8 + k)), Value.int (nI r), Value.int (nI fr), Value.int (nI to)].toArray s 0 0 (fun _ => False)) (F0 m 9 ls []) := by
    intro n
    induction n with
    | zero =>
      intro j hj ls hl
      obtain rfl : to = fr + j := by omega
      refine lv_iload hx hb dX1_partSum_9 (lv_at hl 5 rfl) ?_
      refine lv_iload hx hb dX1_partSum_11 (lv_at hl 3 rfl) ?_
      refine lv_icmp_ge (tgt := 39) hx hb dX1_partSum_13 (by decide) (fun c_13 => ?_) (fun c_13 => ?_)
      · refine lv_aload_n hx hb dX1_partSum_39 rfl (lv_at hl 1 rfl) ?_
        refine lv_iload hx hb dX1_partSum_40 (lv_at hl 4 rfl) ?_
        refine vp_callSi (W.runV (As := [.int (cs_ps (cs_w S k) (cs_p S k) (cs_ri S k) (cs_i S k) (cs_by S r) fr j)]) (rest := []) ⟨hx, hb, hml, hown, hts⟩ (k_X0_sumOfRegister l D (cs_tys cy) (ad (8 + k)) (cs_w S k) (cs_p S k) (cs_i S k) (cs_x S k) (cs_ri S k) (cs_ro S k) hw2 (cs_ps (cs_w S k) (cs_p S k) (cs_ri S k) (cs_i S k) (cs_by S r) fr j)) (cwV 1 hts gX1_partSum_X0_sumOfRegister rfl rfl rfl (by decide +kernel) ⟨Nat.le_of_ble_eq_true rfl, Nat.le_of_ble_eq_true rfl⟩) ⟨cs_B.blind, va_recv hK (cs_one hP (cs_Lm hk)) (ci := 0) (q0 := 0) rfl rfl, cs_B.at hE (cs_one hP (cs_Lm hk)) hK⟩ rfl rfl hl.1 rfl (lv_room (Nat.le_of_ble_eq_true rfl)) dX1_partSum_42 ⟨Nat.le_of_ble_eq_true rfl, Nat.le_of_ble_eq_true rfl⟩) (fun r_42 e_42 => ?_)
        subst e_42
        exact W.iret (v := cs_so (cs_ro S k) (cs_w S k) (cs_ps (cs_w S k) (cs_p S k) (cs_ri S k) (cs_i S k) (cs_by S r) fr j) ^^^ cs_x S k) hx hb hr (fun t ht _ => ⟨cs_so (cs_ro S k) (cs_w S k) (cs_ps (cs_w S k) (cs_p S k) (cs_ri S k) (cs_i S k) (cs_by S r) fr j) ^^^ cs_x S k, rfl, by rw [Nat.add_sub_cancel_left], ht⟩) (fun q h => by cases h) dX1_partSum_45
      · exact absurd (nI_le (a := fr + j) (b := fr + j) (Nat.le_refl _) (by omega)) c_13
    | succ n ih =>
      intro j hj ls hl
      refine lv_iload hx hb dX1_partSum_9 (lv_at hl 5 rfl) ?_
      refine lv_iload hx hb dX1_partSum_11 (lv_at hl 3 rfl) ?_
      refine lv_icmp_ge (tgt := 39) hx hb dX1_partSum_13 (by decide) (fun c_13 => ?_) (fun c_13 => ?_)
      · exact absurd c_13 (nI_ge (a := fr + j) (b := to) (by omega) (by omega))
      · refine lv_aload_n hx hb dX1_partSum_16 rfl (lv_at hl 1 rfl) ?_
        refine lv_iload hx hb dX1_partSum_17 (lv_at hl 4 rfl) ?_
        refine lv_aload_n hx hb dX1_partSum_19 rfl (lv_at hl 0 rfl) ?_
        refine va_get (D := D) (ci := 1) (v := .ref (ad 2)) (C := RX1) (T := TX1) (N := 4) hx hb hts hinX1 hown hK hP 0 cs_L0 rfl 2 (by decide) (hts (.fieldLink RX1 21 "ChecksumLab" "rows" "[[I") (by decide +kernel)) (fun _ h9 => h9) rfl dX1_partSum_20 ?_
        refine lv_iload_n hx hb dX1_partSum_23 rfl (lv_at hl 2 rfl) ?_
        refine cs_aldA hx hb hK hP 2 4 cs_L2 rfl (k := r) (hr4) (by decide) dX1_partSum_24 ?_
        refine cs_topv (y := .ref (ad (4 + r))) (by rw [if_pos (hr4)]; rfl) ?_
        refine lv_iload hx hb dX1_partSum_25 (lv_at hl 5 rfl) ?_
        refine cs_iald hx hb hK hP (4 + r) 0 (cs_Lr hr4) rfl (k := fr + j) (by omega) (by decide) dX1_partSum_27 ?_
        refine cs_top (y := nI (cs_by S r (fr + j))) rfl ?_
        refine vp_callSi (W.runV (As := [.int (cs_ps (cs_w S k) (cs_p S k) (cs_ri S k) (cs_i S k) (cs_by S r) fr j), .int (nI (cs_by S r (fr + j)))]) (rest := []) ⟨hx, hb, hml, hown, hts⟩ (k_X0_takeByte l D (cs_tys cy) (ad (8 + k)) (cs_w S k) (cs_p S k) (cs_i S k) (cs_x S k) (cs_ri S k) (cs_ro S k) (cs_ps (cs_w S k) (cs_p S k) (cs_ri S k) (cs_i S k) (cs_by S r) fr j) (nI (cs_by S r (fr + j)))) (cwV 2 hts gX1_partSum_X0_takeByte rfl rfl rfl (by decide +kernel) ⟨Nat.le_of_ble_eq_true rfl, Nat.le_of_ble_eq_true rfl⟩) ⟨cs_B.blind, va_recv hK (cs_one hP (cs_Lm hk)) (ci := 0) (q0 := 0) rfl rfl, cs_B.at hE (cs_one hP (cs_Lm hk)) hK⟩ rfl rfl hl.1 rfl (lv_room (Nat.le_of_ble_eq_true rfl)) dX1_partSum_28 ⟨Nat.le_of_ble_eq_true rfl, Nat.le_of_ble_eq_true rfl⟩) (fun r_28 e_28 => ?_)
        subst e_28
        refine lv_istore (lv' := [(5, .int (cs_tk (cs_w S k) (cs_p S k) (cs_ri S k) (cs_ps (cs_w S k) (cs_p S k) (cs_ri S k) (cs_i S k) (cs_by S r) fr j) (nI (cs_by S r (fr + j))))), (0, .ref (ad 0)), (1, .ref (ad (8 + k))), (2, .int (nI r)), (4, .int (nI to)), (6, .int (nI (fr + j)))]) hx hb dX1_partSum_31 hl (by decide) rfl (fun ls hl => ?_)
        refine lv_iinc (v := nI (fr + (j + 1))) (lv' := [(6, .int (nI (fr + (j + 1)))), (5, .int (cs_tk (cs_w S k) (cs_p S k) (cs_ri S k) (cs_ps (cs_w S k) (cs_p S k) (cs_ri S k) (cs_i S k) (cs_by S r) fr j) (nI (cs_by S r (fr + j))))), (0, .ref (ad 0)), (1, .ref (ad (8 + k))), (2, .int (nI r)), (4, .int (nI to))]) hx hb dX1_partSum_33 hl (k := 5) rfl (cs_inc1 (fr + j)) (by decide) rfl (fun ls hl => ?_)
        refine lv_goto (tgt := 9) hx hb dX1_partSum_36 (by decide) ?_
        exact ih (j + 1) (by omega) ls (lv_sub hl [2, 3, 4, 5, 1, 0] rfl)
  exact loop (to - fr) 0 (by omega) ls (lv_sub hl [2, 3, 4, 6, 1, 0] rfl)
set_option maxHeartbeats 4000000 in
set_option maxRecDepth 100000 in
theorem k_X1_byteAt (l : Launch) (hlf : l.stackTraces = false) (D : va_G) (S : cs_St) (ad : Nat → Nat) (cy : Nat → ClassId) (hS : cs_ok S) (v u : Int32) : cs_Xi l yX1_byteAt wsX1_byteAt ({ frames := 7, cells := 2, slots := 12, locals := 104 }) D (cs_tys cy) (cs_L S ad cy) [.ref (ad 0), .int v, .int u] (fun rr => cs_k1 (cs_pl S v u) = 0 ∧ rr = cs_vByt S v u) (cs_E (cs_k1 (cs_pl S v u)) cs_IOB "" "") 2 12 := by
  refine vx_ofW (cc := cX1_byteAt) (maxL := 3) (ret := (some .int)) (by decide) rfl ?_
  intro pg e s m args below meth c s₁ B hml hout hv
  obtain ⟨rfl, hE, hz, hP, hK⟩ := hv
  have hx := B.exec
  have hb := B.bytes
  have hr := B.returns
  have hts := atoms_spec (ws := wsX1_byteAt) B.pre
  have hown : s.vm.findClass RX1 = some m.cls := findClass_of_methodNamed B.named
  have hlocks := B.notSynchronized
  have hl := lv_entry ([.ref (ad 0), .int v, .int u]) (n := 3) (Nat.le_of_ble_eq_true rfl)
  rw [lg_entry_eq]
  generalize (lg_sl ([.ref (ad 0), .int v, .int u]) ++ List.replicate (3 - (lg_sl ([.ref (ad 0), .int v, .int u])).length) Slot.unset).toArray = ls at hl ⊢
  have hl : lv_has ls 3 [(0, .ref (ad 0)), (1, .int v), (2, .int u)] := hl
  have hinX1 : ∀ w ∈ wsX10, w ∈ wsX1_byteAt := fun _ h => by unfold wsX1_byteAt; exact List.mem_cons_of_mem _ (List.mem_append_left _ (List.mem_append_right _ (h)))
  have h6 := hS.1
  refine lv_iload_n hx hb dX1_byteAt_0 rfl (lv_at hl 1 rfl) ?_
  refine cs_xcallv (vx_runS (As := [.int v]) (rest := []) ⟨hx, hb, hml, hown, hts⟩ (k_X1_requireRow l hlf D S ad cy v) (va_cwS 1 hts gX1_byteAt_X1_requireRow rfl rfl rfl (by decide +kernel) ⟨(Nat.le_of_ble_eq_true rfl), (Nat.le_of_ble_eq_true rfl)⟩) ⟨cs_Bx.blind, cs_Bx.at hE hz cs_none hK⟩ rfl rfl hl.1 rfl (lv_room (Nat.le_of_ble_eq_true rfl)) dX1_byteAt_1 ⟨(Nat.le_of_ble_eq_true rfl), (Nat.le_of_ble_eq_true rfl)⟩) (fun E ce q9 H1 h1 h2 h3 h4 h5 h6 => cs_xout hout hlocks (fun E h => Or.inl ⟨(by unfold cs_k1; simp [cs_k1, cs_k2, cs_nS, cs_pl, cs_bRow, cs_bSer, cs_bDef, h.2]), h.1⟩) (Nat.le_of_ble_eq_true rfl) (Nat.le_of_ble_eq_true rfl) E ce q9 H1 h1 h2 h3 h4 h5 h6) (fun okR => ?_)
  obtain ⟨r, hr4, rfl⟩ := cs_row_of okR
  have r31 : r < 2 ^ 31 := by omega
  have rc : cs_c (nI r) = r := cs_cI r31
  have hl8 := hS.2.2.1 r
  refine lv_aload_n hx hb dX1_byteAt_4 rfl (lv_at hl 0 rfl) ?_
  refine lv_iload_n hx hb dX1_byteAt_5 rfl (lv_at hl 1 rfl) ?_
  refine lv_iload_n hx hb dX1_byteAt_6 rfl (lv_at hl 2 rfl) ?_
  have rc7 : (nI r).toNatClampNeg = r := rc
  refine cs_xcallv (vx_runV (As := [.int (nI r), .int u]) (rest := []) ⟨hx, hb, hml, hown, hts⟩ (k_X1_requireIndex l hlf D S ad cy hS r hr4 u) (cwV 2 hts gX1_byteAt_X1_requireIndex rfl rfl rfl (by decide +kernel) ⟨(Nat.le_of_ble_eq_true rfl), (Nat.le_of_ble_eq_true rfl)⟩) ⟨cs_Bx.blind, va_recv hK hP (ci := 1) (q0 := 0) rfl rfl, cs_Bx.at hE hz hP hK⟩ rfl rfl hl.1 rfl (lv_room (Nat.le_of_ble_eq_true rfl)) dX1_byteAt_7 ⟨(Nat.le_of_ble_eq_true rfl), (Nat.le_of_ble_eq_true rfl)⟩) (fun E ce q9 H1 h1 h2 h3 h4 h5 h6 => cs_xout hout hlocks (fun E h => Or.inl ⟨(by unfold cs_k1; simp [cs_k1, cs_k2, cs_nS, cs_pl, cs_bRow, cs_bSer, cs_bDef, okR, rc, rc7, h.2]), h.1⟩) (Nat.le_of_ble_eq_true rfl) (Nat.le_of_ble_eq_true rfl) E ce q9 H1 h1 h2 h3 h4 h5 h6) (fun okI => ?_)
  obtain ⟨j, hj, rfl⟩ := cs_idx (hS.2.2.1 r) okI
  have jc : cs_c (nI j) = j := cs_cI (by omega)
  refine lv_aload_n hx hb dX1_byteAt_10 rfl (lv_at hl 0 rfl) ?_
  refine va_get (D := D) (ci := 1) (v := .ref (ad 2)) (C := RX1) (T := TX1) (N := 4) hx hb hts hinX1 hown hK hP 0 cs_L0 rfl 2 (by decide) (hts (.fieldLink RX1 21 "ChecksumLab" "rows" "[[I") (by decide +kernel)) (fun _ h9 => h9) rfl dX1_byteAt_11 ?_
  refine lv_iload_n hx hb dX1_byteAt_14 rfl (lv_at hl 1 rfl) ?_
  refine cs_aldA hx hb hK hP 2 4 cs_L2 rfl (k := r) (hr4) (by decide) dX1_byteAt_15 ?_
  refine cs_topv (y := .ref (ad (4 + r))) (by rw [if_pos (hr4)]; rfl) ?_
  refine lv_iload_n hx hb dX1_byteAt_16 rfl (lv_at hl 2 rfl) ?_
  refine cs_iald hx hb hK hP (4 + r) 0 (cs_Lr hr4) rfl (k := j) (by omega) (by decide) dX1_byteAt_17 ?_
  refine cs_top (y := nI (cs_by S r j)) rfl ?_
  refine W.widen (k := 2) (n := 12) (Nat.le_of_ble_eq_true rfl) (Nat.le_of_ble_eq_true rfl) ?_
  exact vx_ret (W.iret (v := nI (cs_by S r j)) hx hb hr (fun t ht _ => ⟨nI (cs_by S r j), rfl, ⟨by unfold cs_k1; simp [cs_k1, cs_k2, cs_nS, cs_pl, cs_bRow, cs_bSer, cs_bDef, okR, rc, rc7, okI, jc], by unfold cs_vByt; rw [rc, jc]⟩, ht⟩) (fun q h => by cases h) dX1_byteAt_18)
set_option maxHeartbeats 4000000 in
set_option maxRecDepth 100000 in
theorem k_X1_sum (l : Launch) (hlf : l.stackTraces = false) (D : va_G) (S : cs_St) (ad : Nat → Nat) (cy : Nat → ClassId) (hS : cs_ok S) (v u : Int32) : cs_Xi l yX1_sum wsX1_sum ({ frames := 7, cells := 2, slots := 12, locals := 103 }) D (cs_tys cy) (cs_L S ad cy) [.ref (ad 0), .int v, .int u] (fun rr => cs_k1 (cs_M S v && cs_in u 0 3) = 0 ∧ rr = cs_vSum S v u) (cs_E (cs_k1 (cs_M S v && cs_in u 0 3)) cs_IOB "" "") 2 12 := by
  refine vx_ofW (cc := cX1_sum) (maxL := 4) (ret := (some .int)) (by decide) rfl ?_
  intro pg e s m args below meth c s₁ B hml hout hv
  obtain ⟨rfl, hE, hz, hP, hK⟩ := hv
  have hx := B.exec
  have hb := B.bytes
  have hr := B.returns
  have hts := atoms_spec (ws := wsX1_sum) B.pre
  have hown : s.vm.findClass RX1 = some m.cls := findClass_of_methodNamed B.named
  have hlocks := B.notSynchronized
  have hl := lv_entry ([.ref (ad 0), .int v, .int u]) (n := 4) (Nat.le_of_ble_eq_true rfl)
  rw [lg_entry_eq]
  generalize (lg_sl ([.ref (ad 0), .int v, .int u]) ++ List.replicate (4 - (lg_sl ([.ref (ad 0), .int v, .int u])).length) Slot.unset).toArray = ls at hl ⊢
  have hl : lv_has ls 4 [(0, .ref (ad 0)), (1, .int v), (2, .int u)] := hl
  have hinX1 : ∀ w ∈ wsX10, w ∈ wsX1_sum := fun _ h => by unfold wsX1_sum; exact List.mem_cons_of_mem _ (List.mem_append_left _ (List.mem_append_left _ (List.mem_append_right _ (h))))
  have hinX0 : ∀ w ∈ wsX00, w ∈ wsX1_sum := fun _ h => by unfold wsX1_sum; exact List.mem_cons_of_mem _ (List.mem_append_left _ (List.mem_append_right _ (h)))
  have h6 := hS.1
  refine lv_aload_n hx hb dX1_sum_0 rfl (lv_at hl 0 rfl) ?_
  refine lv_iload_n hx hb dX1_sum_1 rfl (lv_at hl 1 rfl) ?_
  refine cs_xcallr (vx_runV (As := [.int v]) (rest := []) ⟨hx, hb, hml, hown, hts⟩ (k_X1_findModel l hlf D S ad cy hS v) (cwV 1 hts gX1_sum_X1_findModel rfl rfl rfl (by decide +kernel) ⟨(Nat.le_of_ble_eq_true rfl), (Nat.le_of_ble_eq_true rfl)⟩) ⟨cs_Bx.blind, va_recv hK hP (ci := 1) (q0 := 0) rfl rfl, cs_Bx.at hE hz hP hK⟩ rfl rfl hl.1 rfl (lv_room (Nat.le_of_ble_eq_true rfl)) dX1_sum_2 ⟨(Nat.le_of_ble_eq_true rfl), (Nat.le_of_ble_eq_true rfl)⟩) (fun E ce q9 H1 h1 h2 h3 h4 h5 h6 => cs_xout hout hlocks (fun E h => Or.inl ⟨(by unfold cs_k1; simp [cs_k1, cs_k2, cs_nS, cs_pl, cs_bRow, cs_bSer, cs_bDef, h.2]), h.1⟩) (Nat.le_of_ble_eq_true rfl) (Nat.le_of_ble_eq_true rfl) E ce q9 H1 h1 h2 h3 h4 h5 h6) (fun okM => ?_)
  obtain ⟨k, hk, rfl⟩ := cs_mod_of hS okM
  have hk31 : k < 2 ^ 31 := by omega
  have hkc : cs_c (nI k) = k := cs_cI hk31
  obtain ⟨hw1, hw2⟩ := hS.2.1 k hk
  refine cs_topv (y := .ref (ad (8 + k))) (by rw [hkc]) ?_
  refine lv_astore_n (lv' := [(3, .ref (ad (8 + k))), (0, .ref (ad 0)), (1, .int (nI k)), (2, .int u)]) hx hb dX1_sum_5 rfl hl (by decide) rfl (fun ls hl => ?_)
  refine lv_iload_n hx hb dX1_sum_6 rfl (lv_at hl 3 rfl) ?_
  refine cs_xcallv (vx_runS (As := [.int u]) (rest := []) ⟨hx, hb, hml, hown, hts⟩ (k_X1_requireRow l hlf D S ad cy u) (va_cwS 1 hts gX1_sum_X1_requireRow rfl rfl rfl (by decide +kernel) ⟨(Nat.le_of_ble_eq_true rfl), (Nat.le_of_ble_eq_true rfl)⟩) ⟨cs_Bx.blind, cs_Bx.at hE hz cs_none hK⟩ rfl rfl hl.1 rfl (lv_room (Nat.le_of_ble_eq_true rfl)) dX1_sum_7 ⟨(Nat.le_of_ble_eq_true rfl), (Nat.le_of_ble_eq_true rfl)⟩) (fun E ce q9 H1 h1 h2 h3 h4 h5 h6 => cs_xout hout hlocks (fun E h => Or.inl ⟨(by unfold cs_k1; simp [cs_k1, cs_k2, cs_nS, cs_pl, cs_bRow, cs_bSer, cs_bDef, okM, hkc, h.2]), h.1⟩) (Nat.le_of_ble_eq_true rfl) (Nat.le_of_ble_eq_true rfl) E ce q9 H1 h1 h2 h3 h4 h5 h6) (fun okR => ?_)
  obtain ⟨r, hr4, rfl⟩ := cs_row_of okR
  have r31 : r < 2 ^ 31 := by omega
  have rc : cs_c (nI r) = r := cs_cI r31
  have hl8 := hS.2.2.1 r
  refine lv_aload_n hx hb dX1_sum_10 rfl (lv_at hl 1 rfl) ?_
  refine lv_aload_n hx hb dX1_sum_11 rfl (lv_at hl 0 rfl) ?_
  refine lv_iload_n hx hb dX1_sum_12 rfl (lv_at hl 3 rfl) ?_
  refine lv_iconst (v := 0) hx hb dX1_sum_13 (by decide) ?_
  refine lv_aload_n hx hb dX1_sum_14 rfl (lv_at hl 1 rfl) ?_
  refine va_get (D := D) (ci := 1) (v := .ref (ad 3)) (C := RX1) (T := TX1) (N := 4) hx hb hts hinX1 hown hK hP 0 cs_L0 rfl 3 (by decide) (hts (.fieldLink RX1 24 "ChecksumLab" "sizes" "[I") (by decide +kernel)) (fun _ h9 => h9) rfl dX1_sum_15 ?_
  refine lv_iload_n hx hb dX1_sum_18 rfl (lv_at hl 3 rfl) ?_
  refine cs_iald hx hb hK hP 3 0 cs_L3 rfl (k := r) (hr4) (by decide) dX1_sum_19 ?_
  refine cs_top (y := nI (cs_ln S r)) rfl ?_
  refine vp_callSi (W.runV (As := [.ref (ad (8 + k)), .int (nI r), .int (nI 0), .int (nI (cs_ln S r))]) (rest := []) ⟨hx, hb, hml, hown, hts⟩ (k_X1_partSum l D S ad cy hS k hk r hr4 0 (cs_ln S r) (Nat.zero_le _) (hl8)) (cwV 4 hts gX1_sum_X1_partSum rfl rfl rfl (by decide +kernel) ⟨Nat.le_of_ble_eq_true rfl, Nat.le_of_ble_eq_true rfl⟩) ⟨cs_B.blind, va_recv hK hP (ci := 1) (q0 := 0) rfl rfl, cs_B.at hE hP hK⟩ rfl rfl hl.1 rfl (lv_room (Nat.le_of_ble_eq_true rfl)) dX1_sum_20 ⟨Nat.le_of_ble_eq_true rfl, Nat.le_of_ble_eq_true rfl⟩) (fun r_20 e_20 => ?_)
  subst e_20
  refine W.widen (k := 2) (n := 12) (Nat.le_of_ble_eq_true rfl) (Nat.le_of_ble_eq_true rfl) ?_
  exact vx_ret (W.iret (v := cs_so (cs_ro S k) (cs_w S k) (cs_ps (cs_w S k) (cs_p S k) (cs_ri S k) (cs_i S k) (cs_by S r) 0 (cs_ln S r - 0)) ^^^ cs_x S k) hx hb hr (fun t ht _ => ⟨cs_so (cs_ro S k) (cs_w S k) (cs_ps (cs_w S k) (cs_p S k) (cs_ri S k) (cs_i S k) (cs_by S r) 0 (cs_ln S r - 0)) ^^^ cs_x S k, rfl, ⟨by unfold cs_k1; simp [cs_k1, cs_k2, cs_nS, cs_pl, cs_bRow, cs_bSer, cs_bDef, okM, hkc, okR, rc], by unfold cs_vSum cs_psS; rw [hkc, rc]; rfl⟩, ht⟩) (fun q h => by cases h) dX1_sum_23)
set_option maxHeartbeats 4000000 in
set_option maxRecDepth 100000 in
theorem k_X1_sumOfPart (l : Launch) (hlf : l.stackTraces = false) (D : va_G) (S : cs_St) (ad : Nat → Nat) (cy : Nat → ClassId) (hS : cs_ok S) (v u a b : Int32) : cs_Xi l yX1_sumOfPart wsX1_sumOfPart ({ frames := 7, cells := 3, slots := 18, locals := 103 }) D (cs_tys cy) (cs_L S ad cy) [.ref (ad 0), .int v, .int u, .int a, .int b] (fun rr => cs_kPar S v u a b = 0 ∧ rr = cs_vPar S v u a b) (cs_E (cs_kPar S v u a b) cs_IOB "" "") 3 18 := by
  refine vx_ofW (cc := cX1_sumOfPart) (maxL := 6) (ret := (some .int)) (by decide) rfl ?_
  intro pg e s m args below meth c s₁ B hml hout hv
  obtain ⟨rfl, hE, hz, hP, hK⟩ := hv
  have hx := B.exec
  have hb := B.bytes
  have hr := B.returns
  have hts := atoms_spec (ws := wsX1_sumOfPart) B.pre
  have hown : s.vm.findClass RX1 = some m.cls := findClass_of_methodNamed B.named
  have hlocks := B.notSynchronized
  have hl := lv_entry ([.ref (ad 0), .int v, .int u, .int a, .int b]) (n := 6) (Nat.le_of_ble_eq_true rfl)
  rw [lg_entry_eq]
  generalize (lg_sl ([.ref (ad 0), .int v, .int u, .int a, .int b]) ++ List.replicate (6 - (lg_sl ([.ref (ad 0), .int v, .int u, .int a, .int b])).length) Slot.unset).toArray = ls at hl ⊢
  have hl : lv_has ls 6 [(0, .ref (ad 0)), (1, .int v), (2, .int u), (3, .int a), (4, .int b)] := hl
  have hinX1 : ∀ w ∈ wsX10, w ∈ wsX1_sumOfPart := fun _ h => by unfold wsX1_sumOfPart; exact List.mem_cons_of_mem _ (List.mem_append_left _ (List.mem_append_left _ (List.mem_append_right _ (h))))
  have hinX0 : ∀ w ∈ wsX00, w ∈ wsX1_sumOfPart := fun _ h => by unfold wsX1_sumOfPart; exact List.mem_cons_of_mem _ (List.mem_append_left _ (List.mem_append_right _ (h)))
  have h6 := hS.1
  refine lv_aload_n hx hb dX1_sumOfPart_0 rfl (lv_at hl 0 rfl) ?_
  refine lv_iload_n hx hb dX1_sumOfPart_1 rfl (lv_at hl 1 rfl) ?_
  refine cs_xcallr (vx_runV (As := [.int v]) (rest := []) ⟨hx, hb, hml, hown, hts⟩ (k_X1_findModel l hlf D S ad cy hS v) (cwV 1 hts gX1_sumOfPart_X1_findModel rfl rfl rfl (by decide +kernel) ⟨(Nat.le_of_ble_eq_true rfl), (Nat.le_of_ble_eq_true rfl)⟩) ⟨cs_Bx.blind, va_recv hK hP (ci := 1) (q0 := 0) rfl rfl, cs_Bx.at hE hz hP hK⟩ rfl rfl hl.1 rfl (lv_room (Nat.le_of_ble_eq_true rfl)) dX1_sumOfPart_2 ⟨(Nat.le_of_ble_eq_true rfl), (Nat.le_of_ble_eq_true rfl)⟩) (fun E ce q9 H1 h1 h2 h3 h4 h5 h6 => cs_xout hout hlocks (fun E h => Or.inl ⟨(by unfold cs_kPar; simp [cs_k1, cs_k2, cs_nS, cs_pl, cs_bRow, cs_bSer, cs_bDef, h.2]), h.1⟩) (Nat.le_of_ble_eq_true rfl) (Nat.le_of_ble_eq_true rfl) E ce q9 H1 h1 h2 h3 h4 h5 h6) (fun okM => ?_)
  obtain ⟨k, hk, rfl⟩ := cs_mod_of hS okM
  have hk31 : k < 2 ^ 31 := by omega
  have hkc : cs_c (nI k) = k := cs_cI hk31
  obtain ⟨hw1, hw2⟩ := hS.2.1 k hk
  refine cs_topv (y := .ref (ad (8 + k))) (by rw [hkc]) ?_
  refine lv_astore (lv' := [(5, .ref (ad (8 + k))), (0, .ref (ad 0)), (1, .int (nI k)), (2, .int u), (3, .int a), (4, .int b)]) hx hb dX1_sumOfPart_5 hl (by decide) rfl (fun ls hl => ?_)
  refine lv_iload_n hx hb dX1_sumOfPart_7 rfl (lv_at hl 3 rfl) ?_
  refine cs_xcallv (vx_runS (As := [.int u]) (rest := []) ⟨hx, hb, hml, hown, hts⟩ (k_X1_requireRow l hlf D S ad cy u) (va_cwS 1 hts gX1_sumOfPart_X1_requireRow rfl rfl rfl (by decide +kernel) ⟨(Nat.le_of_ble_eq_true rfl), (Nat.le_of_ble_eq_true rfl)⟩) ⟨cs_Bx.blind, cs_Bx.at hE hz cs_none hK⟩ rfl rfl hl.1 rfl (lv_room (Nat.le_of_ble_eq_true rfl)) dX1_sumOfPart_8 ⟨(Nat.le_of_ble_eq_true rfl), (Nat.le_of_ble_eq_true rfl)⟩) (fun E ce q9 H1 h1 h2 h3 h4 h5 h6 => cs_xout hout hlocks (fun E h => Or.inl ⟨(by unfold cs_kPar; simp [cs_k1, cs_k2, cs_nS, cs_pl, cs_bRow, cs_bSer, cs_bDef, okM, hkc, h.2]), h.1⟩) (Nat.le_of_ble_eq_true rfl) (Nat.le_of_ble_eq_true rfl) E ce q9 H1 h1 h2 h3 h4 h5 h6) (fun okR => ?_)
  obtain ⟨r, hr4, rfl⟩ := cs_row_of okR
  have r31 : r < 2 ^ 31 := by omega
  have rc : cs_c (nI r) = r := cs_cI r31
  have hl8 := hS.2.2.1 r
  refine lv_iload_n hx hb dX1_sumOfPart_11 rfl (lv_at hl 4 rfl) ?_
  refine lv_if_lt (tgt := 32) hx hb dX1_sumOfPart_12 (by decide) (fun c_12 => ?_) (fun c_12 => ?_)
  · have h0 : cs_in a 0 (nI (cs_ln S r)) = false := cs_inF1 (Int32.not_le.mpr c_12)
    exact cs_throw (cls := cs_IOB) (text := "from or to is out of range") hx hb hlf hown hts (by decide +kernel) cs_at3 hE hE.2.1.2.2.1 cs_ot3 (fun _ h => by unfold wsX1_sumOfPart; exact List.mem_cons_of_mem _ (List.mem_append_right _ (h))) (by decide +kernel) (by decide +kernel) (hE.2.2 (103, "from or to is out of range") (by decide +kernel)) hz (hl.1.trans hml.symm) dX1_sumOfPart_32 dX1_sumOfPart_35 dX1_sumOfPart_36 dX1_sumOfPart_38 dX1_sumOfPart_41 hout (Nat.le_of_ble_eq_true rfl) (Nat.le_of_ble_eq_true rfl) (Nat.le_of_ble_eq_true rfl) (Nat.le_of_ble_eq_true rfl) hlocks (Or.inl ⟨(by unfold cs_kPar; simp [cs_k1, cs_k2, cs_nS, cs_pl, cs_bRow, cs_bSer, cs_bDef, okM, hkc, okR, rc, h0]), rfl⟩) (Nat.le_of_ble_eq_true rfl) (Nat.le_of_ble_eq_true rfl)
  · refine lv_iload_n hx hb dX1_sumOfPart_15 rfl (lv_at hl 4 rfl) ?_
    refine lv_iload hx hb dX1_sumOfPart_16 (lv_at hl 5 rfl) ?_
    refine lv_icmp_gt (tgt := 32) hx hb dX1_sumOfPart_18 (by decide) (fun c_18 => ?_) (fun c_18 => ?_)
    · have h0 : (cs_in a 0 (nI (cs_ln S r)) && cs_in b a (nI (cs_ln S r))) = false := by rw [cs_inF1 (v := b) (Int32.not_le.mpr c_18), Bool.and_false]
      rw [Bool.and_eq_false_iff] at h0
      exact cs_throw (cls := cs_IOB) (text := "from or to is out of range") hx hb hlf hown hts (by decide +kernel) cs_at3 hE hE.2.1.2.2.1 cs_ot3 (fun _ h => by unfold wsX1_sumOfPart; exact List.mem_cons_of_mem _ (List.mem_append_right _ (h))) (by decide +kernel) (by decide +kernel) (hE.2.2 (103, "from or to is out of range") (by decide +kernel)) hz (hl.1.trans hml.symm) dX1_sumOfPart_32 dX1_sumOfPart_35 dX1_sumOfPart_36 dX1_sumOfPart_38 dX1_sumOfPart_41 hout (Nat.le_of_ble_eq_true rfl) (Nat.le_of_ble_eq_true rfl) (Nat.le_of_ble_eq_true rfl) (Nat.le_of_ble_eq_true rfl) hlocks (Or.inl ⟨(cs_par1 (by rw [rc, Bool.and_assoc (c := cs_in b a _), Bool.and_eq_false_iff]; exact Or.inr (by rw [Bool.and_eq_false_iff]; exact h0))), rfl⟩) (Nat.le_of_ble_eq_true rfl) (Nat.le_of_ble_eq_true rfl)
    · refine lv_iload hx hb dX1_sumOfPart_21 (lv_at hl 5 rfl) ?_
      refine lv_aload_n hx hb dX1_sumOfPart_23 rfl (lv_at hl 1 rfl) ?_
      refine va_get (D := D) (ci := 1) (v := .ref (ad 3)) (C := RX1) (T := TX1) (N := 4) hx hb hts hinX1 hown hK hP 0 cs_L0 rfl 3 (by decide) (hts (.fieldLink RX1 24 "ChecksumLab" "sizes" "[I") (by decide +kernel)) (fun _ h9 => h9) rfl dX1_sumOfPart_24 ?_
      refine lv_iload_n hx hb dX1_sumOfPart_27 rfl (lv_at hl 3 rfl) ?_
      refine cs_iald hx hb hK hP 3 0 cs_L3 rfl (k := r) (hr4) (by decide) dX1_sumOfPart_28 ?_
      refine cs_top (y := nI (cs_ln S r)) rfl ?_
      refine lv_icmp_le (tgt := 42) hx hb dX1_sumOfPart_29 (by decide) (fun c_29 => ?_) (fun c_29 => ?_)
      · have h02 : cs_in b a (nI (cs_ln S r)) = true := cs_inT (Int32.not_lt.mp c_18) c_29
        have h01 : cs_in a 0 (nI (cs_ln S r)) = true := cs_inT (Int32.not_lt.mp c_12) (Int32.le_trans (Int32.not_lt.mp c_18) c_29)
        obtain ⟨fr, hf1, rfl⟩ := cs_in_of (n := cs_ln S r) (by omega) h01
        obtain ⟨to, ht1, ht2, rfl⟩ := cs_in2_of (a := fr) (n := cs_ln S r) (by omega) (by omega) h02
        refine lv_aload_n hx hb dX1_sumOfPart_42 rfl (lv_at hl 1 rfl) ?_
        refine lv_aload hx hb dX1_sumOfPart_43 (lv_at hl 0 rfl) ?_
        refine lv_iload_n hx hb dX1_sumOfPart_45 rfl (lv_at hl 3 rfl) ?_
        refine lv_iload_n hx hb dX1_sumOfPart_46 rfl (lv_at hl 4 rfl) ?_
        refine lv_iload hx hb dX1_sumOfPart_47 (lv_at hl 5 rfl) ?_
        refine vp_callSi (W.runV (As := [.ref (ad (8 + k)), .int (nI r), .int (nI fr), .int (nI to)]) (rest := []) ⟨hx, hb, hml, hown, hts⟩ (k_X1_partSum l D S ad cy hS k hk r hr4 fr to (ht1) (by omega)) (cwV 4 hts gX1_sumOfPart_X1_partSum rfl rfl rfl (by decide +kernel) ⟨Nat.le_of_ble_eq_true rfl, Nat.le_of_ble_eq_true rfl⟩) ⟨cs_B.blind, va_recv hK hP (ci := 1) (q0 := 0) rfl rfl, cs_B.at hE hP hK⟩ rfl rfl hl.1 rfl (lv_room (Nat.le_of_ble_eq_true rfl)) dX1_sumOfPart_49 ⟨Nat.le_of_ble_eq_true rfl, Nat.le_of_ble_eq_true rfl⟩) (fun r_49 e_49 => ?_)
        subst e_49
        refine W.widen (k := 3) (n := 18) (Nat.le_of_ble_eq_true rfl) (Nat.le_of_ble_eq_true rfl) ?_
        exact vx_ret (W.iret (v := cs_so (cs_ro S k) (cs_w S k) (cs_ps (cs_w S k) (cs_p S k) (cs_ri S k) (cs_i S k) (cs_by S r) fr (to - fr)) ^^^ cs_x S k) hx hb hr (fun t ht _ => ⟨cs_so (cs_ro S k) (cs_w S k) (cs_ps (cs_w S k) (cs_p S k) (cs_ri S k) (cs_i S k) (cs_by S r) fr (to - fr)) ^^^ cs_x S k, rfl, ⟨by unfold cs_kPar; simp [cs_k1, cs_k2, cs_nS, cs_pl, cs_bRow, cs_bSer, cs_bDef, okM, hkc, okR, rc, h01, h02], by unfold cs_vPar cs_psS; rw [hkc, rc, cs_cI (by omega), cs_cI (by omega)]⟩, ht⟩) (fun q h => by cases h) dX1_sumOfPart_52)
      · have h0 : cs_in b a (nI (cs_ln S r)) = false := cs_inF2 c_29
        exact cs_throw (cls := cs_IOB) (text := "from or to is out of range") hx hb hlf hown hts (by decide +kernel) cs_at3 hE hE.2.1.2.2.1 cs_ot3 (fun _ h => by unfold wsX1_sumOfPart; exact List.mem_cons_of_mem _ (List.mem_append_right _ (h))) (by decide +kernel) (by decide +kernel) (hE.2.2 (103, "from or to is out of range") (by decide +kernel)) hz (hl.1.trans hml.symm) dX1_sumOfPart_32 dX1_sumOfPart_35 dX1_sumOfPart_36 dX1_sumOfPart_38 dX1_sumOfPart_41 hout (Nat.le_of_ble_eq_true rfl) (Nat.le_of_ble_eq_true rfl) (Nat.le_of_ble_eq_true rfl) (Nat.le_of_ble_eq_true rfl) hlocks (Or.inl ⟨(cs_par1 (by rw [rc, h0, Bool.and_false])), rfl⟩) (Nat.le_of_ble_eq_true rfl) (Nat.le_of_ble_eq_true rfl)
set_option maxHeartbeats 4000000 in
set_option maxRecDepth 100000 in
theorem k_X1_remainder (l : Launch) (hlf : l.stackTraces = false) (D : va_G) (S : cs_St) (ad : Nat → Nat) (cy : Nat → ClassId) (hS : cs_ok S) (v u : Int32) : cs_Xi l yX1_remainder wsX1_remainder ({ frames := 7, cells := 2, slots := 12, locals := 103 }) D (cs_tys cy) (cs_L S ad cy) [.ref (ad 0), .int v, .int u] (fun rr => cs_k1 (cs_M S v && cs_in u 0 3) = 0 ∧ rr = cs_vRem S v u) (cs_E (cs_k1 (cs_M S v && cs_in u 0 3)) cs_IOB "" "") 2 12 := by
  refine vx_ofW (cc := cX1_remainder) (maxL := 7) (ret := (some .int)) (by decide) rfl ?_
  intro pg e s m args below meth c s₁ B hml hout hv
  obtain ⟨rfl, hE, hz, hP, hK⟩ := hv
  have hx := B.exec
  have hb := B.bytes
  have hr := B.returns
  have hts := atoms_spec (ws := wsX1_remainder) B.pre
  have hown : s.vm.findClass RX1 = some m.cls := findClass_of_methodNamed B.named
  have hlocks := B.notSynchronized
  have hl := lv_entry ([.ref (ad 0), .int v, .int u]) (n := 7) (Nat.le_of_ble_eq_true rfl)
  rw [lg_entry_eq]
  generalize (lg_sl ([.ref (ad 0), .int v, .int u]) ++ List.replicate (7 - (lg_sl ([.ref (ad 0), .int v, .int u])).length) Slot.unset).toArray = ls at hl ⊢
  have hl : lv_has ls 7 [(0, .ref (ad 0)), (1, .int v), (2, .int u)] := hl
  have hinX1 : ∀ w ∈ wsX10, w ∈ wsX1_remainder := fun _ h => by unfold wsX1_remainder; exact List.mem_cons_of_mem _ (List.mem_append_left _ (List.mem_append_left _ (List.mem_append_right _ (h))))
  have hinX0 : ∀ w ∈ wsX00, w ∈ wsX1_remainder := fun _ h => by unfold wsX1_remainder; exact List.mem_cons_of_mem _ (List.mem_append_left _ (List.mem_append_right _ (h)))
  have h6 := hS.1
  refine lv_aload_n hx hb dX1_remainder_0 rfl (lv_at hl 0 rfl) ?_
  refine lv_iload_n hx hb dX1_remainder_1 rfl (lv_at hl 1 rfl) ?_
  refine cs_xcallr (vx_runV (As := [.int v]) (rest := []) ⟨hx, hb, hml, hown, hts⟩ (k_X1_findModel l hlf D S ad cy hS v) (cwV 1 hts gX1_remainder_X1_findModel rfl rfl rfl (by decide +kernel) ⟨(Nat.le_of_ble_eq_true rfl), (Nat.le_of_ble_eq_true rfl)⟩) ⟨cs_Bx.blind, va_recv hK hP (ci := 1) (q0 := 0) rfl rfl, cs_Bx.at hE hz hP hK⟩ rfl rfl hl.1 rfl (lv_room (Nat.le_of_ble_eq_true rfl)) dX1_remainder_2 ⟨(Nat.le_of_ble_eq_true rfl), (Nat.le_of_ble_eq_true rfl)⟩) (fun E ce q9 H1 h1 h2 h3 h4 h5 h6 => cs_xout hout hlocks (fun E h => Or.inl ⟨(by unfold cs_k1; simp [cs_k1, cs_k2, cs_nS, cs_pl, cs_bRow, cs_bSer, cs_bDef, h.2]), h.1⟩) (Nat.le_of_ble_eq_true rfl) (Nat.le_of_ble_eq_true rfl) E ce q9 H1 h1 h2 h3 h4 h5 h6) (fun okM => ?_)
  obtain ⟨k, hk, rfl⟩ := cs_mod_of hS okM
  have hk31 : k < 2 ^ 31 := by omega
  have hkc : cs_c (nI k) = k := cs_cI hk31
  obtain ⟨hw1, hw2⟩ := hS.2.1 k hk
  refine cs_topv (y := .ref (ad (8 + k))) (by rw [hkc]) ?_
  refine lv_astore_n (lv' := [(3, .ref (ad (8 + k))), (0, .ref (ad 0)), (1, .int (nI k)), (2, .int u)]) hx hb dX1_remainder_5 rfl hl (by decide) rfl (fun ls hl => ?_)
  refine lv_iload_n hx hb dX1_remainder_6 rfl (lv_at hl 3 rfl) ?_
  refine cs_xcallv (vx_runS (As := [.int u]) (rest := []) ⟨hx, hb, hml, hown, hts⟩ (k_X1_requireRow l hlf D S ad cy u) (va_cwS 1 hts gX1_remainder_X1_requireRow rfl rfl rfl (by decide +kernel) ⟨(Nat.le_of_ble_eq_true rfl), (Nat.le_of_ble_eq_true rfl)⟩) ⟨cs_Bx.blind, cs_Bx.at hE hz cs_none hK⟩ rfl rfl hl.1 rfl (lv_room (Nat.le_of_ble_eq_true rfl)) dX1_remainder_7 ⟨(Nat.le_of_ble_eq_true rfl), (Nat.le_of_ble_eq_true rfl)⟩) (fun E ce q9 H1 h1 h2 h3 h4 h5 h6 => cs_xout hout hlocks (fun E h => Or.inl ⟨(by unfold cs_k1; simp [cs_k1, cs_k2, cs_nS, cs_pl, cs_bRow, cs_bSer, cs_bDef, okM, hkc, h.2]), h.1⟩) (Nat.le_of_ble_eq_true rfl) (Nat.le_of_ble_eq_true rfl) E ce q9 H1 h1 h2 h3 h4 h5 h6) (fun okR => ?_)
  obtain ⟨r, hr4, rfl⟩ := cs_row_of okR
  have r31 : r < 2 ^ 31 := by omega
  have rc : cs_c (nI r) = r := cs_cI r31
  have hl8 := hS.2.2.1 r
  refine lv_aload_n hx hb dX1_remainder_10 rfl (lv_at hl 1 rfl) ?_
  refine va_get (D := D) (ci := 1) (v := .ref (ad 3)) (C := RX1) (T := TX1) (N := 4) hx hb hts hinX1 hown hK hP 0 cs_L0 rfl 3 (by decide) (hts (.fieldLink RX1 24 "ChecksumLab" "sizes" "[I") (by decide +kernel)) (fun _ h9 => h9) rfl dX1_remainder_11 ?_
  refine lv_iload_n hx hb dX1_remainder_14 rfl (lv_at hl 3 rfl) ?_
  refine cs_iald hx hb hK hP 3 0 cs_L3 rfl (k := r) (hr4) (by decide) dX1_remainder_15 ?_
  refine cs_top (y := nI (cs_ln S r)) rfl ?_
  refine lv_istore (lv' := [(4, .int (nI (cs_ln S r))), (3, .ref (ad (8 + k))), (0, .ref (ad 0)), (1, .int (nI k)), (2, .int (nI r))]) hx hb dX1_remainder_16 hl (by decide) rfl (fun ls hl => ?_)
  refine lv_iconst (v := 0) hx hb dX1_remainder_18 (by decide) ?_
  refine lv_istore (lv' := [(5, .int 0), (4, .int (nI (cs_ln S r))), (3, .ref (ad (8 + k))), (0, .ref (ad 0)), (1, .int (nI k)), (2, .int (nI r))]) hx hb dX1_remainder_19 hl (by decide) rfl (fun ls hl => ?_)
  refine lv_iconst (v := 0) hx hb dX1_remainder_21 (by decide) ?_
  refine lv_istore (lv' := [(6, .int 0), (5, .int 0), (4, .int (nI (cs_ln S r))), (3, .ref (ad (8 + k))), (0, .ref (ad 0)), (1, .int (nI k)), (2, .int (nI r))]) hx hb dX1_remainder_22 hl (by decide) rfl (fun ls hl => ?_)
  have loop : ∀ (n i : Nat), i + n = cs_ln S r → ∀ ls : Array Slot, lv_has ls 7 [(0, .ref (ad 0)), (2, .int (nI r)), (3, .ref (ad (8 + k))), (4, .int (nI (cs_ln S r))), (5, .int (cs_rs (cs_w S k) (cs_p S k) (cs_by S r) i)), (6, .int (nI i))] → W pg l e (headSpec wsX1_remainder ({ frames := 7, cells := 2, slots := 12, locals := 103 })).room s m [Value.ref (ad 0), Value.int (nI k), Value.int (nI r)].toArray below meth c s.heap [] 2 12 (vx_MQ below (vp_Si (fun rr => cs_k1 (cs_M S (nI k) && cs_in (nI r) 0 3) = 0 ∧ rr = cs_vRem S (nI k) (nI r))) (cs_XC (cs_E (cs_k1 (cs_M S (nI k) && cs_in (nI r) 0 3)) cs_IOB "" "")) [Value.ref (ad 0), Value.int (nI k), Value.int (nI r)].toArray s 2 12 (fun _ => False)) (F0 m 24 ls []) := by
    intro n
    induction n with
    | zero =>
      intro i hi ls hl
      refine lv_iload hx hb dX1_remainder_24 (lv_at hl 5 rfl) ?_
      refine lv_iload hx hb dX1_remainder_26 (lv_at hl 3 rfl) ?_
      refine lv_icmp_ge (tgt := 54) hx hb dX1_remainder_28 (by decide) (fun c_28 => ?_) (fun c_28 => ?_)
      · refine lv_iload hx hb dX1_remainder_54 (lv_at hl 4 rfl) ?_
        refine W.widen (k := 2) (n := 12) (Nat.le_of_ble_eq_true rfl) (Nat.le_of_ble_eq_true rfl) ?_
        exact vx_ret (W.iret (v := cs_rs (cs_w S k) (cs_p S k) (cs_by S r) i) hx hb hr (fun t ht _ => ⟨cs_rs (cs_w S k) (cs_p S k) (cs_by S r) i, rfl, ⟨by unfold cs_k1; simp [cs_k1, cs_k2, cs_nS, cs_pl, cs_bRow, cs_bSer, cs_bDef, okM, hkc, okR, rc], by unfold cs_vRem; rw [hkc, rc, ← hi, Nat.add_zero]⟩, ht⟩) (fun q h => by cases h) dX1_remainder_56)
      · exact absurd (nI_le (a := cs_ln S r) (b := i) (by omega) (by omega)) c_28
    | succ n ih =>
      intro i hi ls hl
      refine lv_iload hx hb dX1_remainder_24 (lv_at hl 5 rfl) ?_
      refine lv_iload hx hb dX1_remainder_26 (lv_at hl 3 rfl) ?_
      refine lv_icmp_ge (tgt := 54) hx hb dX1_remainder_28 (by decide) (fun c_28 => ?_) (fun c_28 => ?_)
      · exact absurd c_28 (nI_ge (a := i) (b := cs_ln S r) (by omega) (by omega))
      · refine lv_aload_n hx hb dX1_remainder_31 rfl (lv_at hl 2 rfl) ?_
        refine lv_iload hx hb dX1_remainder_32 (lv_at hl 4 rfl) ?_
        refine lv_aload_n hx hb dX1_remainder_34 rfl (lv_at hl 0 rfl) ?_
        refine va_get (D := D) (ci := 1) (v := .ref (ad 2)) (C := RX1) (T := TX1) (N := 4) hx hb hts hinX1 hown hK hP 0 cs_L0 rfl 2 (by decide) (hts (.fieldLink RX1 21 "ChecksumLab" "rows" "[[I") (by decide +kernel)) (fun _ h9 => h9) rfl dX1_remainder_35 ?_
        refine lv_iload_n hx hb dX1_remainder_38 rfl (lv_at hl 1 rfl) ?_
        refine cs_aldA hx hb hK hP 2 4 cs_L2 rfl (k := r) (hr4) (by decide) dX1_remainder_39 ?_
        refine cs_topv (y := .ref (ad (4 + r))) (by rw [if_pos (hr4)]; rfl) ?_
        refine lv_iload hx hb dX1_remainder_40 (lv_at hl 5 rfl) ?_
        refine cs_iald hx hb hK hP (4 + r) 0 (cs_Lr hr4) rfl (k := i) (by omega) (by decide) dX1_remainder_42 ?_
        refine cs_top (y := nI (cs_by S r i)) rfl ?_
        refine vp_callSi (W.runV (As := [.int (cs_rs (cs_w S k) (cs_p S k) (cs_by S r) i), .int (nI (cs_by S r i))]) (rest := []) ⟨hx, hb, hml, hown, hts⟩ (k_X0_divideByte l D (cs_tys cy) (ad (8 + k)) (cs_w S k) (cs_p S k) (cs_i S k) (cs_x S k) (cs_ri S k) (cs_ro S k) (cs_rs (cs_w S k) (cs_p S k) (cs_by S r) i) (nI (cs_by S r i))) (cwV 2 hts gX1_remainder_X0_divideByte rfl rfl rfl (by decide +kernel) ⟨Nat.le_of_ble_eq_true rfl, Nat.le_of_ble_eq_true rfl⟩) ⟨cs_B.blind, va_recv hK (cs_one hP (cs_Lm hk)) (ci := 0) (q0 := 0) rfl rfl, cs_B.at hE (cs_one hP (cs_Lm hk)) hK⟩ rfl rfl hl.1 rfl (lv_room (Nat.le_of_ble_eq_true rfl)) dX1_remainder_43 ⟨Nat.le_of_ble_eq_true rfl, Nat.le_of_ble_eq_true rfl⟩) (fun r_43 e_43 => ?_)
        subst e_43
        refine lv_istore (lv' := [(5, .int (cs_dv (cs_w S k) (cs_p S k) (nI (cs_by S r i)) 8 (cs_rs (cs_w S k) (cs_p S k) (cs_by S r) i))), (0, .ref (ad 0)), (2, .int (nI r)), (3, .ref (ad (8 + k))), (4, .int (nI (cs_ln S r))), (6, .int (nI i))]) hx hb dX1_remainder_46 hl (by decide) rfl (fun ls hl => ?_)
        refine lv_iinc (v := nI (i + 1)) (lv' := [(6, .int (nI (i + 1))), (5, .int (cs_dv (cs_w S k) (cs_p S k) (nI (cs_by S r i)) 8 (cs_rs (cs_w S k) (cs_p S k) (cs_by S r) i))), (0, .ref (ad 0)), (2, .int (nI r)), (3, .ref (ad (8 + k))), (4, .int (nI (cs_ln S r)))]) hx hb dX1_remainder_48 hl (k := 5) rfl (cs_inc1 i) (by decide) rfl (fun ls hl => ?_)
        refine lv_goto (tgt := 24) hx hb dX1_remainder_51 (by decide) ?_
        exact ih (i + 1) (by omega) ls (lv_sub hl [2, 3, 4, 5, 1, 0] rfl)
  exact loop (cs_ln S r) 0 (by omega) ls (lv_sub hl [4, 6, 3, 2, 1, 0] rfl)
end
section
/-! a product from the remainder of a byte, sums of longs -/
def cs_bw (w : Nat) (v : Int32) : Prop := ∀ i, w ≤ i → bt v i = false
theorem cs_mkb : ∀ w, w < 33 → ∀ i, i < 32 → bt (cs_mk w) i = decide (i < w) := by decide +kernel
theorem cs_bt2 {v : Int32} {n : Nat} (hn : n < 32) : cs_bit v (nI n) = 1 ↔ bt v n = true := by
  have e : bt (cs_bit v (nI n)) 0 = bt v n := by rw [cs_bt1 v n hn 0 (by decide)]; simp
  constructor
  · intro h
    rw [← e, h]
    decide
  · intro h
    apply b_ext
    intro i hi
    rw [cs_bt1 v n hn i hi, h, Bool.and_true]
    have : ∀ i, i < 32 → decide (i = 0) = bt 1 i := by decide +kernel
    exact this i hi
theorem cs_Tb {w : Nat} {p v : Int32} (h1 : 1 ≤ w) (h2 : w ≤ 32) {i : Nat} (hi : i < 32) : bt (cs_T w p v) i = ((decide (1 ≤ i) && bt v (i - 1) && decide (i < w)) ^^ (bt v (w - 1) && bt p i)) := by
  have e : nI w - 1 = nI (w - 1) := by obtain ⟨n, rfl⟩ : ∃ n, w = n + 1 := ⟨w - 1, by omega⟩; rw [nI_pred]; rfl
  have hh := cs_hi (v := v) h1 h2
  rw [e] at hh
  have h9 := cs_bt2 (v := v) (n := w - 1) (by omega)
  have hs : bt (v <<< ((1 : Int32) &&& 31)) i = (decide (1 ≤ i) && bt v (i - 1)) := b_shl 1 (by omega) v hi
  by_cases c : v &&& cs_hb w = 0
  · rw [cs_T_lo c, b_and, cs_mkb w (by omega) i hi, hs]
    have : bt v (w - 1) = false := by
      rcases Bool.eq_false_or_eq_true (bt v (w - 1)) with z | z
      · exact absurd c (hh.mp (h9.mpr z))
      · exact z
    rw [this]
    simp
  · rw [cs_T_hi c, b_xor, b_and, cs_mkb w (by omega) i hi, hs, h9.mp (hh.mpr c)]
    simp
theorem cs_Tx {w : Nat} {p : Int32} (h1 : 1 ≤ w) (h2 : w ≤ 32) (a b : Int32) : cs_T w p (a ^^^ b) = cs_T w p a ^^^ cs_T w p b := b_ext fun i hi => by
  rw [b_xor, cs_Tb h1 h2 hi, cs_Tb h1 h2 hi, cs_Tb h1 h2 hi, b_xor, b_xor]
  cases decide (1 ≤ i) <;> cases bt a (i - 1) <;> cases bt b (i - 1) <;> cases decide (i < w) <;> cases bt a (w - 1) <;> cases bt b (w - 1) <;> cases bt p i <;> rfl
theorem cs_T0 {w : Nat} {p : Int32} (h1 : 1 ≤ w) (h2 : w ≤ 32) : cs_T w p 0 = 0 := b_ext fun i hi => by
  rw [cs_Tb h1 h2 hi, b_0, b_0, b_0]; simp
theorem cs_pdx {w : Nat} {p : Int32} (h1 : 1 ≤ w) (h2 : w ≤ 32) (b : Int32) : ∀ (n : Nat) (a a' r r' : Int32), cs_pd w p (a ^^^ a') b n (r ^^^ r') = cs_pd w p a b n r ^^^ cs_pd w p a' b n r'
  | 0, _, _, _, _ => rfl
  | n + 1, a, a', r, r' => by
    by_cases c : cs_bit b (nI n) = 1
    · rw [cs_pd_1 c, cs_pd_1 c, cs_pd_1 c, ← cs_pdx h1 h2 b n, cs_Tx h1 h2]
      congr 1
      exact b_ext fun i hi => by simp only [b_xor]; cases bt (cs_T w p r) i <;> cases bt (cs_T w p r') i <;> cases bt a i <;> cases bt a' i <;> rfl
    · rw [cs_pd_0 c, cs_pd_0 c, cs_pd_0 c, ← cs_pdx h1 h2 b n, cs_Tx h1 h2]
theorem cs_pdT {w : Nat} {p : Int32} (h1 : 1 ≤ w) (h2 : w ≤ 32) (b : Int32) : ∀ (n : Nat) (a r : Int32), cs_pd w p (cs_T w p a) b n (cs_T w p r) = cs_T w p (cs_pd w p a b n r)
  | 0, _, _ => rfl
  | n + 1, a, r => by
    by_cases c : cs_bit b (nI n) = 1
    · rw [cs_pd_1 c, cs_pd_1 c, ← cs_pdT h1 h2 b n, cs_Tx h1 h2]
    · rw [cs_pd_0 c, cs_pd_0 c, ← cs_pdT h1 h2 b n]
theorem cs_mulx {w : Nat} {p : Int32} (h1 : 1 ≤ w) (h2 : w ≤ 32) (b a a' : Int32) (n : Nat) : cs_mul w p (a ^^^ a') b n = cs_mul w p a b n ^^^ cs_mul w p a' b n := by
  have := cs_pdx h1 h2 (p := p) b n a a' 0 0
  rwa [show (0 : Int32) ^^^ 0 = 0 from rfl] at this
theorem cs_mulT {w : Nat} {p : Int32} (h1 : 1 ≤ w) (h2 : w ≤ 32) (b a : Int32) (n : Nat) : cs_mul w p (cs_T w p a) b n = cs_T w p (cs_mul w p a b n) := by
  have := cs_pdT h1 h2 (p := p) b n a 0
  rwa [cs_T0 h1 h2] at this
theorem cs_mul0 {w : Nat} {p : Int32} (h1 : 1 ≤ w) (h2 : w ≤ 32) (b : Int32) (n : Nat) : cs_mul w p 0 b n = 0 := by
  have := cs_mulx h1 h2 (p := p) b 0 0 n
  rw [show (0 : Int32) ^^^ 0 = 0 from rfl] at this
  rw [this]
  exact b_ext fun i hi => by rw [b_xor, b_0]; cases bt (cs_mul w p 0 b n) i <;> rfl
theorem cs_mulpd {w : Nat} {p : Int32} (h1 : 1 ≤ w) (h2 : w ≤ 32) (far c : Int32) : ∀ (n : Nat) (a r : Int32), cs_mul w p (cs_pd w p a c n r) far w = cs_pd w p (cs_mul w p a far w) c n (cs_mul w p r far w)
  | 0, _, _ => rfl
  | n + 1, a, r => by
    by_cases c1 : cs_bit c (nI n) = 1
    · rw [cs_pd_1 c1, cs_pd_1 c1, cs_mulpd h1 h2 far c n, cs_mulx h1 h2, cs_mulT h1 h2]
    · rw [cs_pd_0 c1, cs_pd_0 c1, cs_mulpd h1 h2 far c n, cs_mulT h1 h2]
theorem cs_mul1 {w : Nat} {p : Int32} (h1 : 1 ≤ w) (h2 : w ≤ 32) {far : Int32} (hB : cs_bw w far) : ∀ (n : Nat) (r : Int32), n ≤ w → (∀ i, i < 32 → bt r i = bt far (i + n)) → cs_pd w p 1 far n r = far
  | 0, r, _, h => b_ext fun i hi => h i hi
  | n + 1, r, hn, h => by
    have o1 : ∀ i, i < 32 → bt 1 i = decide (i = 0) := by decide +kernel
    have ht : bt r (w - 1) = false := by rw [h (w - 1) (by omega)]; exact hB _ (by omega)
    have hT : ∀ i, i < 32 → bt (cs_T w p r) i = (decide (1 ≤ i) && bt far (i + n)) := fun i hi => by
      rw [cs_Tb h1 h2 hi, ht]
      by_cases z : 1 ≤ i
      · rw [h (i - 1) (by omega), show i - 1 + (n + 1) = i + n by omega]
        by_cases y : i < w
        · simp [y]
        · rw [hB (i + n) (by omega)]; simp
      · simp [z]
    by_cases c1 : cs_bit far (nI n) = 1
    · rw [cs_pd_1 c1]
      refine cs_mul1 h1 h2 hB n _ (by omega) (fun i hi => ?_)
      rw [b_xor, hT i hi, o1 i hi]
      by_cases z : i = 0
      · subst z
        rw [Nat.zero_add, (cs_bt2 (by omega)).mp c1]; rfl
      · have : 1 ≤ i := by omega
        simp [z, this]
    · rw [cs_pd_0 c1]
      refine cs_mul1 h1 h2 hB n _ (by omega) (fun i hi => ?_)
      rw [hT i hi]
      by_cases z : i = 0
      · subst z
        have : bt far n = false := by
          rcases Bool.eq_false_or_eq_true (bt far n) with y | y
          · exact absurd ((cs_bt2 (by omega)).mpr y) c1
          · exact y
        rw [Nat.zero_add, this]; rfl
      · have : 1 ≤ i := by omega
        simp [this]
theorem cs_dv_pd {w : Nat} {p : Int32} (h1 : 1 ≤ w) (h2 : w ≤ 32) (v : Int32) : ∀ (n : Nat) (r : Int32), n ≤ 32 → cs_dv w p v n r = cs_pd w p 1 v n r
  | 0, _, _ => rfl
  | n + 1, r, hn => by
    by_cases c1 : cs_bit v (nI n) = 1
    · rw [cs_pd_1 c1, cs_dv, c1, cs_dv_pd h1 h2 v n _ (by omega)]
    · have c0 : cs_bit v (nI n) = 0 := (cs_b1 (cs_ur v (nI n))).resolve_right c1
      rw [cs_pd_0 c1, cs_dv, c0, cs_dv_pd h1 h2 v n _ (by omega)]
      congr 1
      exact b_ext fun i hi => by rw [b_xor, b_0, Bool.xor_false]
theorem cs_patE {w : Nat} {p : Int32} (h1 : 1 ≤ w) (h2 : w ≤ 32) {far c : Int32} (hB : cs_bw w far) : cs_mul w p (cs_dv w p c 8 0) far w = cs_mul w p far c 8 := by
  rw [cs_dv_pd h1 h2 c 8 0 (by decide), cs_mulpd h1 h2, cs_mul0 h1 h2]
  congr 1
  exact cs_mul1 h1 h2 hB w 0 (Nat.le_refl _) (fun i _ => by rw [b_0, hB _ (by omega)])
theorem cs_bwT {w : Nat} {p : Int32} (h1 : 1 ≤ w) (h2 : w ≤ 32) {v : Int32} (hp : cs_bw w p) : cs_bw w (cs_T w p v) := fun i hi => by
  rcases Nat.lt_or_ge i 32 with h | h
  · rw [cs_Tb h1 h2 h, hp i hi, show decide (i < w) = false from decide_eq_false (by omega)]; simp
  · exact b_big h
theorem cs_bwpd {w : Nat} {p : Int32} (h1 : 1 ≤ w) (h2 : w ≤ 32) (hp : cs_bw w p) (b : Int32) : ∀ (n : Nat) (a r : Int32), cs_bw w a → cs_bw w r → cs_bw w (cs_pd w p a b n r)
  | 0, _, _, _, hr => hr
  | n + 1, a, r, ha, hr => by
    by_cases c : cs_bit b (nI n) = 1
    · rw [cs_pd_1 c]
      exact cs_bwpd h1 h2 hp b n _ _ ha (fun i hi => by rw [b_xor, cs_bwT h1 h2 hp i hi, ha i hi]; rfl)
    · rw [cs_pd_0 c]
      exact cs_bwpd h1 h2 hp b n _ _ ha (cs_bwT h1 h2 hp)
theorem cs_bwpq {w : Nat} {p : Int32} (h1 : 1 ≤ w) (h2 : w ≤ 32) (hp : cs_bw w p) (x : Int64) : ∀ (n : Nat) (r : Int32), cs_bw w r → cs_bw w (cs_pq w p x n r)
  | 0, _, hr => hr
  | n + 1, r, hr => by
    have hm : cs_bw w (cs_mul w p r r w) := cs_bwpd h1 h2 hp r w r 0 hr (fun i _ => b_0 i)
    by_cases c : cs_lb x (nI n) = 1
    · rw [cs_pq_1 c]
      exact cs_bwpq h1 h2 hp x n _ (cs_bwT h1 h2 hp)
    · rw [cs_pq_0 c]
      exact cs_bwpq h1 h2 hp x n _ hm
theorem cs_bwpow {w : Nat} {p : Int32} (h1 : 1 ≤ w) (h2 : w ≤ 32) (hp : cs_bw w p) (x : Int64) : cs_bw w (cs_pow w p x) := cs_bwpq h1 h2 hp x 63 1 (fun i hi => by
  rcases Nat.lt_or_ge i 32 with h | h
  · have o1 : ∀ i, i < 32 → bt 1 i = decide (i = 0) := by decide +kernel
    rw [o1 i h]; exact decide_eq_false (by omega)
  · exact b_big h)
theorem cs_bwnb {w : Nat} {p : Int32} (h1 : 1 ≤ w) (h2 : w ≤ 32) {v : Int32} (h : cs_nb v (nI w) = true) : cs_bw w v := fun i hi => by
  rcases Nat.lt_or_ge i 32 with h3 | h3
  · unfold cs_nb at h
    rw [Bool.or_eq_true, decide_eq_true_eq, decide_eq_true_eq] at h
    rcases h with h | h
    · have := congrArg Int32.toInt h
      rw [nI_toInt (by omega)] at this
      have e : (32 : Int32).toInt = 32 := by decide
      omega
    · have := b_ushr w (by omega) v (i - w)
      rw [show w + (i - w) = i by omega] at this
      rw [← this]
      show bt (cs_ur v (nI w)) _ = false
      rw [h]; exact b_0 _
  · exact b_big h3
/-! numbers of a model keep their width -/
def cs_okp (S : cs_St) : Prop := ∀ k, k < cs_n S → cs_nb (cs_p S k) (nI (cs_w S k)) = true
theorem cs_l64 {u : Nat} (h : u < 2 ^ 31) : (nI u).toInt64.toInt = u := by rw [Int32.toInt_toInt64, nI_toInt h]
theorem cs_fmN {u : Nat} (h : u < 65521) : (cs_fm (nI u).toInt64 65521).toInt32 = nI u := by
  have e : cs_remL (nI u).toInt64 65521 = (nI u).toInt64 := by
    apply Int64.toInt_inj.mp
    rw [cs_rm5, cs_l64 (by omega)]
    exact Int.tmod_eq_of_lt (by omega) (by omega)
  have h0 : ¬ (nI u).toInt64 < 0 := fun z => by
    rw [Int64.lt_iff_toInt_lt, cs_l64 (by omega)] at z
    have e0 : (0 : Int64).toInt = 0 := by decide
    omega
  unfold cs_fm
  rw [e, if_neg h0]
  exact Int32.toInt32_toInt64 _
theorem cs_raN {base : Nat} (h0 : 0 < base) (hb : base ≤ 65521) (a0 : Nat) (ha : a0 < base) {f : Nat → Nat} (hf : ∀ j, f j < 256) : ∀ n, ∃ u v, u < base ∧ v < base ∧ cs_ra (nI base) (nI a0) f n = (nI u, nI v)
  | 0 => ⟨a0, 0, ha, h0, rfl⟩
  | n + 1 => by
    obtain ⟨u, v, h1, h2, e⟩ := cs_raN h0 hb a0 ha hf n
    have hfn := hf n
    have e1 : cs_rem (nI u + nI (f n)) (nI base) = nI ((u + f n) % base) := by rw [nI_add]; exact pk_rem (by omega) h0 (by omega)
    have l1 : (u + f n) % base < base := Nat.mod_lt _ h0
    have e2 : cs_rem (nI v + nI ((u + f n) % base)) (nI base) = nI ((v + (u + f n) % base) % base) := by rw [nI_add]; exact pk_rem (by omega) h0 (by omega)
    refine ⟨(u + f n) % base, (v + (u + f n) % base) % base, l1, Nat.mod_lt _ h0, ?_⟩
    rw [cs_ra, e]
    show (cs_rem (nI u + nI (f n)) (nI base), cs_rem (nI v + cs_rem (nI u + nI (f n)) (nI base)) (nI base)) = _
    rw [e1, e2]
theorem cs_adlN {f : Nat → Nat} (hf : ∀ j, f j < 256) (n : Nat) : cs_ad (cs_ra 65521 1 f n).1.toInt64 (cs_ra 65521 1 f n).2.toInt64 = 65536 * (cs_ra 65521 1 f n).2 + (cs_ra 65521 1 f n).1 := by
  obtain ⟨u, v, h1, h2, e⟩ := cs_raN (base := 65521) (by decide) (by decide) 1 (by decide) hf n
  have e' : cs_ra 65521 1 f n = (nI u, nI v) := e
  rw [e']
  unfold cs_ad
  rw [cs_fmN h1, cs_fmN h2]
theorem cs_and16 (v : Int32) : ∃ u, u < 65536 ∧ v &&& 65535 = nI u := by
  refine ⟨v.toBitVec.toNat % 65536, Nat.mod_lt _ (by decide), ?_⟩
  apply Int32.toBitVec_inj.mp
  apply BitVec.eq_of_toNat_eq
  rw [Int32.toBitVec_and, BitVec.toNat_and, show (65535 : Int32).toBitVec.toNat = 2 ^ 16 - 1 by decide, Nat.and_two_pow_sub_one_eq_mod]
  show v.toBitVec.toNat % 2 ^ 16 = (BitVec.ofNat 32 (v.toBitVec.toNat % 65536)).toNat
  rw [BitVec.toNat_ofNat]
  omega
theorem cs_ur16 (v : Int32) : ∃ u, u < 65536 ∧ cs_ur v 16 = nI u := by
  have e : cs_ur v 16 = cs_ur v 16 &&& 65535 := b_ext fun i hi => by
    rw [b_and, b_65535]
    have := b_ushr 16 (by decide) v i
    have h9 : bt (cs_ur v 16) i = bt v (16 + i) := this
    rw [h9]
    by_cases z : i < 16
    · simp [z]
    · rw [b_big (by omega)]; rfl
  obtain ⟨u, h, h1⟩ := cs_and16 (cs_ur v 16)
  exact ⟨u, h, by rw [e, h1]⟩
theorem cs_l64i (x : Int32) : x.toInt64.toInt = x.toInt := Int32.toInt_toInt64 x
theorem cs_addL {x y : Int32} (h : -2147483648 ≤ x.toInt + y.toInt) (h' : x.toInt + y.toInt < 2147483648) : (x + y).toInt64 = x.toInt64 + y.toInt64 := by
  apply Int64.toInt_inj.mp
  rw [Int64.toInt_add, cs_l64i, cs_l64i, cs_l64i, Int32.toInt_add, Int.bmod_eq_of_le (by omega) (by omega), Int.bmod_eq_of_le (by omega) (by omega)]
theorem cs_subL {x y : Int32} (h : -2147483648 ≤ x.toInt - y.toInt) (h' : x.toInt - y.toInt < 2147483648) : (x - y).toInt64 = x.toInt64 - y.toInt64 := by
  apply Int64.toInt_inj.mp
  rw [Int64.toInt_sub, cs_l64i, cs_l64i, cs_l64i, Int32.toInt_sub, Int.bmod_eq_of_le (by omega) (by omega), Int.bmod_eq_of_le (by omega) (by omega)]
theorem cs_adjE {a b n : Int32} : cs_ad ((a &&& 65535).toInt64 + (b &&& 65535).toInt64 - 1) ((cs_ur a 16).toInt64 + (cs_ur b 16).toInt64 + n.toInt64 * ((a &&& 65535).toInt64 - 1)) = cs_vAdj a b n := by
  obtain ⟨u, hu, eu⟩ := cs_and16 a
  obtain ⟨v, hv, ev⟩ := cs_and16 b
  obtain ⟨u', hu', eu'⟩ := cs_ur16 a
  obtain ⟨v', hv', ev'⟩ := cs_ur16 b
  have i1 := nI_toInt (n := u) (by omega)
  have i2 := nI_toInt (n := v) (by omega)
  have i3 := nI_toInt (n := u') (by omega)
  have i4 := nI_toInt (n := v') (by omega)
  have o : (1 : Int32).toInt = 1 := by decide
  have i5 : (nI u + nI v).toInt = u + v := by rw [nI_add, nI_toInt (by omega)]; omega
  have a1 : (nI u + nI v).toInt64 = (nI u).toInt64 + (nI v).toInt64 := cs_addL (by omega) (by omega)
  have a2 : (nI u + nI v - 1).toInt64 = (nI u + nI v).toInt64 - (1 : Int32).toInt64 := cs_subL (by omega) (by omega)
  have a3 : (nI u - 1).toInt64 = (nI u).toInt64 - (1 : Int32).toInt64 := cs_subL (by omega) (by omega)
  have a4 : (nI u' + nI v').toInt64 = (nI u').toInt64 + (nI v').toInt64 := cs_addL (by omega) (by omega)
  unfold cs_vAdj
  rw [eu, ev, eu', ev', a2, a1, a3, a4]
  rfl
theorem cs_adrE {a n : Int32} {o i : Nat} (ho : o < 256) (hi : i < 256) : cs_ad ((a &&& 65535).toInt64 + (nI i).toInt64 - (nI o).toInt64) ((cs_ur a 16).toInt64 - n.toInt64 * (nI o).toInt64 + ((a &&& 65535).toInt64 + (nI i).toInt64 - (nI o).toInt64) - 1) = cs_vAdr a n (nI o) (nI i) := by
  obtain ⟨u, hu, eu⟩ := cs_and16 a
  have i1 := nI_toInt (n := u) (by omega)
  have i2 := nI_toInt (n := i) (by omega)
  have i3 := nI_toInt (n := o) (by omega)
  have i5 : (nI u + nI i).toInt = u + i := by rw [nI_add, nI_toInt (by omega)]; omega
  have a1 : (nI u + nI i).toInt64 = (nI u).toInt64 + (nI i).toInt64 := cs_addL (by omega) (by omega)
  have a2 : (nI u + nI i - nI o).toInt64 = (nI u + nI i).toInt64 - (nI o).toInt64 := cs_subL (by omega) (by omega)
  unfold cs_vAdr
  rw [eu, a2, a1]
end
section
theorem cs_roomF {l c : Nat} (hl : l ≤ 256) (hc : c ≤ 256) (h : decide (nI c ≤ 256 - nI l) = false) : ¬ l + c ≤ 256 := fun z => of_decide_eq_false h ((cs_room hl hc).mpr z)
theorem cs_rowF {S : cs_St} {r l m o i : Nat} (hi : i < cs_ln S o) : cs_by (cs_put S r l (cs_fil (cs_by S r) (cs_by S o) (cs_ln S r) m)) o i = cs_by S o i := by
  by_cases h : o = r
  · subst h
    rw [cs_put_by, cs_fil_lo hi]
  · rw [cs_put_byN h]
theorem cs_kApp3 {S : cs_St} {r : Nat} {a : Int32} (hr : cs_in (nI r) 0 3 = true) (ha : cs_in a 0 255 = true) (rc : cs_c (nI r) = r) (hl : cs_ln S r ≤ 256) (h : decide (1 ≤ 256 - nI (cs_ln S r)) = false) : cs_kApp S (nI r) a = 3 := by
  have := cs_roomF hl (c := 1) (by decide) h
  unfold cs_kApp
  rw [if_pos hr, if_pos ha, rc, if_pos (by omega)]
theorem cs_kApp0 {S : cs_St} {r : Nat} {a : Int32} (hr : cs_in (nI r) 0 3 = true) (ha : cs_in a 0 255 = true) (rc : cs_c (nI r) = r) (hl : cs_ln S r ≤ 256) (h : 1 ≤ 256 - nI (cs_ln S r)) : cs_kApp S (nI r) a = 0 ∧ cs_ln S r + 1 ≤ 256 := by
  have := (cs_room hl (c := 1) (by decide)).mp h
  unfold cs_kApp
  rw [if_pos hr, if_pos ha, rc, if_neg (by omega)]
  exact ⟨rfl, this⟩
theorem cs_kSer3 {S : cs_St} {r n : Nat} {a b : Int32} (hr : cs_in (nI r) 0 3 = true) (ha : cs_bSer a b (nI n) = true) (rc : cs_c (nI r) = r) (nc : cs_c (nI n) = n) (hl : cs_ln S r ≤ 256) (hn : n ≤ 256) (h : decide (nI n ≤ 256 - nI (cs_ln S r)) = false) : cs_kSer S (nI r) a b (nI n) = 3 := by
  have := cs_roomF hl hn h
  unfold cs_kSer
  rw [if_pos hr, if_pos ha, rc, nc, if_pos (by omega)]
theorem cs_kSer0 {S : cs_St} {r n : Nat} {a b : Int32} (hr : cs_in (nI r) 0 3 = true) (ha : cs_bSer a b (nI n) = true) (rc : cs_c (nI r) = r) (nc : cs_c (nI n) = n) (hl : cs_ln S r ≤ 256) (hn : n ≤ 256) (h : nI n ≤ 256 - nI (cs_ln S r)) : cs_kSer S (nI r) a b (nI n) = 0 ∧ cs_ln S r + n ≤ 256 := by
  have := (cs_room hl hn).mp h
  unfold cs_kSer
  rw [if_pos hr, if_pos ha, rc, nc, if_neg (by omega)]
  exact ⟨rfl, this⟩
theorem cs_kRow2 {S : cs_St} {r o : Nat} (hr : cs_in (nI r) 0 3 = true) (ho : cs_in (nI o) 0 3 = true) (rc : cs_c (nI r) = r) (oc : cs_c (nI o) = o) (hl : cs_ln S r ≤ 256) (hn : cs_ln S o ≤ 256) (h : decide (nI (cs_ln S o) ≤ 256 - nI (cs_ln S r)) = false) : cs_kRow S (nI r) (nI o) = 2 := by
  have := cs_roomF hl hn h
  exact cs_k2_2 (by unfold cs_bRow; rw [hr, ho]; rfl) (by rw [rc, oc, decide_eq_false this, Bool.and_false])
theorem cs_kRow0 {S : cs_St} {r o : Nat} (hr : cs_in (nI r) 0 3 = true) (ho : cs_in (nI o) 0 3 = true) (rc : cs_c (nI r) = r) (oc : cs_c (nI o) = o) (hl : cs_ln S r ≤ 256) (hn : cs_ln S o ≤ 256) (h : nI (cs_ln S o) ≤ 256 - nI (cs_ln S r)) : cs_kRow S (nI r) (nI o) = 0 ∧ cs_ln S r + cs_ln S o ≤ 256 := by
  have := (cs_room hl hn).mp h
  exact ⟨cs_k2_0.mpr (by unfold cs_bRow; rw [hr, ho, rc, oc, decide_eq_true this]; rfl), this⟩
end
section
set_option maxHeartbeats 4000000 in
set_option maxRecDepth 100000 in
theorem k_X1_append (l : Launch) (hlf : l.stackTraces = false) (D : va_G) (S : cs_St) (ad : Nat → Nat) (cy : Nat → ClassId) (sz : Nat) (hS : cs_ok S) (v u : Int32) : cs_Xw l yX1_append wsX1_append ({ frames := 7, cells := 3, slots := 18, locals := 104 }) D (cs_tys cy) (cs_L S ad cy) sz [.ref (ad 0), .int v, .int u] (fun (_ : Unit) => cs_L (cs_sApp S v u) ad cy) (fun rr _ => cs_kApp S v u = 0 ∧ rr = cs_vApp S v) (cs_E (cs_kApp S v u) cs_IOB cs_IAE cs_ISE) 3 18 := by
  refine vx_ofW (cc := cX1_append) (maxL := 3) (ret := (some .int)) (by decide) rfl ?_
  intro pg e s m args below meth c s₁ B hml hout hv
  obtain ⟨rfl, hsz, hE, hz9, hP, hK, hD0⟩ := hv
  subst hsz
  have hD := hD0.self (sz := s.heap.size)
  have hA : ∀ q : Nat, s.heap.size ≤ q → va_A (cs_L S ad cy) s.heap.size q := fun q h => Or.inr h
  have hS9 : va_S (va_A (cs_L S ad cy) s.heap.size) s.heap s.heap [] := va_S.rf
  have hz := hz9.narrow (B := fun q => s.heap.size ≤ q) (fun q h => Or.inr h)
  have hx := B.exec
  have hb := B.bytes
  have hr := B.returns
  have hts := atoms_spec (ws := wsX1_append) B.pre
  have hown : s.vm.findClass RX1 = some m.cls := findClass_of_methodNamed B.named
  have hlocks := B.notSynchronized
  have hl := lv_entry ([.ref (ad 0), .int v, .int u]) (n := 3) (Nat.le_of_ble_eq_true rfl)
  rw [lg_entry_eq]
  generalize (lg_sl ([.ref (ad 0), .int v, .int u]) ++ List.replicate (3 - (lg_sl ([.ref (ad 0), .int v, .int u])).length) Slot.unset).toArray = ls at hl ⊢
  have hl : lv_has ls 3 [(0, .ref (ad 0)), (1, .int v), (2, .int u)] := hl
  have hinX1 : ∀ w ∈ wsX10, w ∈ wsX1_append := fun _ h => by unfold wsX1_append; exact List.mem_cons_of_mem _ (List.mem_append_left _ (List.mem_append_left _ (List.mem_append_left _ (List.mem_append_right _ (h)))))
  have h6 := hS.1
  refine lv_iload_n hx hb dX1_append_0 rfl (lv_at hl 1 rfl) ?_
  refine cs_xcallv (vx_runS (As := [.int v]) (rest := []) ⟨hx, hb, hml, hown, hts⟩ (k_X1_requireRow l hlf D S ad cy v) (va_cwS 1 hts gX1_append_X1_requireRow rfl rfl rfl (by decide +kernel) ⟨(Nat.le_of_ble_eq_true rfl), (Nat.le_of_ble_eq_true rfl)⟩) ⟨cs_Bx.blind, cs_Bx.at hE hz cs_none hK⟩ rfl rfl hl.1 rfl (lv_room (Nat.le_of_ble_eq_true rfl)) dX1_append_1 ⟨(Nat.le_of_ble_eq_true rfl), (Nat.le_of_ble_eq_true rfl)⟩) (fun E ce q9 H1 h1 h2 h3 h4 h5 h6 => cs_xout hout hlocks (fun E h => Or.inl ⟨(by unfold cs_kApp; simp [cs_k1, cs_k2, cs_nS, cs_pl, cs_bRow, cs_bSer, cs_bDef, h.2]), h.1⟩) (Nat.le_of_ble_eq_true rfl) (Nat.le_of_ble_eq_true rfl) E ce q9 H1 h1 h2 h3 h4 h5 h6) (fun okR => ?_)
  obtain ⟨r, hr4, rfl⟩ := cs_row_of okR
  have r31 : r < 2 ^ 31 := by omega
  have rc : cs_c (nI r) = r := cs_cI r31
  have hl8 := hS.2.2.1 r
  refine lv_iload_n hx hb dX1_append_4 rfl (lv_at hl 2 rfl) ?_
  refine cs_xcallv (vx_runS (As := [.int u]) (rest := []) ⟨hx, hb, hml, hown, hts⟩ (k_X1_requireByte l hlf D S ad cy u) (va_cwS 1 hts gX1_append_X1_requireByte rfl rfl rfl (by decide +kernel) ⟨(Nat.le_of_ble_eq_true rfl), (Nat.le_of_ble_eq_true rfl)⟩) ⟨cs_Bx.blind, cs_Bx.at hE hz cs_none hK⟩ rfl rfl hl.1 rfl (lv_room (Nat.le_of_ble_eq_true rfl)) dX1_append_5 ⟨(Nat.le_of_ble_eq_true rfl), (Nat.le_of_ble_eq_true rfl)⟩) (fun E ce q9 H1 h1 h2 h3 h4 h5 h6 => cs_xout hout hlocks (fun E h => Or.inr (Or.inl ⟨(by unfold cs_kApp; simp [cs_k1, cs_k2, cs_nS, cs_pl, cs_bRow, cs_bSer, cs_bDef, okR, rc, h.2]), h.1⟩)) (Nat.le_of_ble_eq_true rfl) (Nat.le_of_ble_eq_true rfl) E ce q9 H1 h1 h2 h3 h4 h5 h6) (fun okB => ?_)
  obtain ⟨b, hbz, rfl⟩ := cs_byte_of okB
  have b31 : b < 2 ^ 31 := by omega
  have bc : cs_c (nI b) = b := cs_cI b31
  refine lv_aload_n hx hb dX1_append_8 rfl (lv_at hl 0 rfl) ?_
  refine lv_iload_n hx hb dX1_append_9 rfl (lv_at hl 1 rfl) ?_
  refine lv_iconst (v := 1) hx hb dX1_append_10 (by decide) ?_
  refine cs_xcallv (vx_runV (As := [.int (nI r), .int 1]) (rest := []) ⟨hx, hb, hml, hown, hts⟩ (k_X1_requireRoom l hlf D S ad cy r hr4 1) (cwV 2 hts gX1_append_X1_requireRoom rfl rfl rfl (by decide +kernel) ⟨(Nat.le_of_ble_eq_true rfl), (Nat.le_of_ble_eq_true rfl)⟩) ⟨cs_Bx.blind, va_recv hK hP (ci := 1) (q0 := 0) rfl rfl, cs_Bx.at hE hz hP hK⟩ rfl rfl hl.1 rfl (lv_room (Nat.le_of_ble_eq_true rfl)) dX1_append_11 ⟨(Nat.le_of_ble_eq_true rfl), (Nat.le_of_ble_eq_true rfl)⟩) (fun E ce q9 H1 h1 h2 h3 h4 h5 h6 => cs_xout hout hlocks (fun E h => Or.inr (Or.inr ⟨(cs_kApp3 okR okB rc hl8 h.2), h.1⟩)) (Nat.le_of_ble_eq_true rfl) (Nat.le_of_ble_eq_true rfl) E ce q9 H1 h1 h2 h3 h4 h5 h6) (fun okQ => ?_)
  obtain ⟨ek, hl9⟩ := cs_kApp0 okR okB rc hl8 okQ
  have es : cs_sApp S (nI r) (nI b) = cs_put S r (cs_ln S r + 1) (va_up (cs_by S r) (cs_ln S r) b) := by unfold cs_sApp; rw [if_pos ek, rc, bc]
  refine lv_aload_n hx hb dX1_append_14 rfl (lv_at hl 0 rfl) ?_
  refine va_get (D := D) (ci := 1) (v := .ref (ad 2)) (C := RX1) (T := TX1) (N := 4) hx hb hts hinX1 hown hK hP 0 cs_L0 rfl 2 (by decide) (hts (.fieldLink RX1 21 "ChecksumLab" "rows" "[[I") (by decide +kernel)) (fun _ h9 => h9) rfl dX1_append_15 ?_
  refine lv_iload_n hx hb dX1_append_18 rfl (lv_at hl 1 rfl) ?_
  refine cs_aldA hx hb hK hP 2 4 cs_L2 rfl (k := r) (hr4) (by decide) dX1_append_19 ?_
  refine cs_topv (y := .ref (ad (4 + r))) (by rw [if_pos (hr4)]; rfl) ?_
  refine lv_aload_n hx hb dX1_append_20 rfl (lv_at hl 0 rfl) ?_
  refine va_get (D := D) (ci := 1) (v := .ref (ad 3)) (C := RX1) (T := TX1) (N := 4) hx hb hts hinX1 hown hK hP 0 cs_L0 rfl 3 (by decide) (hts (.fieldLink RX1 24 "ChecksumLab" "sizes" "[I") (by decide +kernel)) (fun _ h9 => h9) rfl dX1_append_21 ?_
  refine lv_iload_n hx hb dX1_append_24 rfl (lv_at hl 1 rfl) ?_
  refine cs_iald hx hb hK hP 3 0 cs_L3 rfl (k := r) (hr4) (by decide) dX1_append_25 ?_
  refine cs_top (y := nI (cs_ln S r)) rfl ?_
  refine lv_iload_n hx hb dX1_append_26 rfl (lv_at hl 2 rfl) ?_
  refine cs_iast hx hb hK hP hD hS9 (4 + r) 0 (cs_Lr hr4) rfl (k := cs_ln S r) (by omega) (by decide) dX1_append_27 (fun H locs hP hD hS9 => ?_)
  rw [cs_LsetR hr4] at hP hD
  have hP : va_P D vwCl (cs_L (cs_put S r (cs_ln S r) (va_up (cs_by S r) (cs_ln S r) b)) ad cy) H := hP
  have hD : va_D (va_A (cs_L S ad cy) s.heap.size) (cs_L (cs_put S r (cs_ln S r) (va_up (cs_by S r) (cs_ln S r) b)) ad cy) := hD
  refine lv_aload_n hx hb dX1_append_28 rfl (lv_at hl 0 rfl) ?_
  refine va_get (D := D) (ci := 1) (v := .ref (ad 3)) (C := RX1) (T := TX1) (N := 4) hx hb hts hinX1 hown hK hP 0 cs_L0 rfl 3 (by decide) (hts (.fieldLink RX1 24 "ChecksumLab" "sizes" "[I") (by decide +kernel)) (fun _ h9 => h9) rfl dX1_append_29 ?_
  refine lv_iload_n hx hb dX1_append_32 rfl (lv_at hl 1 rfl) ?_
  refine lv_dup2_11 hx hb dX1_append_33 rfl rfl ?_
  refine cs_iald hx hb hK hP 3 0 cs_L3 rfl (k := r) (hr4) (by decide) dX1_append_34 ?_
  refine cs_top (y := nI (cs_ln S r)) (congrArg nI cs_put_ln) ?_
  refine lv_iconst (v := 1) hx hb dX1_append_35 (by decide) ?_
  refine lv_iadd hx hb dX1_append_36 ?_
  refine cs_top (y := nI (cs_ln S r + 1)) (nI_1 _) ?_
  refine cs_iast hx hb hK hP hD hS9 3 0 cs_L3 rfl (k := r) (hr4) (by decide) dX1_append_37 (fun H locs hP hD hS9 => ?_)
  rw [cs_LsetL, cs_put_by, cs_put_put] at hP hD
  have hP : va_P D vwCl (cs_L (cs_put S r (cs_ln S r + 1) (va_up (cs_by S r) (cs_ln S r) b)) ad cy) H := hP
  have hD : va_D (va_A (cs_L S ad cy) s.heap.size) (cs_L (cs_put S r (cs_ln S r + 1) (va_up (cs_by S r) (cs_ln S r) b)) ad cy) := hD
  refine lv_aload_n hx hb dX1_append_38 rfl (lv_at hl 0 rfl) ?_
  refine va_get (D := D) (ci := 1) (v := .ref (ad 3)) (C := RX1) (T := TX1) (N := 4) hx hb hts hinX1 hown hK hP 0 cs_L0 rfl 3 (by decide) (hts (.fieldLink RX1 24 "ChecksumLab" "sizes" "[I") (by decide +kernel)) (fun _ h9 => h9) rfl dX1_append_39 ?_
  refine lv_iload_n hx hb dX1_append_42 rfl (lv_at hl 1 rfl) ?_
  refine cs_iald hx hb hK hP 3 0 cs_L3 rfl (k := r) (hr4) (by decide) dX1_append_43 ?_
  refine cs_top (y := nI (cs_ln S r + 1)) (congrArg nI cs_put_ln) ?_
  refine W.widen (k := 3) (n := 18) (Nat.le_of_ble_eq_true rfl) (Nat.le_of_ble_eq_true rfl) ?_
  exact vx_ret (W.iret (v := nI (cs_ln S r + 1)) hx hb hr (fun t ht _ => ⟨nI (cs_ln S r + 1), (), rfl, ⟨ek, by unfold cs_vApp; rw [rc]⟩, by rw [ht, es]; exact hP, by rw [es]; exact hD, hS9.F ht⟩) hS9.2.2 dX1_append_44)
set_option maxHeartbeats 4000000 in
set_option maxRecDepth 100000 in
theorem k_X1_setByte (l : Launch) (hlf : l.stackTraces = false) (D : va_G) (S : cs_St) (ad : Nat → Nat) (cy : Nat → ClassId) (sz : Nat) (hS : cs_ok S) (v u d : Int32) : cs_Xw l yX1_setByte wsX1_setByte ({ frames := 7, cells := 3, slots := 18, locals := 104 }) D (cs_tys cy) (cs_L S ad cy) sz [.ref (ad 0), .int v, .int u, .int d] (fun (_ : Unit) => cs_L (cs_sSet S v u d) ad cy) (fun rr _ => cs_kSet S v u d = 0 ∧ rr = cs_vByt S v u) (cs_E (cs_kSet S v u d) cs_IOB cs_IAE "") 3 18 := by
  refine vx_ofW (cc := cX1_setByte) (maxL := 5) (ret := (some .int)) (by decide) rfl ?_
  intro pg e s m args below meth c s₁ B hml hout hv
  obtain ⟨rfl, hsz, hE, hz9, hP, hK, hD0⟩ := hv
  subst hsz
  have hD := hD0.self (sz := s.heap.size)
  have hA : ∀ q : Nat, s.heap.size ≤ q → va_A (cs_L S ad cy) s.heap.size q := fun q h => Or.inr h
  have hS9 : va_S (va_A (cs_L S ad cy) s.heap.size) s.heap s.heap [] := va_S.rf
  have hz := hz9.narrow (B := fun q => s.heap.size ≤ q) (fun q h => Or.inr h)
  have hx := B.exec
  have hb := B.bytes
  have hr := B.returns
  have hts := atoms_spec (ws := wsX1_setByte) B.pre
  have hown : s.vm.findClass RX1 = some m.cls := findClass_of_methodNamed B.named
  have hlocks := B.notSynchronized
  have hl := lv_entry ([.ref (ad 0), .int v, .int u, .int d]) (n := 5) (Nat.le_of_ble_eq_true rfl)
  rw [lg_entry_eq]
  generalize (lg_sl ([.ref (ad 0), .int v, .int u, .int d]) ++ List.replicate (5 - (lg_sl ([.ref (ad 0), .int v, .int u, .int d])).length) Slot.unset).toArray = ls at hl ⊢
  have hl : lv_has ls 5 [(0, .ref (ad 0)), (1, .int v), (2, .int u), (3, .int d)] := hl
  have hinX1 : ∀ w ∈ wsX10, w ∈ wsX1_setByte := fun _ h => by unfold wsX1_setByte; exact List.mem_cons_of_mem _ (List.mem_append_left _ (List.mem_append_left _ (List.mem_append_right _ (h))))
  have h6 := hS.1
  refine lv_iload_n hx hb dX1_setByte_0 rfl (lv_at hl 1 rfl) ?_
  refine cs_xcallv (vx_runS (As := [.int v]) (rest := []) ⟨hx, hb, hml, hown, hts⟩ (k_X1_requireRow l hlf D S ad cy v) (va_cwS 1 hts gX1_setByte_X1_requireRow rfl rfl rfl (by decide +kernel) ⟨(Nat.le_of_ble_eq_true rfl), (Nat.le_of_ble_eq_true rfl)⟩) ⟨cs_Bx.blind, cs_Bx.at hE hz cs_none hK⟩ rfl rfl hl.1 rfl (lv_room (Nat.le_of_ble_eq_true rfl)) dX1_setByte_1 ⟨(Nat.le_of_ble_eq_true rfl), (Nat.le_of_ble_eq_true rfl)⟩) (fun E ce q9 H1 h1 h2 h3 h4 h5 h6 => cs_xout hout hlocks (fun E h => Or.inl ⟨(by unfold cs_kSet; simp [cs_k1, cs_k2, cs_nS, cs_pl, cs_bRow, cs_bSer, cs_bDef, h.2]), h.1⟩) (Nat.le_of_ble_eq_true rfl) (Nat.le_of_ble_eq_true rfl) E ce q9 H1 h1 h2 h3 h4 h5 h6) (fun okR => ?_)
  obtain ⟨r, hr4, rfl⟩ := cs_row_of okR
  have r31 : r < 2 ^ 31 := by omega
  have rc : cs_c (nI r) = r := cs_cI r31
  have hl8 := hS.2.2.1 r
  refine lv_aload_n hx hb dX1_setByte_4 rfl (lv_at hl 0 rfl) ?_
  refine lv_iload_n hx hb dX1_setByte_5 rfl (lv_at hl 1 rfl) ?_
  refine lv_iload_n hx hb dX1_setByte_6 rfl (lv_at hl 2 rfl) ?_
  have rc7 : (nI r).toNatClampNeg = r := rc
  refine cs_xcallv (vx_runV (As := [.int (nI r), .int u]) (rest := []) ⟨hx, hb, hml, hown, hts⟩ (k_X1_requireIndex l hlf D S ad cy hS r hr4 u) (cwV 2 hts gX1_setByte_X1_requireIndex rfl rfl rfl (by decide +kernel) ⟨(Nat.le_of_ble_eq_true rfl), (Nat.le_of_ble_eq_true rfl)⟩) ⟨cs_Bx.blind, va_recv hK hP (ci := 1) (q0 := 0) rfl rfl, cs_Bx.at hE hz hP hK⟩ rfl rfl hl.1 rfl (lv_room (Nat.le_of_ble_eq_true rfl)) dX1_setByte_7 ⟨(Nat.le_of_ble_eq_true rfl), (Nat.le_of_ble_eq_true rfl)⟩) (fun E ce q9 H1 h1 h2 h3 h4 h5 h6 => cs_xout hout hlocks (fun E h => Or.inl ⟨(by unfold cs_kSet; simp [cs_k1, cs_k2, cs_nS, cs_pl, cs_bRow, cs_bSer, cs_bDef, okR, rc, rc7, h.2]), h.1⟩) (Nat.le_of_ble_eq_true rfl) (Nat.le_of_ble_eq_true rfl) E ce q9 H1 h1 h2 h3 h4 h5 h6) (fun okI => ?_)
  obtain ⟨j, hj, rfl⟩ := cs_idx hl8 okI
  have jc : cs_c (nI j) = j := cs_cI (by omega)
  refine lv_iload_n hx hb dX1_setByte_10 rfl (lv_at hl 3 rfl) ?_
  refine cs_xcallv (vx_runS (As := [.int d]) (rest := []) ⟨hx, hb, hml, hown, hts⟩ (k_X1_requireByte l hlf D S ad cy d) (va_cwS 1 hts gX1_setByte_X1_requireByte rfl rfl rfl (by decide +kernel) ⟨(Nat.le_of_ble_eq_true rfl), (Nat.le_of_ble_eq_true rfl)⟩) ⟨cs_Bx.blind, cs_Bx.at hE hz cs_none hK⟩ rfl rfl hl.1 rfl (lv_room (Nat.le_of_ble_eq_true rfl)) dX1_setByte_11 ⟨(Nat.le_of_ble_eq_true rfl), (Nat.le_of_ble_eq_true rfl)⟩) (fun E ce q9 H1 h1 h2 h3 h4 h5 h6 => cs_xout hout hlocks (fun E h => Or.inr (Or.inl ⟨(by unfold cs_kSet; simp [cs_k1, cs_k2, cs_nS, cs_pl, cs_bRow, cs_bSer, cs_bDef, okR, rc, rc7, okI, jc, h.2]), h.1⟩)) (Nat.le_of_ble_eq_true rfl) (Nat.le_of_ble_eq_true rfl) E ce q9 H1 h1 h2 h3 h4 h5 h6) (fun okB => ?_)
  obtain ⟨b, hbz, rfl⟩ := cs_byte_of okB
  have b31 : b < 2 ^ 31 := by omega
  have bc : cs_c (nI b) = b := cs_cI b31
  have ek : cs_kSet S (nI r) (nI j) (nI b) = 0 := (by unfold cs_kSet; simp [cs_k1, cs_k2, cs_nS, cs_pl, cs_bRow, cs_bSer, cs_bDef, okR, rc, rc7, okI, jc, okB, bc])
  have es : cs_sSet S (nI r) (nI j) (nI b) = cs_put S r (cs_ln S r) (va_up (cs_by S r) j b) := by unfold cs_sSet; rw [if_pos ek, rc, jc, bc]
  refine lv_aload_n hx hb dX1_setByte_14 rfl (lv_at hl 0 rfl) ?_
  refine va_get (D := D) (ci := 1) (v := .ref (ad 2)) (C := RX1) (T := TX1) (N := 4) hx hb hts hinX1 hown hK hP 0 cs_L0 rfl 2 (by decide) (hts (.fieldLink RX1 21 "ChecksumLab" "rows" "[[I") (by decide +kernel)) (fun _ h9 => h9) rfl dX1_setByte_15 ?_
  refine lv_iload_n hx hb dX1_setByte_18 rfl (lv_at hl 1 rfl) ?_
  refine cs_aldA hx hb hK hP 2 4 cs_L2 rfl (k := r) (hr4) (by decide) dX1_setByte_19 ?_
  refine cs_topv (y := .ref (ad (4 + r))) (by rw [if_pos (hr4)]; rfl) ?_
  refine lv_iload_n hx hb dX1_setByte_20 rfl (lv_at hl 2 rfl) ?_
  refine cs_iald hx hb hK hP (4 + r) 0 (cs_Lr hr4) rfl (k := j) (by omega) (by decide) dX1_setByte_21 ?_
  refine cs_top (y := nI (cs_by S r j)) rfl ?_
  refine lv_istore (lv' := [(4, .int (nI (cs_by S r j))), (0, .ref (ad 0)), (1, .int (nI r)), (2, .int (nI j)), (3, .int (nI b))]) hx hb dX1_setByte_22 hl (by decide) rfl (fun ls hl => ?_)
  refine lv_aload_n hx hb dX1_setByte_24 rfl (lv_at hl 1 rfl) ?_
  refine va_get (D := D) (ci := 1) (v := .ref (ad 2)) (C := RX1) (T := TX1) (N := 4) hx hb hts hinX1 hown hK hP 0 cs_L0 rfl 2 (by decide) (hts (.fieldLink RX1 21 "ChecksumLab" "rows" "[[I") (by decide +kernel)) (fun _ h9 => h9) rfl dX1_setByte_25 ?_
  refine lv_iload_n hx hb dX1_setByte_28 rfl (lv_at hl 2 rfl) ?_
  refine cs_aldA hx hb hK hP 2 4 cs_L2 rfl (k := r) (hr4) (by decide) dX1_setByte_29 ?_
  refine cs_topv (y := .ref (ad (4 + r))) (by rw [if_pos (hr4)]; rfl) ?_
  refine lv_iload_n hx hb dX1_setByte_30 rfl (lv_at hl 3 rfl) ?_
  refine lv_iload_n hx hb dX1_setByte_31 rfl (lv_at hl 4 rfl) ?_
  refine cs_iast hx hb hK hP hD hS9 (4 + r) 0 (cs_Lr hr4) rfl (k := j) (by omega) (by decide) dX1_setByte_32 (fun H locs hP hD hS9 => ?_)
  rw [cs_LsetR hr4] at hP hD
  have hP : va_P D vwCl (cs_L (cs_put S r (cs_ln S r) (va_up (cs_by S r) j b)) ad cy) H := hP
  have hD : va_D (va_A (cs_L S ad cy) s.heap.size) (cs_L (cs_put S r (cs_ln S r) (va_up (cs_by S r) j b)) ad cy) := hD
  refine lv_iload hx hb dX1_setByte_33 (lv_at hl 0 rfl) ?_
  refine W.widen (k := 3) (n := 18) (Nat.le_of_ble_eq_true rfl) (Nat.le_of_ble_eq_true rfl) ?_
  exact vx_ret (W.iret (v := nI (cs_by S r j)) hx hb hr (fun t ht _ => ⟨nI (cs_by S r j), (), rfl, ⟨ek, by unfold cs_vByt; rw [rc, jc]⟩, by rw [ht, es]; exact hP, by rw [es]; exact hD, hS9.F ht⟩) hS9.2.2 dX1_setByte_35)
end
section
/-! starts of objects: class ids of arrays -/
theorem cs_RAu {U : State} {a b : ClassId} {ty : FieldType} (h1 : va_RA U a ty) (h2 : va_RA U b ty) : a = b := by
  cases ty with
  | object C =>
    obtain ⟨_, _, _, _, _, e1⟩ := h1
    obtain ⟨_, _, _, _, _, e2⟩ := h2
    exact Option.some.inj (e1.symm.trans e2)
  | _ => exact Option.some.inj (Eq.trans (Eq.symm h1) h2)
theorem cs_aoa {A : Array Value} {U : State} {t : FieldType} (h : (Cond.arrayOver (.array t)).before A U = true) : ∃ comp c k, U.vm.findClass (FieldType.array t).toString = some comp ∧ (U.vm.classes.findIdx? fun x => match x.kind with | .array component _ => component == comp | _ => false) = some c ∧ U.vm.classes[c]? = some k ∧ k.kind = .array comp (.array t) ∧ U.vm.findClass ("[" ++ (FieldType.array t).toString) = some c := by
  simp only [Cond.before, Cond.holds, Cond.value, beq_iff_eq] at h
  cases hc : U.vm.findClass (FieldType.array t).toString with
  | none => simp [hc] at h
  | some comp =>
    simp only [hc, Option.bind_some, Option.bind_eq_some_iff, Option.map_eq_some_iff] at h
    obtain ⟨c, hi, k, hk, hb⟩ := h
    obtain ⟨hlt, hp, -⟩ := Array.findIdx?_eq_some_iff_getElem.mp hi
    have hkc : U.vm.classes[c] = k := Option.some.inj ((Array.getElem?_eq_getElem hlt).symm.trans hk)
    rw [hkc] at hp
    cases hkk : k.kind with
    | array component ty =>
      rw [hkk] at hp hb
      simp at hp hb
      exact ⟨comp, c, k, rfl, hi, hk, by rw [hkk, hp, hb.1], hb.2⟩
    | _ => rw [hkk] at hp; simp at hp
theorem cs_AOA_moved {t : FieldType} {u U : State} (hvm : u.vm.Alike U.vm) (h : va_AOA t u) : va_AOA t U := by
  obtain ⟨comp, c, k, h1, h2, h3, h4, h5⟩ := cs_aoa h
  obtain ⟨k', hk', he⟩ := hvm.2.2 _ _ h3
  have hi : (U.vm.classes.findIdx? fun (x : Class) => match x.kind with | .array component _ => component == comp | _ => false) = some c := by
    have hb : U.vm.bare = u.vm.bare := by first | exact hvm.bare_eq | exact hvm.bare_eq.symm
    exact (va_idx_bare U.vm comp).symm.trans ((congrArg (fun v : Vm => v.classes.findIdx? fun (x : Class) => match x.kind with | .array component _ => component == comp | _ => false) hb).trans ((va_idx_bare u.vm comp).trans h2))
  have hkind : k'.kind = .array comp (.array t) := by rw [he]; exact h4
  have f1 : U.vm.findClass (FieldType.array t).toString = some comp := by rw [hvm.findClass]; exact h1
  have f2 : U.vm.findClass ("[" ++ (FieldType.array t).toString) = some c := by rw [hvm.findClass]; exact h5
  unfold va_AOA Cond.before Cond.holds
  simp only [Cond.value]
  rw [f1, Option.bind_some]
  refine (congrArg (fun o : Option Nat => (o.bind (fun c => (U.vm.classes[c]?).map fun (k : Class) => match k.kind with | .array _ ty => decide (ty = FieldType.array t) && decide (U.vm.findClass ("[" ++ (FieldType.array t).toString) = some c) | _ => false) == some true)) hi).trans ?_
  simp [hk', hkind, f2]
/-- the start of an object that makes arrays of references -/
def cs_Bo (D : va_G) (tys : List (ClassId × FieldType)) (ws : va_W) (sz : Nat) (U : State) : Prop := (va_AO RX0 U ∧ va_AOA .int U) ∧ cs_Bw D tys ws sz U
theorem cs_Bo.blind {D : va_G} {tys : List (ClassId × FieldType)} {ws : va_W} {sz : Nat} {av : List Value} : FrameBlind (va_Pc av (cs_Bo D tys ws sz)) := fun a U g mk q =>
  ⟨q.1, ⟨va_AO.moved (u := U) (U := U.calling g mk a) (Vm.Alike.refl U.vm) q.2.1.1, cs_AOA_moved (u := U) (U := U.calling g mk a) (Vm.Alike.refl U.vm) q.2.1.2⟩, (cs_Bw.blind (av := av) a U g mk ⟨q.1, q.2.2⟩).2⟩
theorem cs_Bo.at {D : va_G} {tys : List (ClassId × FieldType)} {ws : va_W} {av : List Value} {s : State} {H : Heap} {A : Nat → Prop} (hO : va_AO RX0 s ∧ va_AOA .int s) (hE : cs_en s) (hP : va_P D vwCl ws H) (hK : va_K D vwCl tys s) (hD : va_D A ws) : ∀ U : State, U.heap = H → s.WarmedH U.vm → va_Pc av (cs_Bo D tys ws H.size) av.toArray U := fun U hU hW =>
  ⟨rfl, ⟨va_AO.moved hW.alike hO.1, cs_AOA_moved hW.alike hO.2⟩, (cs_Bw.at (av := av) hE hP hK hD U hU hW).2⟩
/-- the laboratory's world at its start -/
def cs_LW (a q1 q2 q3 : Nat) (r : Nat → Nat) (cy : Nat → ClassId) (d rw9 : Nat → Option Nat) : va_W := [
  (a, .inr (1, [.ref q1, .int (nI 0), .ref q2, .ref q3])),
  (q1, .inl (cy 3, 6, .inr (.inr (.inr (.inr d))))),
  (q2, .inl (cy 4, 4, .inr (.inr (.inr (.inr rw9))))),
  (q3, .inl (cy 0, 4, .inl (fun _ => nI 0))),
  (r 0, .inl (cy 0, 256, .inl (fun _ => nI 0))),
  (r 1, .inl (cy 0, 256, .inl (fun _ => nI 0))),
  (r 2, .inl (cy 0, 256, .inl (fun _ => nI 0))),
  (r 3, .inl (cy 0, 256, .inl (fun _ => nI 0)))]
def cs_ad0 (a q1 q2 q3 : Nat) (r : Nat → Nat) : Nat → Nat
  | 0 => a
  | 1 => q1
  | 2 => q2
  | 3 => q3
  | n + 4 => r n
theorem cs_LW_eq (a q1 q2 q3 : Nat) (r : Nat → Nat) (cy : Nat → ClassId) : cs_L cs_0 (cs_ad0 a q1 q2 q3 r) cy = cs_LW a q1 q2 q3 r cy (fun _ => none) (fun i => if i < 4 then some (r i) else none) :=
  (show cs_L cs_0 (cs_ad0 a q1 q2 q3 r) cy = cs_LW a q1 q2 q3 r cy (fun j => if j < cs_n cs_0 then some (cs_ad0 a q1 q2 q3 r (8 + j)) else none) (fun j => if j < 4 then some (cs_ad0 a q1 q2 q3 r (4 + j)) else none) from rfl).trans
    (congr (congrArg (cs_LW a q1 q2 q3 r cy) (funext fun j => if_neg (Nat.not_lt_zero j))) (funext fun j => by rw [Nat.add_comm 4 j]; rfl))
theorem cs_pl4 (r : Nat → Nat) (f : Nat → va_E) (e : va_E) : va_pl ([] ++ (List.range 4).map r) (vr_up f ((List.range 4).map r) e) = [(r 0, e), (r 1, e), (r 2, e), (r 3, e)] := by
  have h : ∀ i, i < 4 → vr_up f ((List.range 4).map r) e (r i) = e := fun i hi => vr_up_in (List.mem_map.mpr ⟨i, List.mem_range.mpr hi, rfl⟩)
  show [(r 0, vr_up f ((List.range 4).map r) e (r 0)), (r 1, vr_up f ((List.range 4).map r) e (r 1)), (r 2, vr_up f ((List.range 4).map r) e (r 2)), (r 3, vr_up f ((List.range 4).map r) e (r 3))] = _
  rw [h 0 (by decide), h 1 (by decide), h 2 (by decide), h 3 (by decide)]
end
section
theorem cs_new0 (c : ClassId) (N : Nat) : vp_cell c (N, .inl (fun _ => nI 0)) = arrV c N (fun _ => defaultValue .int) := rfl
theorem cs_new00 (c : ClassId) (N : Nat) : vp_cell c (N, .inl (fun _ => 0)) = arrV c N (fun _ => defaultValue .int) := rfl
theorem cs_newB (c : ClassId) (N : Nat) : vp_cell c (N, .inl (fun _ => cs_z false)) = arrV c N (fun _ => defaultValue .boolean) := rfl
theorem cs_inner0 (c : ClassId) (N : Nat) : Jvm.Free.Multi.innerC c N (defaultValue .int) = vp_cell c (N, .inl (fun _ => nI 0)) := arrV_new c N _
def cs_b8 (a q1 q2 q3 q4 q5 q6 q7 q8 : Nat) : Nat → Nat
  | 0 => a
  | 1 => q1
  | 2 => q2
  | 3 => q3
  | 4 => q4
  | 5 => q5
  | 6 => q6
  | 7 => q7
  | _ => q8
set_option maxHeartbeats 4000000 in
set_option maxRecDepth 100000 in
theorem k_X0_init (l : Launch) (D : va_G) (cy : Nat → ClassId) (a sz : Nat) (wd : Nat) (hw1 : 1 ≤ wd) (hw2 : wd ≤ 32) (po ini : Int32) (ri ro : Bool) (xo : Int32) : Met l yX0_init wsX0_init ({ frames := 1, cells := 0, slots := 0, locals := 12 }) (va_Pc [.ref a, .int (nI wd), .int po, .int ini, .int (cs_z ri), .int (cs_z ro), .int xo] (cs_Bw D (cs_tys cy) [(a, .inr (0, [.int 0, .int 0, .int 0, .int 0, .int 0, .int 0, .int 0, .int 0]))] sz)) (cs_Qv D [(a, .inr (0, [.int 0, .int 0, .int 0, .int 0, .int 0, .int 0, .int 0, .int 0]))] (fun (_ : Unit) => [(a, .inr (0, cs_F wd po ini ri ro xo))]) (fun _ => True)) 0 0 (va_A [(a, .inr (0, [.int 0, .int 0, .int 0, .int 0, .int 0, .int 0, .int 0, .int 0]))] sz) := by
  refine Met.ofW (cc := cX0_init) (maxL := 7) (ret := none) (by decide) rfl ?_
  intro pg e s m args below meth c s₁ B hml hv
  obtain ⟨rfl, hsz, hE, hP, hK, hD0⟩ := hv
  subst hsz
  have hD := hD0.self (sz := s.heap.size)
  have hA : ∀ q : Nat, s.heap.size ≤ q → va_A [(a, .inr (0, [.int 0, .int 0, .int 0, .int 0, .int 0, .int 0, .int 0, .int 0]))] s.heap.size q := fun q h => Or.inr h
  have hS9 : va_S (va_A [(a, .inr (0, [.int 0, .int 0, .int 0, .int 0, .int 0, .int 0, .int 0, .int 0]))] s.heap.size) s.heap s.heap [] := va_S.rf
  have hx := B.exec
  have hb := B.bytes
  have hr := B.returns
  have hts := atoms_spec (ws := wsX0_init) B.pre
  have hown : s.vm.findClass RX0 = some m.cls := findClass_of_methodNamed B.named
  have hlocks := B.notSynchronized
  have hin : meth.name = "<init>" := (name_of_methodNamed B.named B.method).1
  have hl := lv_entry ([.ref a, .int (nI wd), .int po, .int ini, .int (cs_z ri), .int (cs_z ro), .int xo]) (n := 7) (Nat.le_of_ble_eq_true rfl)
  rw [lg_entry_eq]
  generalize (lg_sl ([.ref a, .int (nI wd), .int po, .int ini, .int (cs_z ri), .int (cs_z ro), .int xo]) ++ List.replicate (7 - (lg_sl ([.ref a, .int (nI wd), .int po, .int ini, .int (cs_z ri), .int (cs_z ro), .int xo])).length) Slot.unset).toArray = ls at hl ⊢
  have hl : lv_has ls 7 [(0, .ref a), (1, .int (nI wd)), (2, .int po), (3, .int ini), (4, .int (cs_z ri)), (5, .int (cs_z ro)), (6, .int xo)] := hl
  generalize hAe : va_A [(a, .inr (0, [.int 0, .int 0, .int 0, .int 0, .int 0, .int 0, .int 0, .int 0]))] s.heap.size = A9 at hD hA hS9 ⊢
  have hinX0 : ∀ w ∈ wsX00, w ∈ wsX0_init := fun _ h => by unfold wsX0_init; exact List.mem_cons_of_mem _ (List.mem_append_right _ (h))
  refine lv_aload_n hx hb dX0_init_0 rfl (lv_at hl 0 rfl) ?_
  refine W.objInit hx hb hown (hts (.methodLink RX0 3 objectInit) (by decide +kernel)) (hts (.instanceMethod objectInit) (by decide +kernel)) (hts _ (List.mem_cons_of_mem _ (List.mem_append_left _ (List.mem_of_getElem? (i := 2) rfl)))) rfl (by rw [hml]; exact hl.1) rfl dX0_init_1 (Nat.le_of_ble_eq_true rfl) (Nat.le_of_ble_eq_true rfl) ?_
  refine W.eq (g2 := F0 m 4 ls []) rfl ?_
  refine lv_aload_n hx hb dX0_init_4 rfl (lv_at hl 0 rfl) ?_
  refine lv_iload_n hx hb dX0_init_5 rfl (lv_at hl 1 rfl) ?_
  refine va_putF (D := D) (ci := 0) (v := .int (nI wd)) (ty := .int) (C := RX0) (T := TX0) (N := 8) hx hb hts hinX0 tyX0 tyX0_ok nmX0 hown hK hP hD hS9 0 rfl rfl 0 (by decide) (hts (.fieldLink RX0 9 "ChecksumLab$Model" "width" "I") (by decide +kernel)) (fun _ h9 => h9) rfl hin rfl (by decide +kernel) rfl rfl (Nat.le_of_ble_eq_true rfl) dX0_init_6 (fun H locs hP hD hS9 => ?_)
  have hP : va_P D vwCl [(a, .inr (0, [.int (nI wd), .int 0, .int 0, .int 0, .int 0, .int 0, .int 0, .int 0]))] H := hP
  have hD : va_D A9 [(a, .inr (0, [.int (nI wd), .int 0, .int 0, .int 0, .int 0, .int 0, .int 0, .int 0]))] := hD
  refine lv_aload_n hx hb dX0_init_9 rfl (lv_at hl 0 rfl) ?_
  refine lv_iload_n hx hb dX0_init_10 rfl (lv_at hl 2 rfl) ?_
  refine va_putF (D := D) (ci := 0) (v := .int po) (ty := .int) (C := RX0) (T := TX0) (N := 8) hx hb hts hinX0 tyX0 tyX0_ok nmX0 hown hK hP hD hS9 0 rfl rfl 1 (by decide) (hts (.fieldLink RX0 15 "ChecksumLab$Model" "poly" "I") (by decide +kernel)) (fun _ h9 => h9) rfl hin rfl (by decide +kernel) rfl rfl (Nat.le_of_ble_eq_true rfl) dX0_init_11 (fun H locs hP hD hS9 => ?_)
  have hP : va_P D vwCl [(a, .inr (0, [.int (nI wd), .int po, .int 0, .int 0, .int 0, .int 0, .int 0, .int 0]))] H := hP
  have hD : va_D A9 [(a, .inr (0, [.int (nI wd), .int po, .int 0, .int 0, .int 0, .int 0, .int 0, .int 0]))] := hD
  refine lv_aload_n hx hb dX0_init_14 rfl (lv_at hl 0 rfl) ?_
  refine lv_iload_n hx hb dX0_init_15 rfl (lv_at hl 3 rfl) ?_
  refine va_putF (D := D) (ci := 0) (v := .int ini) (ty := .int) (C := RX0) (T := TX0) (N := 8) hx hb hts hinX0 tyX0 tyX0_ok nmX0 hown hK hP hD hS9 0 rfl rfl 2 (by decide) (hts (.fieldLink RX0 18 "ChecksumLab$Model" "init" "I") (by decide +kernel)) (fun _ h9 => h9) rfl hin rfl (by decide +kernel) rfl rfl (Nat.le_of_ble_eq_true rfl) dX0_init_16 (fun H locs hP hD hS9 => ?_)
  have hP : va_P D vwCl [(a, .inr (0, [.int (nI wd), .int po, .int ini, .int 0, .int 0, .int 0, .int 0, .int 0]))] H := hP
  have hD : va_D A9 [(a, .inr (0, [.int (nI wd), .int po, .int ini, .int 0, .int 0, .int 0, .int 0, .int 0]))] := hD
  refine lv_aload_n hx hb dX0_init_19 rfl (lv_at hl 0 rfl) ?_
  refine lv_iload hx hb dX0_init_20 (lv_at hl 4 rfl) ?_
  refine va_putF (D := D) (ci := 0) (v := .int (cs_z ri)) (ty := .boolean) (C := RX0) (T := TX0) (N := 8) hx hb hts hinX0 tyX0 tyX0_ok nmX0 hown hK hP hD hS9 0 rfl rfl 3 (by decide) (hts (.fieldLink RX0 21 "ChecksumLab$Model" "reflectIn" "Z") (by decide +kernel)) (fun _ h9 => h9) rfl hin rfl (by decide +kernel) (cs_z_nar ri) (cs_z_fit ri) (Nat.le_of_ble_eq_true rfl) dX0_init_22 (fun H locs hP hD hS9 => ?_)
  have hP : va_P D vwCl [(a, .inr (0, [.int (nI wd), .int po, .int ini, .int (cs_z ri), .int 0, .int 0, .int 0, .int 0]))] H := hP
  have hD : va_D A9 [(a, .inr (0, [.int (nI wd), .int po, .int ini, .int (cs_z ri), .int 0, .int 0, .int 0, .int 0]))] := hD
  refine lv_aload_n hx hb dX0_init_25 rfl (lv_at hl 0 rfl) ?_
  refine lv_iload hx hb dX0_init_26 (lv_at hl 5 rfl) ?_
  refine va_putF (D := D) (ci := 0) (v := .int (cs_z ro)) (ty := .boolean) (C := RX0) (T := TX0) (N := 8) hx hb hts hinX0 tyX0 tyX0_ok nmX0 hown hK hP hD hS9 0 rfl rfl 4 (by decide) (hts (.fieldLink RX0 25 "ChecksumLab$Model" "reflectOut" "Z") (by decide +kernel)) (fun _ h9 => h9) rfl hin rfl (by decide +kernel) (cs_z_nar ro) (cs_z_fit ro) (Nat.le_of_ble_eq_true rfl) dX0_init_28 (fun H locs hP hD hS9 => ?_)
  have hP : va_P D vwCl [(a, .inr (0, [.int (nI wd), .int po, .int ini, .int (cs_z ri), .int (cs_z ro), .int 0, .int 0, .int 0]))] H := hP
  have hD : va_D A9 [(a, .inr (0, [.int (nI wd), .int po, .int ini, .int (cs_z ri), .int (cs_z ro), .int 0, .int 0, .int 0]))] := hD
  refine lv_aload_n hx hb dX0_init_31 rfl (lv_at hl 0 rfl) ?_
  refine lv_iload hx hb dX0_init_32 (lv_at hl 6 rfl) ?_
  refine va_putF (D := D) (ci := 0) (v := .int xo) (ty := .int) (C := RX0) (T := TX0) (N := 8) hx hb hts hinX0 tyX0 tyX0_ok nmX0 hown hK hP hD hS9 0 rfl rfl 5 (by decide) (hts (.fieldLink RX0 28 "ChecksumLab$Model" "xorOut" "I") (by decide +kernel)) (fun _ h9 => h9) rfl hin rfl (by decide +kernel) rfl rfl (Nat.le_of_ble_eq_true rfl) dX0_init_34 (fun H locs hP hD hS9 => ?_)
  have hP : va_P D vwCl [(a, .inr (0, [.int (nI wd), .int po, .int ini, .int (cs_z ri), .int (cs_z ro), .int xo, .int 0, .int 0]))] H := hP
  have hD : va_D A9 [(a, .inr (0, [.int (nI wd), .int po, .int ini, .int (cs_z ri), .int (cs_z ro), .int xo, .int 0, .int 0]))] := hD
  refine lv_aload_n hx hb dX0_init_37 rfl (lv_at hl 0 rfl) ?_
  refine lv_iconst (v := (-1)) hx hb dX0_init_38 (by decide) ?_
  refine lv_bipush (v := 32) hx hb dX0_init_39 (by decide) ?_
  refine lv_iload_n hx hb dX0_init_41 rfl (lv_at hl 1 rfl) ?_
  refine lv_isub hx hb dX0_init_42 ?_
  refine lv_iushr (v := cs_ur (-1) (32 - (nI wd))) hx hb dX0_init_43 rfl ?_
  refine cs_top (y := cs_mk wd) (cs_mkI wd hw2 hw1) ?_
  refine va_putF (D := D) (ci := 0) (v := .int (cs_mk wd)) (ty := .int) (C := RX0) (T := TX0) (N := 8) hx hb hts hinX0 tyX0 tyX0_ok nmX0 hown hK hP hD hS9 0 rfl rfl 6 (by decide) (hts (.fieldLink RX0 31 "ChecksumLab$Model" "mask" "I") (by decide +kernel)) (fun _ h9 => h9) rfl hin rfl (by decide +kernel) rfl rfl (Nat.le_of_ble_eq_true rfl) dX0_init_44 (fun H locs hP hD hS9 => ?_)
  have hP : va_P D vwCl [(a, .inr (0, [.int (nI wd), .int po, .int ini, .int (cs_z ri), .int (cs_z ro), .int xo, .int (cs_mk wd), .int 0]))] H := hP
  have hD : va_D A9 [(a, .inr (0, [.int (nI wd), .int po, .int ini, .int (cs_z ri), .int (cs_z ro), .int xo, .int (cs_mk wd), .int 0]))] := hD
  refine lv_aload_n hx hb dX0_init_47 rfl (lv_at hl 0 rfl) ?_
  refine lv_iconst (v := 1) hx hb dX0_init_48 (by decide) ?_
  refine lv_iload_n hx hb dX0_init_49 rfl (lv_at hl 1 rfl) ?_
  refine lv_iconst (v := 1) hx hb dX0_init_50 (by decide) ?_
  refine lv_isub hx hb dX0_init_51 ?_
  refine lv_ishl hx hb dX0_init_52 ?_
  refine cs_top (y := cs_hb wd) (cs_hbI wd hw2 hw1) ?_
  refine va_putF (D := D) (ci := 0) (v := .int (cs_hb wd)) (ty := .int) (C := RX0) (T := TX0) (N := 8) hx hb hts hinX0 tyX0 tyX0_ok nmX0 hown hK hP hD hS9 0 rfl rfl 7 (by decide) (hts (.fieldLink RX0 34 "ChecksumLab$Model" "highest" "I") (by decide +kernel)) (fun _ h9 => h9) rfl hin rfl (by decide +kernel) rfl rfl (Nat.le_of_ble_eq_true rfl) dX0_init_53 (fun H locs hP hD hS9 => ?_)
  have hP : va_P D vwCl [(a, .inr (0, [.int (nI wd), .int po, .int ini, .int (cs_z ri), .int (cs_z ro), .int xo, .int (cs_mk wd), .int (cs_hb wd)]))] H := hP
  have hD : va_D A9 [(a, .inr (0, [.int (nI wd), .int po, .int ini, .int (cs_z ri), .int (cs_z ro), .int xo, .int (cs_mk wd), .int (cs_hb wd)]))] := hD
  subst hAe
  exact W.vret hx hb hr (fun t ht _ => ⟨(), rfl, trivial, by rw [ht]; exact hP, by exact hD, hS9.F ht⟩) hS9.2.2 dX0_init_56
set_option maxHeartbeats 4000000 in
set_option maxRecDepth 100000 in
theorem k_X1_init (l : Launch) (D : va_G) (cy : Nat → ClassId) (a sz : Nat) (ms : Nat) (hms : 1038 ≤ ms)  : Met l yX1_init wsX1_init ({ frames := 1, cells := 7, slots := ms, locals := 12 }) (va_Pc [.ref a] (cs_Bo D (cs_tys cy) [(a, .inr (1, [.null, .int 0, .null, .null]))] sz)) (cs_Qv D [(a, .inr (1, [.null, .int 0, .null, .null]))] (fun (ad : Nat → Nat) => cs_L cs_0 ad cy) (fun ad => ad 0 = a)) 7 ms (va_A [(a, .inr (1, [.null, .int 0, .null, .null]))] sz) := by
  refine Met.ofW (cc := cX1_init) (maxL := 1) (ret := none) (by decide) rfl ?_
  intro pg e s m args below meth c s₁ B hml hv
  obtain ⟨rfl, hO, hsz, hE, hP, hK, hD0⟩ := hv
  subst hsz
  have hD := hD0.self (sz := s.heap.size)
  have hA : ∀ q : Nat, s.heap.size ≤ q → va_A [(a, .inr (1, [.null, .int 0, .null, .null]))] s.heap.size q := fun q h => Or.inr h
  have hS9 : va_S (va_A [(a, .inr (1, [.null, .int 0, .null, .null]))] s.heap.size) s.heap s.heap [] := va_S.rf
  have hx := B.exec
  have hb := B.bytes
  have hr := B.returns
  have hts := atoms_spec (ws := wsX1_init) B.pre
  have hown : s.vm.findClass RX1 = some m.cls := findClass_of_methodNamed B.named
  have hlocks := B.notSynchronized
  have hin : meth.name = "<init>" := (name_of_methodNamed B.named B.method).1
  have hl := lv_entry ([.ref a]) (n := 1) (Nat.le_of_ble_eq_true rfl)
  rw [lg_entry_eq]
  generalize (lg_sl ([.ref a]) ++ List.replicate (1 - (lg_sl ([.ref a])).length) Slot.unset).toArray = ls at hl ⊢
  have hl : lv_has ls 1 [(0, .ref a)] := hl
  generalize hAe : va_A [(a, .inr (1, [.null, .int 0, .null, .null]))] s.heap.size = A9 at hD hA hS9 ⊢
  have hinX1 : ∀ w ∈ wsX10, w ∈ wsX1_init := fun _ h => by unfold wsX1_init; exact List.mem_cons_of_mem _ (List.mem_append_right _ (h))
  refine lv_aload_n hx hb dX1_init_0 rfl (lv_at hl 0 rfl) ?_
  refine W.objInit hx hb hown (hts (.methodLink RX1 1 objectInit) (by decide +kernel)) (hts (.instanceMethod objectInit) (by decide +kernel)) (hts _ (List.mem_cons_of_mem _ (List.mem_append_left _ (List.mem_of_getElem? (i := 2) rfl)))) rfl (by rw [hml]; exact hl.1) rfl dX1_init_1 (Nat.le_of_ble_eq_true rfl) (Nat.le_of_ble_eq_true rfl) ?_
  refine W.eq (g2 := F0 m 4 ls []) rfl ?_
  refine lv_aload_n hx hb dX1_init_4 rfl (lv_at hl 0 rfl) ?_
  refine lv_bipush (v := 6) hx hb dX1_init_5 (by decide) ?_
  refine va_newq (C := RX0) (N' := 6) hx hb hown (hts (.classLink RX1 9 RX0) (by decide +kernel)) hO.1 hK hP hD hS9 hA (by decide) (by decide) (by decide) (Nat.le_of_ble_eq_true rfl) (by show 0 + 6 ≤ ms; omega) dX1_init_7 (fun q1 cA H hK1 hP hD hS9 => ?_)
  obtain ⟨z1, hz1⟩ : ∃ z : Nat, z = 0 + 6 := ⟨_, rfl⟩
  refine W.widen (k := 1) (n := z1) (Nat.le_of_ble_eq_true rfl) (by omega) ?_
  have eA : cA = cy 3 := cs_RAu (hK1.2 5 _ rfl).2 (hK.2 3 _ rfl).2
  subst eA
  clear hK1
  have hP : va_P D vwCl [(a, .inr (1, [.null, .int 0, .null, .null])), (q1, .inl (cy 3, 6, .inr (.inr (.inr (.inr (fun _ => none))))))] H := hP
  have hD : va_D A9 [(a, .inr (1, [.null, .int 0, .null, .null])), (q1, .inl (cy 3, 6, .inr (.inr (.inr (.inr (fun _ => none))))))] := hD
  refine va_putF (D := D) (ci := 1) (v := .ref q1) (ty := .array (.object "ChecksumLab$Model")) (C := RX1) (T := TX1) (N := 4) hx hb hts hinX1 tyX1 tyX1_ok nmX1 hown hK hP hD hS9 0 rfl rfl 0 (by decide) (hts (.fieldLink RX1 11 "ChecksumLab" "defined" "[LChecksumLab$Model;") (by decide +kernel)) (fun _ h9 => h9) rfl hin rfl (by decide +kernel) rfl rfl (Nat.le_of_ble_eq_true rfl) dX1_init_10 (fun H locs hP hD hS9 => ?_)
  have hP : va_P D vwCl [(a, .inr (1, [.ref q1, .int 0, .null, .null])), (q1, .inl (cy 3, 6, .inr (.inr (.inr (.inr (fun _ => none))))))] H := hP
  have hD : va_D A9 [(a, .inr (1, [.ref q1, .int 0, .null, .null])), (q1, .inl (cy 3, 6, .inr (.inr (.inr (.inr (fun _ => none))))))] := hD
  refine lv_aload_n hx hb dX1_init_13 rfl (lv_at hl 0 rfl) ?_
  refine lv_iconst (v := 0) hx hb dX1_init_14 (by decide) ?_
  refine va_put (D := D) (ci := 1) (v := .int 0) (ty := .int) (C := RX1) (T := TX1) (N := 4) hx hb hts hinX1 tyX1 tyX1_ok nmX1 hown hK hP hD hS9 0 rfl rfl 1 (by decide) (hts (.fieldLink RX1 15 "ChecksumLab" "definedCount" "I") (by decide +kernel)) (fun _ h9 => h9) rfl (by decide +kernel) rfl rfl (Nat.le_of_ble_eq_true rfl) dX1_init_15 (fun H locs hP hD hS9 => ?_)
  have hP : va_P D vwCl [(a, .inr (1, [.ref q1, .int 0, .null, .null])), (q1, .inl (cy 3, 6, .inr (.inr (.inr (.inr (fun _ => none))))))] H := hP
  have hD : va_D A9 [(a, .inr (1, [.ref q1, .int 0, .null, .null])), (q1, .inl (cy 3, 6, .inr (.inr (.inr (.inr (fun _ => none))))))] := hD
  refine lv_aload_n hx hb dX1_init_18 rfl (lv_at hl 0 rfl) ?_
  refine lv_iconst (v := 4) hx hb dX1_init_19 (by decide) ?_
  refine lv_sipush (v := 256) hx hb dX1_init_20 (by decide) ?_
  refine va_mna (X := [(a, .inr (1, [.ref q1, .int 0, .null, .null])), (q1, .inl (cy 3, 6, .inr (.inr (.inr (.inr (fun _ => none))))))]) (L := []) (f := fun _ => .inl (cy 0, 256, .inl (fun _ => nI 0))) (ty := .int) (cy := cy 0) (N' := 4) (K' := 256) (z := (256, .inl (fun _ => nI 0))) hx hb hown (hts (.classLink RX1 19 "[[I") (by decide +kernel)) hO.2 (hts (.arrayClass .int) (by decide +kernel)) (hK.2 0 _ rfl).2 hK hP hD hS9 hA (by decide) (by decide) (by decide) (by decide) (by decide) (by decide) (by decide) rfl rfl (Nat.le_of_ble_eq_true rfl) (by show z1 + (4 + 4 * 256) ≤ ms; omega) (fun c9 => cs_inner0 c9 256) dX1_init_23 (fun q2 r cA H _ _ hK1 hP hD hS9 => ?_)
  obtain ⟨z2, hz2⟩ : ∃ z : Nat, z = z1 + 4 + 4 * 256 := ⟨_, rfl⟩
  refine W.widen (k := 6) (n := z2) (Nat.le_of_ble_eq_true rfl) (by omega) ?_
  have eA : cA = cy 4 := cs_RAu (hK1.2 5 _ rfl).2 (hK.2 4 _ rfl).2
  subst eA
  clear hK1
  rw [cs_pl4] at hP hD
  have hP : va_P D vwCl [(a, .inr (1, [.ref q1, .int 0, .null, .null])), (q1, .inl (cy 3, 6, .inr (.inr (.inr (.inr (fun _ => none)))))), (q2, .inl (cy 4, 4, .inr (.inr (.inr (.inr (fun i => if i < 4 then some (r i) else none)))))), ((r 0), .inl (cy 0, 256, .inl (fun _ => nI 0))), ((r 1), .inl (cy 0, 256, .inl (fun _ => nI 0))), ((r 2), .inl (cy 0, 256, .inl (fun _ => nI 0))), ((r 3), .inl (cy 0, 256, .inl (fun _ => nI 0)))] H := hP
  have hD : va_D A9 [(a, .inr (1, [.ref q1, .int 0, .null, .null])), (q1, .inl (cy 3, 6, .inr (.inr (.inr (.inr (fun _ => none)))))), (q2, .inl (cy 4, 4, .inr (.inr (.inr (.inr (fun i => if i < 4 then some (r i) else none)))))), ((r 0), .inl (cy 0, 256, .inl (fun _ => nI 0))), ((r 1), .inl (cy 0, 256, .inl (fun _ => nI 0))), ((r 2), .inl (cy 0, 256, .inl (fun _ => nI 0))), ((r 3), .inl (cy 0, 256, .inl (fun _ => nI 0)))] := hD
  refine va_putF (D := D) (ci := 1) (v := .ref q2) (ty := .array (.array .int)) (C := RX1) (T := TX1) (N := 4) hx hb hts hinX1 tyX1 tyX1_ok nmX1 hown hK hP hD hS9 0 rfl rfl 2 (by decide) (hts (.fieldLink RX1 21 "ChecksumLab" "rows" "[[I") (by decide +kernel)) (fun _ h9 => h9) rfl hin rfl (by decide +kernel) rfl rfl (Nat.le_of_ble_eq_true rfl) dX1_init_27 (fun H locs hP hD hS9 => ?_)
  have hP : va_P D vwCl [(a, .inr (1, [.ref q1, .int 0, .ref q2, .null])), (q1, .inl (cy 3, 6, .inr (.inr (.inr (.inr (fun _ => none)))))), (q2, .inl (cy 4, 4, .inr (.inr (.inr (.inr (fun i => if i < 4 then some (r i) else none)))))), ((r 0), .inl (cy 0, 256, .inl (fun _ => nI 0))), ((r 1), .inl (cy 0, 256, .inl (fun _ => nI 0))), ((r 2), .inl (cy 0, 256, .inl (fun _ => nI 0))), ((r 3), .inl (cy 0, 256, .inl (fun _ => nI 0)))] H := hP
  have hD : va_D A9 [(a, .inr (1, [.ref q1, .int 0, .ref q2, .null])), (q1, .inl (cy 3, 6, .inr (.inr (.inr (.inr (fun _ => none)))))), (q2, .inl (cy 4, 4, .inr (.inr (.inr (.inr (fun i => if i < 4 then some (r i) else none)))))), ((r 0), .inl (cy 0, 256, .inl (fun _ => nI 0))), ((r 1), .inl (cy 0, 256, .inl (fun _ => nI 0))), ((r 2), .inl (cy 0, 256, .inl (fun _ => nI 0))), ((r 3), .inl (cy 0, 256, .inl (fun _ => nI 0)))] := hD
  refine lv_aload_n hx hb dX1_init_30 rfl (lv_at hl 0 rfl) ?_
  refine lv_iconst (v := 4) hx hb dX1_init_31 (by decide) ?_
  refine va_newa (atype := .int) (ty := .int) (N' := 4) (a0 := (4, .inl (fun _ => nI 0))) hx hb (hts (.arrayClass .int) (by decide +kernel)) rfl hK hP hD hS9 hA (fun c9 => cs_new0 c9 4) (by decide) (by decide) (by decide) (Nat.le_of_ble_eq_true rfl) (by show z2 + 4 ≤ ms; omega) dX1_init_32 (fun q3 cA H hK1 hP hD hS9 => ?_)
  obtain ⟨z3, hz3⟩ : ∃ z : Nat, z = z2 + 4 := ⟨_, rfl⟩
  refine W.widen (k := 7) (n := z3) (Nat.le_of_ble_eq_true rfl) (by omega) ?_
  have eA : cA = cy 0 := cs_RAu (hK1.2 5 _ rfl).2 (hK.2 0 _ rfl).2
  subst eA
  clear hK1
  have hP : va_P D vwCl [(a, .inr (1, [.ref q1, .int 0, .ref q2, .null])), (q1, .inl (cy 3, 6, .inr (.inr (.inr (.inr (fun _ => none)))))), (q2, .inl (cy 4, 4, .inr (.inr (.inr (.inr (fun i => if i < 4 then some (r i) else none)))))), ((r 0), .inl (cy 0, 256, .inl (fun _ => nI 0))), ((r 1), .inl (cy 0, 256, .inl (fun _ => nI 0))), ((r 2), .inl (cy 0, 256, .inl (fun _ => nI 0))), ((r 3), .inl (cy 0, 256, .inl (fun _ => nI 0))), (q3, .inl (cy 0, 4, .inl (fun _ => nI 0)))] H := hP
  have hD : va_D A9 [(a, .inr (1, [.ref q1, .int 0, .ref q2, .null])), (q1, .inl (cy 3, 6, .inr (.inr (.inr (.inr (fun _ => none)))))), (q2, .inl (cy 4, 4, .inr (.inr (.inr (.inr (fun i => if i < 4 then some (r i) else none)))))), ((r 0), .inl (cy 0, 256, .inl (fun _ => nI 0))), ((r 1), .inl (cy 0, 256, .inl (fun _ => nI 0))), ((r 2), .inl (cy 0, 256, .inl (fun _ => nI 0))), ((r 3), .inl (cy 0, 256, .inl (fun _ => nI 0))), (q3, .inl (cy 0, 4, .inl (fun _ => nI 0)))] := hD
  refine va_putF (D := D) (ci := 1) (v := .ref q3) (ty := .array .int) (C := RX1) (T := TX1) (N := 4) hx hb hts hinX1 tyX1 tyX1_ok nmX1 hown hK hP hD hS9 0 rfl rfl 3 (by decide) (hts (.fieldLink RX1 24 "ChecksumLab" "sizes" "[I") (by decide +kernel)) (fun _ h9 => h9) rfl hin rfl (by decide +kernel) rfl rfl (Nat.le_of_ble_eq_true rfl) dX1_init_34 (fun H locs hP hD hS9 => ?_)
  have hP : va_P D vwCl [(a, .inr (1, [.ref q1, .int 0, .ref q2, .ref q3])), (q1, .inl (cy 3, 6, .inr (.inr (.inr (.inr (fun _ => none)))))), (q2, .inl (cy 4, 4, .inr (.inr (.inr (.inr (fun i => if i < 4 then some (r i) else none)))))), ((r 0), .inl (cy 0, 256, .inl (fun _ => nI 0))), ((r 1), .inl (cy 0, 256, .inl (fun _ => nI 0))), ((r 2), .inl (cy 0, 256, .inl (fun _ => nI 0))), ((r 3), .inl (cy 0, 256, .inl (fun _ => nI 0))), (q3, .inl (cy 0, 4, .inl (fun _ => nI 0)))] H := hP
  have hD : va_D A9 [(a, .inr (1, [.ref q1, .int 0, .ref q2, .ref q3])), (q1, .inl (cy 3, 6, .inr (.inr (.inr (.inr (fun _ => none)))))), (q2, .inl (cy 4, 4, .inr (.inr (.inr (.inr (fun i => if i < 4 then some (r i) else none)))))), ((r 0), .inl (cy 0, 256, .inl (fun _ => nI 0))), ((r 1), .inl (cy 0, 256, .inl (fun _ => nI 0))), ((r 2), .inl (cy 0, 256, .inl (fun _ => nI 0))), ((r 3), .inl (cy 0, 256, .inl (fun _ => nI 0))), (q3, .inl (cy 0, 4, .inl (fun _ => nI 0)))] := hD
  have hP := hP.sub (ws' := cs_LW a q1 q2 q3 r cy (fun _ => none) (fun i => if i < 4 then some (r i) else none)) [0, 1, 2, 7, 3, 4, 5, 6] rfl
  have hD := hD.sub (ws' := cs_LW a q1 q2 q3 r cy (fun _ => none) (fun i => if i < 4 then some (r i) else none)) [0, 1, 2, 7, 3, 4, 5, 6] (by decide) rfl
  rw [← cs_LW_eq] at hP hD
  refine W.widen (k := 7) (n := ms) (Nat.le_of_ble_eq_true rfl) (by omega) ?_
  subst hAe
  exact W.vret hx hb hr (fun t ht _ => ⟨cs_ad0 a q1 q2 q3 r, rfl, rfl, by rw [ht]; exact hP, by exact hD, hS9.F ht⟩) hS9.2.2 dX1_init_37
end
section
/-! a model more -/
theorem cs_Llen {S : cs_St} {ad : Nat → Nat} {cy : Nat → ClassId} : (cs_L S ad cy).length = 8 + cs_n S := by
  unfold cs_L
  rw [List.length_append, List.length_map, List.length_range]
  rfl
theorem cs_Lq {S : cs_St} {ad : Nat → Nat} {cy : Nat → ClassId} {x : Nat × va_E} : (cs_L S ad cy ++ [x])[8 + cs_n S]? = some x := by
  rw [List.getElem?_append_right (by rw [cs_Llen]; exact Nat.le_refl _), cs_Llen, Nat.sub_self]
  rfl
theorem cs_Lpush {S : cs_St} {ad : Nat → Nat} {cy : Nat → ClassId} {q wd : Nat} {po ini xo : Int32} {ri ro : Bool} : ((cs_L S ad cy ++ ([(q, .inr (0, cs_F wd po ini ri ro xo))] : va_W)).set 1 (ad 1, .inl (cy 3, 6, .inr (.inr (.inr (.inr (va_up (fun j => if j < cs_n S then some (ad (8 + j)) else none) (cs_n S) (some q)))))))).set 0 (ad 0, .inr (1, [.ref (ad 1), .int (nI (cs_n S + 1)), .ref (ad 2), .ref (ad 3)])) = cs_L (cs_def S wd po ini ri ro xo) (va_up ad (8 + cs_n S) q) cy := by
  have hA : ∀ i, i < 8 + cs_n S → va_up ad (8 + cs_n S) q i = ad i := fun i hi => va_up_ne _ _ (by omega)
  have hd : va_up (fun j => if j < cs_n S then some (ad (8 + j)) else none) (cs_n S) (some q) = (fun j => if j < cs_n S + 1 then some (va_up ad (8 + cs_n S) q (8 + j)) else none) := funext fun j => by
    rcases Nat.lt_trichotomy j (cs_n S) with h | h | h
    · rw [va_up_ne _ _ (by omega), if_pos h, if_pos (by omega), hA _ (by omega)]
    · rw [h, va_up_self, if_pos (by omega), va_up_self]
    · rw [va_up_ne _ _ (by omega), if_neg (by omega), if_neg (by omega)]
  have hm : (List.range (cs_n S + 1)).map (fun k => ((va_up ad (8 + cs_n S) q (8 + k), .inr (0, cs_F (va_up (cs_w S) (cs_n S) wd k) (va_up (cs_p S) (cs_n S) po k) (va_up (cs_i S) (cs_n S) ini k) (va_up (cs_ri S) (cs_n S) ri k) (va_up (cs_ro S) (cs_n S) ro k) (va_up (cs_x S) (cs_n S) xo k))) : Nat × va_E)) = (List.range (cs_n S)).map (fun k => (ad (8 + k), .inr (0, cs_F (cs_w S k) (cs_p S k) (cs_i S k) (cs_ri S k) (cs_ro S k) (cs_x S k)))) ++ [(q, .inr (0, cs_F wd po ini ri ro xo))] := by
    rw [List.range_succ, List.map_append]
    congr 1
    · exact List.map_congr_left (fun k hk => by
        have := List.mem_range.mp hk
        rw [hA _ (by omega), va_up_ne (cs_w S) _ (by omega), va_up_ne (cs_p S) _ (by omega), va_up_ne (cs_i S) _ (by omega), va_up_ne (cs_ri S) _ (by omega), va_up_ne (cs_ro S) _ (by omega), va_up_ne (cs_x S) _ (by omega)])
    · show [((va_up ad (8 + cs_n S) q (8 + cs_n S), .inr (0, cs_F (va_up (cs_w S) (cs_n S) wd (cs_n S)) (va_up (cs_p S) (cs_n S) po (cs_n S)) (va_up (cs_i S) (cs_n S) ini (cs_n S)) (va_up (cs_ri S) (cs_n S) ri (cs_n S)) (va_up (cs_ro S) (cs_n S) ro (cs_n S)) (va_up (cs_x S) (cs_n S) xo (cs_n S)))) : Nat × va_E)] = _
      rw [va_up_self, va_up_self, va_up_self, va_up_self, va_up_self, va_up_self, va_up_self]
  have hR : cs_L (cs_def S wd po ini ri ro xo) (va_up ad (8 + cs_n S) q) cy = [
    (va_up ad (8 + cs_n S) q 0, .inr (1, [.ref (va_up ad (8 + cs_n S) q 1), .int (nI (cs_n S + 1)), .ref (va_up ad (8 + cs_n S) q 2), .ref (va_up ad (8 + cs_n S) q 3)])),
    (va_up ad (8 + cs_n S) q 1, .inl (cy 3, 6, .inr (.inr (.inr (.inr (fun j => if j < cs_n S + 1 then some (va_up ad (8 + cs_n S) q (8 + j)) else none)))))),
    (va_up ad (8 + cs_n S) q 2, .inl (cy 4, 4, .inr (.inr (.inr (.inr (fun j => if j < 4 then some (va_up ad (8 + cs_n S) q (4 + j)) else none)))))),
    (va_up ad (8 + cs_n S) q 3, .inl (cy 0, 4, .inl (fun j => nI (cs_ln S j)))),
    (va_up ad (8 + cs_n S) q 4, .inl (cy 0, 256, .inl (fun j => nI (cs_by S 0 j)))),
    (va_up ad (8 + cs_n S) q 5, .inl (cy 0, 256, .inl (fun j => nI (cs_by S 1 j)))),
    (va_up ad (8 + cs_n S) q 6, .inl (cy 0, 256, .inl (fun j => nI (cs_by S 2 j)))),
    (va_up ad (8 + cs_n S) q 7, .inl (cy 0, 256, .inl (fun j => nI (cs_by S 3 j))))] ++ (List.range (cs_n S + 1)).map (fun k => ((va_up ad (8 + cs_n S) q (8 + k), .inr (0, cs_F (va_up (cs_w S) (cs_n S) wd k) (va_up (cs_p S) (cs_n S) po k) (va_up (cs_i S) (cs_n S) ini k) (va_up (cs_ri S) (cs_n S) ri k) (va_up (cs_ro S) (cs_n S) ro k) (va_up (cs_x S) (cs_n S) xo k))) : Nat × va_E)) := rfl
  have h4 : (fun j => if j < 4 then some (va_up ad (8 + cs_n S) q (4 + j)) else none) = (fun j => if j < 4 then some (ad (4 + j)) else none) := funext fun j => by
    by_cases h : j < 4
    · rw [if_pos h, if_pos h, hA _ (by omega)]
    · rw [if_neg h, if_neg h]
  rw [hR, hm, h4, hA 0 (by omega), hA 1 (by omega), hA 2 (by omega), hA 3 (by omega), hA 4 (by omega), hA 5 (by omega), hA 6 (by omega), hA 7 (by omega), hd]
  rfl
end
section
theorem cs_PE {D : va_G} {w w' : va_W} {H : Heap} (e : w = w') (h : va_P D vwCl w H) : va_P D vwCl w' H := e ▸ h
theorem cs_DE {A : Nat → Prop} {w w' : va_W} (e : w = w') (h : va_D A w) : va_D A w' := e ▸ h
set_option maxHeartbeats 4000000 in
set_option maxRecDepth 100000 in
theorem k_X1_define (l : Launch) (hlf : l.stackTraces = false) (D : va_G) (S : cs_St) (ad : Nat → Nat) (cy : Nat → ClassId) (sz : Nat) (hS : cs_ok S) (v a b : Int32) (q9 t9 : Bool) (d : Int32) : cs_Xw l yX1_define wsX1_define ({ frames := 7, cells := 5, slots := 32, locals := 103 }) D (cs_tys cy) (cs_L S ad cy) sz [.ref (ad 0), .int v, .int a, .int b, .int (cs_z q9), .int (cs_z t9), .int d] (fun (ad2 : Nat → Nat) => cs_L (cs_sDef S v a b q9 t9 d) ad2 cy) (fun rr ad2 => (cs_kDef S v a b d = 0 ∧ rr = nI (cs_n S)) ∧ ad2 0 = ad 0) (cs_E (cs_kDef S v a b d) cs_IAE cs_ISE "") 5 32 := by
  refine vx_ofW (cc := cX1_define) (maxL := 8) (ret := (some .int)) (by decide) rfl ?_
  intro pg e s m args below meth c s₁ B hml hout hv
  obtain ⟨rfl, hsz, hE, hz9, hP, hK, hD0⟩ := hv
  subst hsz
  have hD := hD0.self (sz := s.heap.size)
  have hA : ∀ q : Nat, s.heap.size ≤ q → va_A (cs_L S ad cy) s.heap.size q := fun q h => Or.inr h
  have hS9 : va_S (va_A (cs_L S ad cy) s.heap.size) s.heap s.heap [] := va_S.rf
  have hz := hz9.narrow (B := fun q => s.heap.size ≤ q) (fun q h => Or.inr h)
  have hx := B.exec
  have hb := B.bytes
  have hr := B.returns
  have hts := atoms_spec (ws := wsX1_define) B.pre
  have hown : s.vm.findClass RX1 = some m.cls := findClass_of_methodNamed B.named
  have hlocks := B.notSynchronized
  have hl := lv_entry ([.ref (ad 0), .int v, .int a, .int b, .int (cs_z q9), .int (cs_z t9), .int d]) (n := 8) (Nat.le_of_ble_eq_true rfl)
  rw [lg_entry_eq]
  generalize (lg_sl ([.ref (ad 0), .int v, .int a, .int b, .int (cs_z q9), .int (cs_z t9), .int d]) ++ List.replicate (8 - (lg_sl ([.ref (ad 0), .int v, .int a, .int b, .int (cs_z q9), .int (cs_z t9), .int d])).length) Slot.unset).toArray = ls at hl ⊢
  have hl : lv_has ls 8 [(0, .ref (ad 0)), (1, .int v), (2, .int a), (3, .int b), (4, .int (cs_z q9)), (5, .int (cs_z t9)), (6, .int d)] := hl
  have hinX1 : ∀ w ∈ wsX10, w ∈ wsX1_define := fun _ h => by unfold wsX1_define; exact List.mem_cons_of_mem _ (List.mem_append_left _ (List.mem_append_left _ (List.mem_append_left _ (List.mem_append_right _ (h)))))
  have hinX0 : ∀ w ∈ wsX00, w ∈ wsX1_define := fun _ h => by unfold wsX1_define; exact List.mem_cons_of_mem _ (List.mem_append_left _ (List.mem_append_left _ (List.mem_append_right _ (h))))
  have h6 := hS.1
  refine lv_iload_n hx hb dX1_define_0 rfl (lv_at hl 1 rfl) ?_
  refine lv_iconst (v := 1) hx hb dX1_define_1 (by decide) ?_
  refine lv_icmp_lt (tgt := 11) hx hb dX1_define_2 (by decide) (fun c_2 => ?_) (fun c_2 => ?_)
  · have h0 : cs_in v 1 32 = false := cs_inF1 (Int32.not_le.mpr c_2)
    exact cs_throw (cls := cs_IAE) (text := "width is out of range") hx hb hlf hown hts (by decide +kernel) cs_at1 hE hE.2.1.1 cs_ot1 (fun _ h => by unfold wsX1_define; exact List.mem_cons_of_mem _ (List.mem_append_left _ (List.mem_append_right _ (h)))) (by decide +kernel) (by decide +kernel) (hE.2.2 (30, "width is out of range") (by decide +kernel)) hz (hl.1.trans hml.symm) dX1_define_11 dX1_define_14 dX1_define_15 dX1_define_17 dX1_define_20 hout (Nat.le_of_ble_eq_true rfl) (Nat.le_of_ble_eq_true rfl) (Nat.le_of_ble_eq_true rfl) (Nat.le_of_ble_eq_true rfl) hlocks (Or.inl ⟨(by unfold cs_kDef; simp [cs_k1, cs_k2, cs_nS, cs_pl, cs_bRow, cs_bSer, cs_bDef, h0]), rfl⟩) (Nat.le_of_ble_eq_true rfl) (Nat.le_of_ble_eq_true rfl)
  · refine lv_iload_n hx hb dX1_define_5 rfl (lv_at hl 1 rfl) ?_
    refine lv_bipush (v := 32) hx hb dX1_define_6 (by decide) ?_
    refine lv_icmp_le (tgt := 21) hx hb dX1_define_8 (by decide) (fun c_8 => ?_) (fun c_8 => ?_)
    · have okW : cs_in v 1 32 = true := cs_inT (Int32.not_lt.mp c_2) c_8
      obtain ⟨wd, hw1, hw2, rfl⟩ := cs_in1_of (n := 32) (by decide) okW
      have wc : cs_c (nI wd) = wd := cs_cI (by omega)
      refine lv_iload_n hx hb dX1_define_21 rfl (lv_at hl 1 rfl) ?_
      refine lv_iload_n hx hb dX1_define_22 rfl (lv_at hl 2 rfl) ?_
      refine cs_xcallv (vx_runS (As := [.int (nI wd), .int a]) (rest := []) ⟨hx, hb, hml, hown, hts⟩ (k_X1_requireNumber l hlf D S ad cy wd hw2 a) (va_cwS 2 hts gX1_define_X1_requireNumber rfl rfl rfl (by decide +kernel) ⟨(Nat.le_of_ble_eq_true rfl), (Nat.le_of_ble_eq_true rfl)⟩) ⟨cs_Bx.blind, cs_Bx.at hE hz cs_none hK⟩ rfl rfl hl.1 rfl (lv_room (Nat.le_of_ble_eq_true rfl)) dX1_define_23 ⟨(Nat.le_of_ble_eq_true rfl), (Nat.le_of_ble_eq_true rfl)⟩) (fun E ce q9 H1 h1 h2 h3 h4 h5 h6 => cs_xout hout hlocks (fun E h => Or.inl ⟨(by unfold cs_kDef; simp [cs_k1, cs_k2, cs_nS, cs_pl, cs_bRow, cs_bSer, cs_bDef, okW, h.2]), h.1⟩) (Nat.le_of_ble_eq_true rfl) (Nat.le_of_ble_eq_true rfl) E ce q9 H1 h1 h2 h3 h4 h5 h6) (fun ok1 => ?_)
      refine lv_iload_n hx hb dX1_define_26 rfl (lv_at hl 1 rfl) ?_
      refine lv_iload_n hx hb dX1_define_27 rfl (lv_at hl 3 rfl) ?_
      refine cs_xcallv (vx_runS (As := [.int (nI wd), .int b]) (rest := []) ⟨hx, hb, hml, hown, hts⟩ (k_X1_requireNumber l hlf D S ad cy wd hw2 b) (va_cwS 2 hts gX1_define_X1_requireNumber rfl rfl rfl (by decide +kernel) ⟨(Nat.le_of_ble_eq_true rfl), (Nat.le_of_ble_eq_true rfl)⟩) ⟨cs_Bx.blind, cs_Bx.at hE hz cs_none hK⟩ rfl rfl hl.1 rfl (lv_room (Nat.le_of_ble_eq_true rfl)) dX1_define_28 ⟨(Nat.le_of_ble_eq_true rfl), (Nat.le_of_ble_eq_true rfl)⟩) (fun E ce q9 H1 h1 h2 h3 h4 h5 h6 => cs_xout hout hlocks (fun E h => Or.inl ⟨(by unfold cs_kDef; simp [cs_k1, cs_k2, cs_nS, cs_pl, cs_bRow, cs_bSer, cs_bDef, okW, ok1, h.2]), h.1⟩) (Nat.le_of_ble_eq_true rfl) (Nat.le_of_ble_eq_true rfl) E ce q9 H1 h1 h2 h3 h4 h5 h6) (fun ok2 => ?_)
      refine lv_iload_n hx hb dX1_define_31 rfl (lv_at hl 1 rfl) ?_
      refine lv_iload hx hb dX1_define_32 (lv_at hl 6 rfl) ?_
      refine cs_xcallv (vx_runS (As := [.int (nI wd), .int d]) (rest := []) ⟨hx, hb, hml, hown, hts⟩ (k_X1_requireNumber l hlf D S ad cy wd hw2 d) (va_cwS 2 hts gX1_define_X1_requireNumber rfl rfl rfl (by decide +kernel) ⟨(Nat.le_of_ble_eq_true rfl), (Nat.le_of_ble_eq_true rfl)⟩) ⟨cs_Bx.blind, cs_Bx.at hE hz cs_none hK⟩ rfl rfl hl.1 rfl (lv_room (Nat.le_of_ble_eq_true rfl)) dX1_define_34 ⟨(Nat.le_of_ble_eq_true rfl), (Nat.le_of_ble_eq_true rfl)⟩) (fun E ce q9 H1 h1 h2 h3 h4 h5 h6 => cs_xout hout hlocks (fun E h => Or.inl ⟨(by unfold cs_kDef; simp [cs_k1, cs_k2, cs_nS, cs_pl, cs_bRow, cs_bSer, cs_bDef, okW, ok1, ok2, h.2]), h.1⟩) (Nat.le_of_ble_eq_true rfl) (Nat.le_of_ble_eq_true rfl) E ce q9 H1 h1 h2 h3 h4 h5 h6) (fun ok3 => ?_)
      have okB : cs_bDef (nI wd) a b d = true := by unfold cs_bDef; rw [okW, ok1, ok2, ok3]; rfl
      refine lv_aload_n hx hb dX1_define_37 rfl (lv_at hl 0 rfl) ?_
      refine va_get (D := D) (ci := 1) (v := .int (nI (cs_n S))) (C := RX1) (T := TX1) (N := 4) hx hb hts hinX1 hown hK hP 0 cs_L0 rfl 1 (by decide) (hts (.fieldLink RX1 15 "ChecksumLab" "definedCount" "I") (by decide +kernel)) (fun _ h9 => h9) rfl dX1_define_38 ?_
      refine lv_aload_n hx hb dX1_define_41 rfl (lv_at hl 0 rfl) ?_
      refine va_get (D := D) (ci := 1) (v := .ref (ad 1)) (C := RX1) (T := TX1) (N := 4) hx hb hts hinX1 hown hK hP 0 cs_L0 rfl 0 (by decide) (hts (.fieldLink RX1 11 "ChecksumLab" "defined" "[LChecksumLab$Model;") (by decide +kernel)) (fun _ h9 => h9) rfl dX1_define_42 ?_
      refine va_alen (v := 6) hx hb hK hP 1 3 cs_L1 rfl rfl dX1_define_45 ?_
      refine lv_icmp_lt (tgt := 59) hx hb dX1_define_46 (by decide) (fun c_46 => ?_) (fun c_46 => ?_)
      · have hn : cs_n S < 6 := by rcases Nat.lt_or_ge (cs_n S) 6 with h | h; exact h; exact absurd c_46 (nI_nlt (a := cs_n S) (b := 6) h (by omega))
        have ek : cs_kDef S (nI wd) a b d = 0 := cs_k2_0.mpr (by rw [okB, decide_eq_true hn]; rfl)
        have es : cs_sDef S (nI wd) a b q9 t9 d = cs_def S wd a b q9 t9 d := by unfold cs_sDef; rw [if_pos ek, wc]
        refine lv_aload_n hx hb dX1_define_59 rfl (lv_at hl 0 rfl) ?_
        refine va_get (D := D) (ci := 1) (v := .int (nI (cs_n S))) (C := RX1) (T := TX1) (N := 4) hx hb hts hinX1 hown hK hP 0 cs_L0 rfl 1 (by decide) (hts (.fieldLink RX1 15 "ChecksumLab" "definedCount" "I") (by decide +kernel)) (fun _ h9 => h9) rfl dX1_define_60 ?_
        refine lv_istore (lv' := [(7, .int (nI (cs_n S))), (0, .ref (ad 0)), (1, .int (nI wd)), (2, .int a), (3, .int b), (4, .int (cs_z q9)), (5, .int (cs_z t9)), (6, .int d)]) hx hb dX1_define_63 hl (by decide) rfl (fun ls hl => ?_)
        refine lv_aload_n hx hb dX1_define_65 rfl (lv_at hl 1 rfl) ?_
        refine va_get (D := D) (ci := 1) (v := .ref (ad 1)) (C := RX1) (T := TX1) (N := 4) hx hb hts hinX1 hown hK hP 0 cs_L0 rfl 0 (by decide) (hts (.fieldLink RX1 11 "ChecksumLab" "defined" "[LChecksumLab$Model;") (by decide +kernel)) (fun _ h9 => h9) rfl dX1_define_66 ?_
        refine lv_iload hx hb dX1_define_69 (lv_at hl 0 rfl) ?_
        refine va_new (ci := 0) (fs := [.int 0, .int 0, .int 0, .int 0, .int 0, .int 0, .int 0, .int 0]) (C := RX0) (T := TX0) (N := 8) hx hb hts hinX0 tyX0 tyX0_ok hown (hts (.classLink RX1 9 RX0) (by decide +kernel)) (hts (.instantiable RX0 8) (by decide +kernel)) (hts (.initialized RX0) (by decide +kernel)) hK hP hD hS9 hA rfl (fun j hj => by rcases (show j = 0 ∨ j = 1 ∨ j = 2 ∨ j = 3 ∨ j = 4 ∨ j = 5 ∨ j = 6 ∨ j = 7 by omega) with rfl | rfl | rfl | rfl | rfl | rfl | rfl | rfl <;> rfl) (Nat.le_of_ble_eq_true rfl) (Nat.le_of_ble_eq_true rfl) dX1_define_71 (fun q H hP hD hS9 => ?_)
        refine lv_dup hx hb dX1_define_74 rfl ?_
        refine lv_iload_n hx hb dX1_define_75 rfl (lv_at hl 2 rfl) ?_
        refine lv_iload_n hx hb dX1_define_76 rfl (lv_at hl 3 rfl) ?_
        refine lv_iload_n hx hb dX1_define_77 rfl (lv_at hl 4 rfl) ?_
        refine lv_iload hx hb dX1_define_78 (lv_at hl 5 rfl) ?_
        refine lv_iload hx hb dX1_define_80 (lv_at hl 6 rfl) ?_
        refine lv_iload hx hb dX1_define_82 (lv_at hl 7 rfl) ?_
        have hF := cs_inR hD hS9 hA
        have hPq := cs_PR hP
        have hDq := cs_DR hD
        refine cs_wcallv (va_runI (As := [.int (nI wd), .int a, .int b, .int (cs_z q9), .int (cs_z t9), .int d]) (rest := [.ref q, .int (nI (cs_n S)), .ref (ad 1)]) ⟨hx, hb, hml, hown, hts⟩ (k_X0_init l D cy q H.size wd hw1 hw2 a b q9 t9 d) (cwI 6 hts gX1_define_X0_init rfl rfl rfl (hts (.initialized RX0) (by decide +kernel)) (hts (.methodLink RX1 44 yX0_init) (by decide +kernel)) (hts (.instanceMethod yX0_init) (by decide +kernel)) rfl (by decide +kernel) ⟨(Nat.le_of_ble_eq_true rfl), (Nat.le_of_ble_eq_true rfl)⟩) ⟨cs_Bw.blind, cs_Bw.at hE hPq hK hDq⟩ rfl rfl hl.1 rfl (lv_room (Nat.le_of_ble_eq_true rfl)) dX1_define_84 ⟨(Nat.le_of_ble_eq_true rfl), (Nat.le_of_ble_eq_true rfl)⟩) hS9 hF (fun u9 H locs hp hP1 hD1 hz1 hk1 hS9 => ?_)
        obtain ⟨hP, hD⟩ := cs_joinR hP hD hk1 hF hP1 hD1
        have hP : va_P D vwCl (cs_L S ad cy ++ ([(q, .inr (0, (cs_F wd a b q9 t9 d)))] : va_W)) H := hP
        have hD : va_D (va_A (cs_L S ad cy) s.heap.size) (cs_L S ad cy ++ ([(q, .inr (0, (cs_F wd a b q9 t9 d)))] : va_W)) := hD
        refine va_astq (r := (RX0, TX0, 8)) hx hb hK hP hD hS9 1 3 (8 + cs_n S) 0 rfl rfl cs_Lq rfl (vp_in_nI hn (by decide)) dX1_define_87 (fun H locs hP hD hS9 => ?_)
        rw [nI_clamp (show cs_n S < 2 ^ 31 by omega)] at hP hD
        refine lv_aload_n hx hb dX1_define_88 rfl (lv_at hl 1 rfl) ?_
        refine lv_iload hx hb dX1_define_89 (lv_at hl 0 rfl) ?_
        refine lv_iconst (v := 1) hx hb dX1_define_91 (by decide) ?_
        refine lv_iadd hx hb dX1_define_92 ?_
        refine cs_top (y := nI (cs_n S + 1)) (nI_1 _) ?_
        refine va_put (D := D) (ci := 1) (v := .int (nI (cs_n S + 1))) (ty := .int) (C := RX1) (T := TX1) (N := 4) hx hb hts hinX1 tyX1 tyX1_ok nmX1 hown hK hP hD hS9 0 rfl rfl 1 (by decide) (hts (.fieldLink RX1 15 "ChecksumLab" "definedCount" "I") (by decide +kernel)) (fun _ h9 => h9) rfl (by decide +kernel) rfl rfl (Nat.le_of_ble_eq_true rfl) dX1_define_93 (fun H locs hP hD hS9 => ?_)
        have hP := cs_PE cs_Lpush hP
        have hD := cs_DE cs_Lpush hD
        refine lv_iload hx hb dX1_define_96 (lv_at hl 0 rfl) ?_
        refine W.widen (k := 5) (n := 32) (Nat.le_of_ble_eq_true rfl) (Nat.le_of_ble_eq_true rfl) ?_
        exact vx_ret (W.iret (v := nI (cs_n S)) hx hb hr (fun t ht _ => ⟨nI (cs_n S), va_up ad (8 + cs_n S) q, rfl, ⟨⟨ek, rfl⟩, va_up_ne _ _ (by omega)⟩, by rw [ht]; show va_P D vwCl (cs_L (cs_sDef S (nI wd) a b q9 t9 d) _ cy) _; rw [es]; exact hP, by show va_D _ (cs_L (cs_sDef S (nI wd) a b q9 t9 d) _ cy); rw [es]; exact hD, hS9.F ht⟩) hS9.2.2 dX1_define_98)
      · have h0 : decide (cs_n S < 6) = false := decide_eq_false (fun h9 => c_46 (nI_lt h9 (by decide)))
        exact cs_throw (cls := cs_ISE) (text := "there are 6 models already") hx hb hlf hown hts (by decide +kernel) cs_at2 hE hE.2.1.2.1 cs_ot2 (fun _ h => by unfold wsX1_define; exact List.mem_cons_of_mem _ (List.mem_append_right _ (h))) (by decide +kernel) (by decide +kernel) (hE.2.2 (41, "there are 6 models already") (by decide +kernel)) hz (hl.1.trans hml.symm) dX1_define_49 dX1_define_52 dX1_define_53 dX1_define_55 dX1_define_58 hout (Nat.le_of_ble_eq_true rfl) (Nat.le_of_ble_eq_true rfl) (Nat.le_of_ble_eq_true rfl) (Nat.le_of_ble_eq_true rfl) hlocks (Or.inr (Or.inl ⟨(cs_k2_2 okB h0), rfl⟩)) (Nat.le_of_ble_eq_true rfl) (Nat.le_of_ble_eq_true rfl)
    · have h0 : cs_in v 1 32 = false := cs_inF2 c_8
      exact cs_throw (cls := cs_IAE) (text := "width is out of range") hx hb hlf hown hts (by decide +kernel) cs_at1 hE hE.2.1.1 cs_ot1 (fun _ h => by unfold wsX1_define; exact List.mem_cons_of_mem _ (List.mem_append_left _ (List.mem_append_right _ (h)))) (by decide +kernel) (by decide +kernel) (hE.2.2 (30, "width is out of range") (by decide +kernel)) hz (hl.1.trans hml.symm) dX1_define_11 dX1_define_14 dX1_define_15 dX1_define_17 dX1_define_20 hout (Nat.le_of_ble_eq_true rfl) (Nat.le_of_ble_eq_true rfl) (Nat.le_of_ble_eq_true rfl) (Nat.le_of_ble_eq_true rfl) hlocks (Or.inl ⟨(by unfold cs_kDef; simp [cs_k1, cs_k2, cs_nS, cs_pl, cs_bRow, cs_bSer, cs_bDef, h0]), rfl⟩) (Nat.le_of_ble_eq_true rfl) (Nat.le_of_ble_eq_true rfl)
end
section
/-! sums of three rows: register, bit orders and remainder are linear -/
theorem cs_shx (x y k : Int32) : (x ^^^ y) <<< k = (x <<< k) ^^^ (y <<< k) := by
  apply Int32.toBitVec_inj.mp
  rw [Int32.toBitVec_xor, Int32.toBitVec_shiftLeft, Int32.toBitVec_shiftLeft, Int32.toBitVec_shiftLeft, Int32.toBitVec_xor, BitVec.shiftLeft_eq', BitVec.shiftLeft_eq', BitVec.shiftLeft_eq', BitVec.shiftLeft_xor_distrib]
theorem cs_x3mix (a b c x y z : Int32) : (a ^^^ b ^^^ c) ^^^ (x ^^^ y ^^^ z) = (a ^^^ x) ^^^ (b ^^^ y) ^^^ (c ^^^ z) := b_ext fun i hi => by
  simp only [b_xor]
  cases bt a i <;> cases bt b i <;> cases bt c i <;> cases bt x i <;> cases bt y i <;> cases bt z i <;> rfl
theorem cs_x3one (a : Int32) : a = a ^^^ a ^^^ a := b_ext fun i hi => by
  simp only [b_xor]
  cases bt a i <;> rfl
theorem cs_x3out (a b c x : Int32) : (a ^^^ b ^^^ c) ^^^ x = (a ^^^ x) ^^^ (b ^^^ x) ^^^ (c ^^^ x) := b_ext fun i hi => by
  simp only [b_xor]
  cases bt a i <;> cases bt b i <;> cases bt c i <;> cases bt x i <;> rfl
theorem cs_x3T {w : Nat} {p : Int32} (h1 : 1 ≤ w) (h2 : w ≤ 32) (a b c : Int32) : cs_T w p (a ^^^ b ^^^ c) = cs_T w p a ^^^ cs_T w p b ^^^ cs_T w p c := by
  rw [cs_Tx h1 h2, cs_Tx h1 h2]
theorem cs_x3bit (a b c : Int32) {n : Nat} (hn : n < 32) : cs_bit (a ^^^ b ^^^ c) (nI n) = cs_bit a (nI n) ^^^ cs_bit b (nI n) ^^^ cs_bit c (nI n) := b_ext fun i hi => by
  simp only [b_xor, cs_bt1 _ n hn i hi]
  cases decide (i = 0) <;> cases bt a n <;> cases bt b n <;> cases bt c n <;> rfl
theorem cs_x3tb {w : Nat} {p : Int32} (h1 : 1 ≤ w) (h2 : w ≤ 32) (a b c x y z : Int32) : cs_tb w p (a ^^^ b ^^^ c) (x ^^^ y ^^^ z) = cs_tb w p a x ^^^ cs_tb w p b y ^^^ cs_tb w p c z := by
  unfold cs_tb
  rw [cs_shx, cs_shx, cs_x3mix, cs_x3T h1 h2]
theorem cs_x3ty {w : Nat} {p : Int32} (h1 : 1 ≤ w) (h2 : w ≤ 32) (x y z : Int32) : ∀ (n : Nat), n ≤ 32 → ∀ a b c : Int32, cs_ty w p (x ^^^ y ^^^ z) n (a ^^^ b ^^^ c) = cs_ty w p x n a ^^^ cs_ty w p y n b ^^^ cs_ty w p z n c
  | 0, _, _, _, _ => rfl
  | n + 1, hn, a, b, c => by
    rw [cs_ty, cs_ty, cs_ty, cs_ty, cs_x3bit x y z (by omega), cs_x3tb h1 h2]
    exact cs_x3ty h1 h2 x y z n (by omega) _ _ _
theorem cs_x3rv (a b c : Int32) {k : Nat} (hk : k ≤ 32) : cs_rv (a ^^^ b ^^^ c) k = cs_rv a k ^^^ cs_rv b k ^^^ cs_rv c k := b_ext fun i hi => by
  simp only [b_xor, cs_rv_b _ k hk i hi]
  cases decide (i < k) <;> cases bt a (k - 1 - i) <;> cases bt b (k - 1 - i) <;> cases bt c (k - 1 - i) <;> rfl
theorem cs_x3od (ri : Bool) (a b c : Int32) : cs_od ri (a ^^^ b ^^^ c) = cs_od ri a ^^^ cs_od ri b ^^^ cs_od ri c := by
  unfold cs_od
  cases ri
  · rfl
  · exact cs_x3rv a b c (by decide)
theorem cs_x3so (ro : Bool) {w : Nat} (h2 : w ≤ 32) (a b c : Int32) : cs_so ro w (a ^^^ b ^^^ c) = cs_so ro w a ^^^ cs_so ro w b ^^^ cs_so ro w c := by
  unfold cs_so
  cases ro
  · rfl
  · exact cs_x3rv a b c h2
/-- the fourth row is the exclusive or of the three -/
def cs_x4 (f g h k : Nat → Nat) (n : Nat) : Prop := ∀ j, j < n → nI (k j) = nI (f j) ^^^ nI (g j) ^^^ nI (h j)
theorem cs_x3ps {w : Nat} {p : Int32} (h1 : 1 ≤ w) (h2 : w ≤ 32) (ri : Bool) (i : Int32) {f g h k : Nat → Nat} {a N : Nat} (hx : cs_x4 f g h k N) : ∀ n, a + n ≤ N → cs_ps w p ri i k a n = cs_ps w p ri i f a n ^^^ cs_ps w p ri i g a n ^^^ cs_ps w p ri i h a n
  | 0, _ => cs_x3one i
  | n + 1, hn => by
    rw [cs_ps, cs_ps, cs_ps, cs_ps, cs_x3ps h1 h2 ri i hx n (by omega), hx (a + n) (by omega)]
    unfold cs_tk
    rw [cs_x3od]
    exact cs_x3ty h1 h2 _ _ _ 8 (by decide) _ _ _
theorem cs_x3dv {w : Nat} {p : Int32} (h1 : 1 ≤ w) (h2 : w ≤ 32) (x y z : Int32) : ∀ (n : Nat), n ≤ 32 → ∀ a b c : Int32, cs_dv w p (x ^^^ y ^^^ z) n (a ^^^ b ^^^ c) = cs_dv w p x n a ^^^ cs_dv w p y n b ^^^ cs_dv w p z n c
  | 0, _, _, _, _ => rfl
  | n + 1, hn, a, b, c => by
    rw [cs_dv, cs_dv, cs_dv, cs_dv, cs_x3bit x y z (by omega), cs_x3T h1 h2, cs_x3mix]
    exact cs_x3dv h1 h2 x y z n (by omega) _ _ _
theorem cs_x3rs {w : Nat} {p : Int32} (h1 : 1 ≤ w) (h2 : w ≤ 32) {f g h k : Nat → Nat} {N : Nat} (hx : cs_x4 f g h k N) : ∀ n, n ≤ N → cs_rs w p k n = cs_rs w p f n ^^^ cs_rs w p g n ^^^ cs_rs w p h n
  | 0, _ => by
    show (0 : Int32) = 0 ^^^ 0 ^^^ 0
    decide
  | n + 1, hn => by
    rw [cs_rs, cs_rs, cs_rs, cs_rs, cs_x3rs h1 h2 hx n (by omega), hx n (by omega)]
    exact cs_x3dv h1 h2 _ _ _ 8 (by decide) _ _ _
theorem cs_nIx {a b : Nat} (ha : a < 2 ^ 31) (hb : b < 2 ^ 31) : nI a ^^^ nI b = nI (a ^^^ b) := by
  have h : a ^^^ b < 2 ^ 31 := Nat.xor_lt_two_pow ha hb
  apply Int32.toBitVec_inj.mp
  apply BitVec.eq_of_toNat_eq
  rw [Int32.toBitVec_xor, BitVec.toNat_xor, pk_tn (by omega), pk_tn (by omega), pk_tn (by omega)]
theorem cs_x256 {a b : Nat} (ha : a < 256) (hb : b < 256) : a ^^^ b < 256 := Nat.xor_lt_two_pow (n := 8) ha hb
/-- the law's sums: of a part (0), of the row (1), the remainder (2) -/
def cs_sm (S : cs_St) (t : Nat) (m r a b : Int32) : Int32 := if t = 0 then cs_vPar S m r a b else if t = 1 then cs_vSum S m r else cs_vRem S m r
theorem cs_x3psS {S : cs_St} {m : Int32} (h1 : 1 ≤ cs_w S (cs_c m)) (h2 : cs_w S (cs_c m) ≤ 32) {f g h k : Nat → Nat} {a n N : Nat} (hx : cs_x4 f g h k N) (hn : a + n ≤ N) : cs_psS S m k a n = cs_psS S m f a n ^^^ cs_psS S m g a n ^^^ cs_psS S m h a n := by
  unfold cs_psS
  rw [cs_x3ps h1 h2 _ _ hx n hn, cs_x3so _ h2, cs_x3out]
theorem cs_x3sm {S : cs_St} (hS : cs_ok S) {N : Nat} (hln : ∀ r, r < 4 → cs_ln S r = N) (hx : cs_x4 (cs_by S 0) (cs_by S 1) (cs_by S 2) (cs_by S 3) N) {mo : Nat} (hm : mo < cs_n S) (t : Nat) {a b : Nat} (ha : a ≤ b) (hb : b ≤ N) :
    cs_sm S t (nI mo) (nI 3) (nI a) (nI b) = cs_sm S t (nI mo) (nI 0) (nI a) (nI b) ^^^ cs_sm S t (nI mo) (nI 1) (nI a) (nI b) ^^^ cs_sm S t (nI mo) (nI 2) (nI a) (nI b) := by
  have h6 := hS.1
  have hN : N ≤ 256 := by rw [← hln 0 (by decide)]; exact hS.2.2.1 0
  have hmc : cs_c (nI mo) = mo := cs_cI (by omega)
  obtain ⟨h1, h2⟩ := hS.2.1 mo hm
  have h1' : 1 ≤ cs_w S (cs_c (nI mo)) := by rw [hmc]; exact h1
  have h2' : cs_w S (cs_c (nI mo)) ≤ 32 := by rw [hmc]; exact h2
  have e0 : cs_c (nI 0) = 0 := cs_cI (by decide)
  have e1 : cs_c (nI 1) = 1 := cs_cI (by decide)
  have e2 : cs_c (nI 2) = 2 := cs_cI (by decide)
  have e3 : cs_c (nI 3) = 3 := cs_cI (by decide)
  have ea : cs_c (nI a) = a := cs_cI (by omega)
  have eb : cs_c (nI b) = b := cs_cI (by omega)
  unfold cs_sm
  by_cases c0 : t = 0
  · rw [if_pos c0, if_pos c0, if_pos c0, if_pos c0]
    unfold cs_vPar
    rw [e0, e1, e2, e3, ea, eb]
    exact cs_x3psS h1' h2' hx (by omega)
  · rw [if_neg c0, if_neg c0, if_neg c0, if_neg c0]
    by_cases c1 : t = 1
    · rw [if_pos c1, if_pos c1, if_pos c1, if_pos c1]
      unfold cs_vSum
      rw [e0, e1, e2, e3, hln 0 (by decide), hln 1 (by decide), hln 2 (by decide), hln 3 (by decide)]
      exact cs_x3psS h1' h2' hx (by omega)
    · rw [if_neg c1, if_neg c1, if_neg c1, if_neg c1]
      unfold cs_vRem
      rw [e0, e1, e2, e3, hln 0 (by decide), hln 1 (by decide), hln 2 (by decide), hln 3 (by decide)]
      exact cs_x3rs h1' h2' hx N (Nat.le_refl _)
end
section
theorem dL_drawn_0 : decode cL_drawn 0 = .ok (.iload_n 1, 1) := by decide +kernel
theorem dL_drawn_1 : decode cL_drawn 1 = .ok (.aload_n 0, 1) := by decide +kernel
theorem dL_drawn_2 : decode cL_drawn 2 = .ok (.arraylength, 1) := by decide +kernel
theorem dL_drawn_3 : decode cL_drawn 3 = .ok (.if_icmp .ge 9, 3) := by decide +kernel
theorem dL_drawn_6 : decode cL_drawn 6 = .ok (.aload_n 0, 1) := by decide +kernel
theorem dL_drawn_7 : decode cL_drawn 7 = .ok (.iload_n 1, 1) := by decide +kernel
theorem dL_drawn_8 : decode cL_drawn 8 = .ok (.iaload, 1) := by decide +kernel
theorem dL_drawn_9 : decode cL_drawn 9 = .ok (.goto 12, 3) := by decide +kernel
theorem dL_drawn_12 : decode cL_drawn 12 = .ok (.ldc 7, 2) := by decide +kernel
theorem dL_drawn_14 : decode cL_drawn 14 = .ok (.iload_n 1, 1) := by decide +kernel
theorem dL_drawn_15 : decode cL_drawn 15 = .ok (.imul, 1) := by decide +kernel
theorem dL_drawn_16 : decode cL_drawn 16 = .ok (.iload_n 1, 1) := by decide +kernel
theorem dL_drawn_17 : decode cL_drawn 17 = .ok (.imul, 1) := by decide +kernel
theorem dL_drawn_18 : decode cL_drawn 18 = .ok (.ldc 8, 2) := by decide +kernel
theorem dL_drawn_20 : decode cL_drawn 20 = .ok (.iadd, 1) := by decide +kernel
theorem dL_drawn_21 : decode cL_drawn 21 = .ok (.istore_n 2, 1) := by decide +kernel
theorem dL_drawn_22 : decode cL_drawn 22 = .ok (.iload_n 2, 1) := by decide +kernel
theorem dL_drawn_23 : decode cL_drawn 23 = .ok (.ldc 9, 2) := by decide +kernel
theorem dL_drawn_25 : decode cL_drawn 25 = .ok (.iand, 1) := by decide +kernel
theorem dL_drawn_26 : decode cL_drawn 26 = .ok (.ireturn, 1) := by decide +kernel
set_option maxRecDepth 20000 in
theorem ggL_model_X1_define : GoodIn wsL_model wsX1_define := goodIn_ca (goodIn_ca (goodIn_r _ [7, 8, 9, 10, 11, 12, 13, 14, 15, 16, 17, 18, 6, 19, 20, 21, 22, 23, 24, 25, 26, 27, 28, 29, 30, 31, 32, 33, 34, 35, 36, 37, 38, 39, 40, 41, 42, 43, 44, 45] (by decide +kernel) (by decide +kernel)) (goodIn_sub (fun _ h => List.mem_cons_of_mem _ (List.mem_append_left _ (List.mem_append_right _ h))) (by decide +kernel))) (goodIn_sub (fun _ h => List.mem_cons_of_mem _ (List.mem_append_right _ h)) (by decide +kernel))
set_option maxRecDepth 20000 in
theorem gL_model_X1_define : GoodIn wsL_model (wsV RL 10 RX1 yX1_define wsX1_define) := goodIn_app (goodIn_of _ (by decide +kernel)) ggL_model_X1_define
theorem dL_model_0 : decode cL_model 0 = .ok (.aload_n 0, 1) := by decide +kernel
theorem dL_model_1 : decode cL_model 1 = .ok (.iload_n 1, 1) := by decide +kernel
theorem dL_model_2 : decode cL_model 2 = .ok (.iload_n 2, 1) := by decide +kernel
theorem dL_model_3 : decode cL_model 3 = .ok (.iload_n 3, 1) := by decide +kernel
theorem dL_model_4 : decode cL_model 4 = .ok (.iload 4, 2) := by decide +kernel
theorem dL_model_6 : decode cL_model 6 = .ok (.iconst 2, 1) := by decide +kernel
theorem dL_model_7 : decode cL_model 7 = .ok (.irem, 1) := by decide +kernel
theorem dL_model_8 : decode cL_model 8 = .ok (.iconst 1, 1) := by decide +kernel
theorem dL_model_9 : decode cL_model 9 = .ok (.if_icmp .ne 7, 3) := by decide +kernel
theorem dL_model_12 : decode cL_model 12 = .ok (.iconst 1, 1) := by decide +kernel
theorem dL_model_13 : decode cL_model 13 = .ok (.goto 4, 3) := by decide +kernel
theorem dL_model_16 : decode cL_model 16 = .ok (.iconst 0, 1) := by decide +kernel
theorem dL_model_17 : decode cL_model 17 = .ok (.iload 4, 2) := by decide +kernel
theorem dL_model_19 : decode cL_model 19 = .ok (.iconst 1, 1) := by decide +kernel
theorem dL_model_20 : decode cL_model 20 = .ok (.if_icmp .le 7, 3) := by decide +kernel
theorem dL_model_23 : decode cL_model 23 = .ok (.iconst 1, 1) := by decide +kernel
theorem dL_model_24 : decode cL_model 24 = .ok (.goto 4, 3) := by decide +kernel
theorem dL_model_27 : decode cL_model 27 = .ok (.iconst 0, 1) := by decide +kernel
theorem dL_model_28 : decode cL_model 28 = .ok (.iload 5, 2) := by decide +kernel
theorem dL_model_30 : decode cL_model 30 = .ok (.invokevirtual 10, 3) := by decide +kernel
theorem dL_model_33 : decode cL_model 33 = .ok (.ireturn, 1) := by decide +kernel
theorem dL_model_34 : decode cL_model 34 = .ok (.astore 6, 2) := by decide +kernel
theorem dL_model_36 : decode cL_model 36 = .ok (.iconst (-1), 1) := by decide +kernel
theorem dL_model_37 : decode cL_model 37 = .ok (.ireturn, 1) := by decide +kernel
theorem dL_model_38 : decode cL_model 38 = .ok (.astore 6, 2) := by decide +kernel
theorem dL_model_40 : decode cL_model 40 = .ok (.iconst (-1), 1) := by decide +kernel
theorem dL_model_41 : decode cL_model 41 = .ok (.ireturn, 1) := by decide +kernel
set_option maxRecDepth 20000 in
theorem ggL_added_X1_append : GoodIn wsL_added wsX1_append := goodIn_ca (goodIn_ca (goodIn_ca (goodIn_r _ [8, 9, 10, 11, 12, 7, 13, 14, 15, 16, 17, 18, 19, 20, 21, 22, 23, 24, 25, 26, 27, 28, 29, 30] (by decide +kernel) (by decide +kernel)) (goodIn_sub (fun _ h => List.mem_cons_of_mem _ (List.mem_append_left _ (List.mem_append_left _ (List.mem_append_right _ h)))) (by decide +kernel))) (goodIn_sub (fun _ h => List.mem_cons_of_mem _ (List.mem_append_left _ (List.mem_append_right _ h))) (by decide +kernel))) (goodIn_sub (fun _ h => List.mem_cons_of_mem _ (List.mem_append_right _ h)) (by decide +kernel))
set_option maxRecDepth 20000 in
theorem gL_added_X1_append : GoodIn wsL_added (wsV RL 20 RX1 yX1_append wsX1_append) := goodIn_app (goodIn_of _ (by decide +kernel)) ggL_added_X1_append
theorem dL_added_0 : decode cL_added 0 = .ok (.aload_n 0, 1) := by decide +kernel
theorem dL_added_1 : decode cL_added 1 = .ok (.iload_n 1, 1) := by decide +kernel
theorem dL_added_2 : decode cL_added 2 = .ok (.iload_n 2, 1) := by decide +kernel
theorem dL_added_3 : decode cL_added 3 = .ok (.invokevirtual 20, 3) := by decide +kernel
theorem dL_added_6 : decode cL_added 6 = .ok (.ireturn, 1) := by decide +kernel
theorem dL_added_7 : decode cL_added 7 = .ok (.astore_n 3, 1) := by decide +kernel
theorem dL_added_8 : decode cL_added 8 = .ok (.iconst (-1), 1) := by decide +kernel
theorem dL_added_9 : decode cL_added 9 = .ok (.ireturn, 1) := by decide +kernel
theorem dL_added_10 : decode cL_added 10 = .ok (.astore_n 3, 1) := by decide +kernel
theorem dL_added_11 : decode cL_added 11 = .ok (.iconst (-1), 1) := by decide +kernel
theorem dL_added_12 : decode cL_added 12 = .ok (.ireturn, 1) := by decide +kernel
theorem dL_added_13 : decode cL_added 13 = .ok (.astore_n 3, 1) := by decide +kernel
theorem dL_added_14 : decode cL_added 14 = .ok (.iconst (-1), 1) := by decide +kernel
theorem dL_added_15 : decode cL_added 15 = .ok (.ireturn, 1) := by decide +kernel
set_option maxRecDepth 20000 in
theorem ggL_changed_X1_setByte : GoodIn wsL_changed wsX1_setByte := goodIn_ca (goodIn_ca (goodIn_r _ [7, 8, 9, 10, 6, 11, 12, 13, 14, 15, 16, 17, 18, 19, 20, 21, 22, 23, 24, 25, 26, 27] (by decide +kernel) (by decide +kernel)) (goodIn_sub (fun _ h => List.mem_cons_of_mem _ (List.mem_append_left _ (List.mem_append_right _ h))) (by decide +kernel))) (goodIn_sub (fun _ h => List.mem_cons_of_mem _ (List.mem_append_right _ h)) (by decide +kernel))
set_option maxRecDepth 20000 in
theorem gL_changed_X1_setByte : GoodIn wsL_changed (wsV RL 26 RX1 yX1_setByte wsX1_setByte) := goodIn_app (goodIn_of _ (by decide +kernel)) ggL_changed_X1_setByte
theorem dL_changed_0 : decode cL_changed 0 = .ok (.aload_n 0, 1) := by decide +kernel
theorem dL_changed_1 : decode cL_changed 1 = .ok (.iload_n 1, 1) := by decide +kernel
theorem dL_changed_2 : decode cL_changed 2 = .ok (.iload_n 2, 1) := by decide +kernel
theorem dL_changed_3 : decode cL_changed 3 = .ok (.iload_n 3, 1) := by decide +kernel
theorem dL_changed_4 : decode cL_changed 4 = .ok (.invokevirtual 26, 3) := by decide +kernel
theorem dL_changed_7 : decode cL_changed 7 = .ok (.ireturn, 1) := by decide +kernel
theorem dL_changed_8 : decode cL_changed 8 = .ok (.astore 4, 2) := by decide +kernel
theorem dL_changed_10 : decode cL_changed 10 = .ok (.iconst (-1), 1) := by decide +kernel
theorem dL_changed_11 : decode cL_changed 11 = .ok (.ireturn, 1) := by decide +kernel
theorem dL_changed_12 : decode cL_changed 12 = .ok (.astore 4, 2) := by decide +kernel
theorem dL_changed_14 : decode cL_changed 14 = .ok (.iconst (-1), 1) := by decide +kernel
theorem dL_changed_15 : decode cL_changed 15 = .ok (.ireturn, 1) := by decide +kernel
set_option maxRecDepth 20000 in
theorem ggL_at_X1_byteAt : GoodIn wsL_at wsX1_byteAt := goodIn_ca (goodIn_r _ [6, 7, 8, 9, 5, 10, 11, 12, 13, 14, 15, 16, 17, 18, 19, 20, 21] (by decide +kernel) (by decide +kernel)) (goodIn_sub (fun _ h => List.mem_cons_of_mem _ (List.mem_append_right _ h)) (by decide +kernel))
set_option maxRecDepth 20000 in
theorem gL_at_X1_byteAt : GoodIn wsL_at (wsV RL 30 RX1 yX1_byteAt wsX1_byteAt) := goodIn_app (goodIn_of _ (by decide +kernel)) ggL_at_X1_byteAt
theorem dL_at_0 : decode cL_at 0 = .ok (.aload_n 0, 1) := by decide +kernel
theorem dL_at_1 : decode cL_at 1 = .ok (.iload_n 1, 1) := by decide +kernel
theorem dL_at_2 : decode cL_at 2 = .ok (.iload_n 2, 1) := by decide +kernel
theorem dL_at_3 : decode cL_at 3 = .ok (.invokevirtual 30, 3) := by decide +kernel
theorem dL_at_6 : decode cL_at 6 = .ok (.ireturn, 1) := by decide +kernel
theorem dL_at_7 : decode cL_at 7 = .ok (.astore_n 3, 1) := by decide +kernel
theorem dL_at_8 : decode cL_at 8 = .ok (.iconst (-1), 1) := by decide +kernel
theorem dL_at_9 : decode cL_at 9 = .ok (.ireturn, 1) := by decide +kernel
set_option maxRecDepth 20000 in
theorem ggL_sum_X1_sumOfPart : GoodIn wsL_sum wsX1_sumOfPart := goodIn_ca (goodIn_r _ [6, 7, 8, 9, 10, 11, 12, 5, 13, 14, 15, 16, 17, 18, 19, 20, 21, 22, 23, 24, 25, 26, 27, 28, 29, 30, 31, 32, 33, 34, 35, 36, 37, 38, 39, 40, 41, 42, 43, 44, 45, 46, 47, 48, 49, 50, 51, 52, 53, 54, 55, 56, 57, 70, 71, 72, 73, 74, 75, 76, 77, 78, 79, 80, 81] (by decide +kernel) (by decide +kernel)) (goodIn_sub (fun _ h => List.mem_cons_of_mem _ (List.mem_append_right _ h)) (by decide +kernel))
set_option maxRecDepth 20000 in
theorem gL_sum_X1_sumOfPart : GoodIn wsL_sum (wsV RL 33 RX1 yX1_sumOfPart wsX1_sumOfPart) := goodIn_app (goodIn_of _ (by decide +kernel)) ggL_sum_X1_sumOfPart
set_option maxRecDepth 20000 in
theorem ggL_sum_X1_sum : GoodIn wsL_sum wsX1_sum := goodIn_ca (goodIn_r _ [61, 9, 10, 11, 12, 5, 13, 7, 8, 14, 15, 16, 17, 18, 19, 20, 21, 22, 23, 24, 25, 26, 27, 28, 29, 30, 31, 32, 33, 34, 35, 36, 37, 38, 39, 40, 41, 42, 43, 44, 45, 46, 47, 48, 49, 50, 51, 52, 53, 54, 55, 56, 57, 70, 71, 72, 73, 74, 75, 76, 77, 78, 79, 80, 81] (by decide +kernel) (by decide +kernel)) (goodIn_sub (fun _ h => List.mem_cons_of_mem _ (List.mem_append_right _ h)) (by decide +kernel))
set_option maxRecDepth 20000 in
theorem gL_sum_X1_sum : GoodIn wsL_sum (wsV RL 37 RX1 yX1_sum wsX1_sum) := goodIn_app (goodIn_of _ (by decide +kernel)) ggL_sum_X1_sum
set_option maxRecDepth 20000 in
theorem ggL_sum_X1_remainder : GoodIn wsL_sum wsX1_remainder := goodIn_ca (goodIn_r _ [65, 9, 23, 10, 11, 12, 5, 13, 7, 8, 14, 15, 16, 17, 66, 67, 68, 27, 69, 41, 42, 43, 44, 45, 46, 47, 70, 71, 72, 73, 74, 75, 76, 77, 78, 79, 80, 81] (by decide +kernel) (by decide +kernel)) (goodIn_sub (fun _ h => List.mem_cons_of_mem _ (List.mem_append_right _ h)) (by decide +kernel))
set_option maxRecDepth 20000 in
theorem gL_sum_X1_remainder : GoodIn wsL_sum (wsV RL 40 RX1 yX1_remainder wsX1_remainder) := goodIn_app (goodIn_of _ (by decide +kernel)) ggL_sum_X1_remainder
theorem dL_sum_0 : decode cL_sum 0 = .ok (.iload_n 1, 1) := by decide +kernel
theorem dL_sum_1 : decode cL_sum 1 = .ok (.ifCond .ne 16, 3) := by decide +kernel
theorem dL_sum_4 : decode cL_sum 4 = .ok (.aload_n 0, 1) := by decide +kernel
theorem dL_sum_5 : decode cL_sum 5 = .ok (.iload_n 2, 1) := by decide +kernel
theorem dL_sum_6 : decode cL_sum 6 = .ok (.iload_n 3, 1) := by decide +kernel
theorem dL_sum_7 : decode cL_sum 7 = .ok (.iload 4, 2) := by decide +kernel
theorem dL_sum_9 : decode cL_sum 9 = .ok (.iload 5, 2) := by decide +kernel
theorem dL_sum_11 : decode cL_sum 11 = .ok (.invokevirtual 33, 3) := by decide +kernel
theorem dL_sum_14 : decode cL_sum 14 = .ok (.goto 23, 3) := by decide +kernel
theorem dL_sum_17 : decode cL_sum 17 = .ok (.iload_n 1, 1) := by decide +kernel
theorem dL_sum_18 : decode cL_sum 18 = .ok (.iconst 1, 1) := by decide +kernel
theorem dL_sum_19 : decode cL_sum 19 = .ok (.if_icmp .ne 12, 3) := by decide +kernel
theorem dL_sum_22 : decode cL_sum 22 = .ok (.aload_n 0, 1) := by decide +kernel
theorem dL_sum_23 : decode cL_sum 23 = .ok (.iload_n 2, 1) := by decide +kernel
theorem dL_sum_24 : decode cL_sum 24 = .ok (.iload_n 3, 1) := by decide +kernel
theorem dL_sum_25 : decode cL_sum 25 = .ok (.invokevirtual 37, 3) := by decide +kernel
theorem dL_sum_28 : decode cL_sum 28 = .ok (.goto 9, 3) := by decide +kernel
theorem dL_sum_31 : decode cL_sum 31 = .ok (.aload_n 0, 1) := by decide +kernel
theorem dL_sum_32 : decode cL_sum 32 = .ok (.iload_n 2, 1) := by decide +kernel
theorem dL_sum_33 : decode cL_sum 33 = .ok (.iload_n 3, 1) := by decide +kernel
theorem dL_sum_34 : decode cL_sum 34 = .ok (.invokevirtual 40, 3) := by decide +kernel
theorem dL_sum_37 : decode cL_sum 37 = .ok (.ireturn, 1) := by decide +kernel
theorem dL_sum_38 : decode cL_sum 38 = .ok (.astore 6, 2) := by decide +kernel
theorem dL_sum_40 : decode cL_sum 40 = .ok (.iconst (-1), 1) := by decide +kernel
theorem dL_sum_41 : decode cL_sum 41 = .ok (.ireturn, 1) := by decide +kernel
set_option maxRecDepth 20000 in
theorem ggL_isAffine_L_sum : GoodIn wsL_isAffine wsL_sum := goodIn_ca (goodIn_r _ [4, 5, 6, 7, 8, 9, 10, 11, 12, 13, 14, 15, 16, 17, 18, 19, 20, 21, 22, 23, 24, 25, 26, 27, 28, 29, 30, 31, 32, 33, 34, 35, 36, 37, 38, 39, 40, 41, 42, 43, 44, 45, 46, 47, 48, 49, 50, 51, 52, 53, 54, 55, 56, 57, 58, 59, 60, 61, 62, 63, 64, 65, 66, 67, 68, 69, 70, 71, 72, 73, 74, 75, 76, 77, 78, 79, 80, 81, 82, 83, 84, 85] (by decide +kernel) (by decide +kernel)) (goodIn_sub (fun _ h => List.mem_cons_of_mem _ (List.mem_append_right _ h)) (by decide +kernel))
set_option maxRecDepth 20000 in
theorem gL_isAffine_L_sum : GoodIn wsL_isAffine (va_wsS RL 43 yL_sum wsL_sum) := goodIn_app (goodIn_of _ (by decide +kernel)) ggL_isAffine_L_sum
theorem dL_isAffine_0 : decode cL_isAffine 0 = .ok (.aload_n 0, 1) := by decide +kernel
theorem dL_isAffine_1 : decode cL_isAffine 1 = .ok (.iload_n 1, 1) := by decide +kernel
theorem dL_isAffine_2 : decode cL_isAffine 2 = .ok (.iload_n 2, 1) := by decide +kernel
theorem dL_isAffine_3 : decode cL_isAffine 3 = .ok (.iconst 3, 1) := by decide +kernel
theorem dL_isAffine_4 : decode cL_isAffine 4 = .ok (.iload_n 3, 1) := by decide +kernel
theorem dL_isAffine_5 : decode cL_isAffine 5 = .ok (.iload 4, 2) := by decide +kernel
theorem dL_isAffine_7 : decode cL_isAffine 7 = .ok (.invokestatic 43, 3) := by decide +kernel
theorem dL_isAffine_10 : decode cL_isAffine 10 = .ok (.aload_n 0, 1) := by decide +kernel
theorem dL_isAffine_11 : decode cL_isAffine 11 = .ok (.iload_n 1, 1) := by decide +kernel
theorem dL_isAffine_12 : decode cL_isAffine 12 = .ok (.iload_n 2, 1) := by decide +kernel
theorem dL_isAffine_13 : decode cL_isAffine 13 = .ok (.iconst 0, 1) := by decide +kernel
theorem dL_isAffine_14 : decode cL_isAffine 14 = .ok (.iload_n 3, 1) := by decide +kernel
theorem dL_isAffine_15 : decode cL_isAffine 15 = .ok (.iload 4, 2) := by decide +kernel
theorem dL_isAffine_17 : decode cL_isAffine 17 = .ok (.invokestatic 43, 3) := by decide +kernel
theorem dL_isAffine_20 : decode cL_isAffine 20 = .ok (.aload_n 0, 1) := by decide +kernel
theorem dL_isAffine_21 : decode cL_isAffine 21 = .ok (.iload_n 1, 1) := by decide +kernel
theorem dL_isAffine_22 : decode cL_isAffine 22 = .ok (.iload_n 2, 1) := by decide +kernel
theorem dL_isAffine_23 : decode cL_isAffine 23 = .ok (.iconst 1, 1) := by decide +kernel
theorem dL_isAffine_24 : decode cL_isAffine 24 = .ok (.iload_n 3, 1) := by decide +kernel
theorem dL_isAffine_25 : decode cL_isAffine 25 = .ok (.iload 4, 2) := by decide +kernel
theorem dL_isAffine_27 : decode cL_isAffine 27 = .ok (.invokestatic 43, 3) := by decide +kernel
theorem dL_isAffine_30 : decode cL_isAffine 30 = .ok (.ixor, 1) := by decide +kernel
theorem dL_isAffine_31 : decode cL_isAffine 31 = .ok (.aload_n 0, 1) := by decide +kernel
theorem dL_isAffine_32 : decode cL_isAffine 32 = .ok (.iload_n 1, 1) := by decide +kernel
theorem dL_isAffine_33 : decode cL_isAffine 33 = .ok (.iload_n 2, 1) := by decide +kernel
theorem dL_isAffine_34 : decode cL_isAffine 34 = .ok (.iconst 2, 1) := by decide +kernel
theorem dL_isAffine_35 : decode cL_isAffine 35 = .ok (.iload_n 3, 1) := by decide +kernel
theorem dL_isAffine_36 : decode cL_isAffine 36 = .ok (.iload 4, 2) := by decide +kernel
theorem dL_isAffine_38 : decode cL_isAffine 38 = .ok (.invokestatic 43, 3) := by decide +kernel
theorem dL_isAffine_41 : decode cL_isAffine 41 = .ok (.ixor, 1) := by decide +kernel
theorem dL_isAffine_42 : decode cL_isAffine 42 = .ok (.if_icmp .ne 7, 3) := by decide +kernel
theorem dL_isAffine_45 : decode cL_isAffine 45 = .ok (.iconst 1, 1) := by decide +kernel
theorem dL_isAffine_46 : decode cL_isAffine 46 = .ok (.goto 4, 3) := by decide +kernel
theorem dL_isAffine_49 : decode cL_isAffine 49 = .ok (.iconst 0, 1) := by decide +kernel
theorem dL_isAffine_50 : decode cL_isAffine 50 = .ok (.ireturn, 1) := by decide +kernel
set_option maxRecDepth 20000 in
theorem ggL_law_X1_init : GoodIn wsL_law wsX1_init := goodIn_r _ [6, 7, 8, 9, 10, 11, 12, 13, 14, 15, 16, 149, 150, 151, 152] (by decide +kernel) (by decide +kernel)
set_option maxRecDepth 20000 in
theorem gL_law_X1_init : GoodIn wsL_law (wsX1_init) := ggL_law_X1_init
set_option maxRecDepth 20000 in
theorem ggL_law_L_drawn : GoodIn wsL_law wsL_drawn := goodIn_r _ [20, 21, 22, 23] (by decide +kernel) (by decide +kernel)
set_option maxRecDepth 20000 in
theorem gL_law_L_drawn : GoodIn wsL_law (va_wsS RL 49 yL_drawn wsL_drawn) := goodIn_app (goodIn_of _ (by decide +kernel)) ggL_law_L_drawn
set_option maxRecDepth 20000 in
theorem ggL_law_L_model : GoodIn wsL_law wsL_model := goodIn_ca (goodIn_ca (goodIn_r _ [26, 27, 28, 29, 30, 31, 2, 32, 33, 34, 35, 36, 12, 11, 10, 37, 38, 39, 40, 41, 42, 43, 44, 45, 8, 9, 46, 47, 48, 49, 50, 51, 52, 53, 149, 150, 151, 152, 153, 154, 155, 156, 157, 158, 159, 160] (by decide +kernel) (by decide +kernel)) (goodIn_sub (fun _ h => List.mem_append_left _ (List.mem_append_left _ (List.mem_append_right _ h))) (by decide +kernel))) (goodIn_sub (fun _ h => List.mem_append_left _ (List.mem_append_right _ h)) (by decide +kernel))
set_option maxRecDepth 20000 in
theorem gL_law_L_model : GoodIn wsL_law (va_wsS RL 53 yL_model wsL_model) := goodIn_app (goodIn_of _ (by decide +kernel)) ggL_law_L_model
set_option maxRecDepth 20000 in
theorem ggL_law_L_added : GoodIn wsL_law wsL_added := goodIn_ca (goodIn_ca (goodIn_ca (goodIn_r _ [56, 57, 27, 28, 58, 59, 60, 2, 61, 15, 16, 62, 63, 64, 65, 66, 67, 68, 69, 33, 34, 70, 71, 72, 73, 35, 36, 149, 150, 151, 152] (by decide +kernel) (by decide +kernel)) (goodIn_sub (fun _ h => List.mem_append_right _ h) (by decide +kernel))) (goodIn_sub (fun _ h => List.mem_append_left _ (List.mem_append_left _ (List.mem_append_right _ h))) (by decide +kernel))) (goodIn_sub (fun _ h => List.mem_append_left _ (List.mem_append_right _ h)) (by decide +kernel))
set_option maxRecDepth 20000 in
theorem gL_law_L_added : GoodIn wsL_law (va_wsS RL 57 yL_added wsL_added) := goodIn_app (goodIn_of _ (by decide +kernel)) ggL_law_L_added
set_option maxRecDepth 20000 in
theorem ggL_law_L_at : GoodIn wsL_law wsL_at := goodIn_ca (goodIn_r _ [76, 57, 77, 78, 79, 2, 80, 15, 62, 63, 64, 65, 66, 81, 82, 83, 84, 16, 149, 150, 151, 152] (by decide +kernel) (by decide +kernel)) (goodIn_sub (fun _ h => List.mem_append_right _ h) (by decide +kernel))
set_option maxRecDepth 20000 in
theorem gL_law_L_at : GoodIn wsL_law (va_wsS RL 61 yL_at wsL_at) := goodIn_app (goodIn_of _ (by decide +kernel)) ggL_law_L_at
set_option maxRecDepth 20000 in
theorem ggL_law_L_changed : GoodIn wsL_law wsL_changed := goodIn_ca (goodIn_ca (goodIn_r _ [87, 57, 27, 88, 89, 90, 2, 91, 15, 62, 63, 64, 65, 66, 81, 82, 83, 84, 16, 67, 68, 69, 33, 34, 149, 150, 151, 152] (by decide +kernel) (by decide +kernel)) (goodIn_sub (fun _ h => List.mem_append_right _ h) (by decide +kernel))) (goodIn_sub (fun _ h => List.mem_append_left _ (List.mem_append_left _ (List.mem_append_right _ h))) (by decide +kernel))
set_option maxRecDepth 20000 in
theorem gL_law_L_changed : GoodIn wsL_law (va_wsS RL 64 yL_changed wsL_changed) := goodIn_app (goodIn_of _ (by decide +kernel)) ggL_law_L_changed
set_option maxRecDepth 20000 in
theorem ggL_law_L_isAffine : GoodIn wsL_law wsL_isAffine := goodIn_ca (goodIn_r _ [94, 95, 96, 19, 97, 57, 98, 99, 100, 2, 101, 65, 66, 16, 102, 103, 104, 105, 11, 62, 63, 64, 106, 107, 108, 109, 110, 15, 111, 112, 113, 38, 114, 115, 116, 117, 118, 49, 119, 120, 121, 122, 123, 124, 46, 125, 126, 127, 128, 52, 53, 47, 129, 130, 131, 132, 51, 133, 134, 135, 136, 50, 137, 138, 139, 140, 141, 142, 143, 144, 145, 146, 147, 148, 149, 150, 151, 152, 153, 154, 155, 156, 157, 158, 159, 160] (by decide +kernel) (by decide +kernel)) (goodIn_sub (fun _ h => List.mem_append_right _ h) (by decide +kernel))
set_option maxRecDepth 20000 in
theorem gL_law_L_isAffine : GoodIn wsL_law (va_wsS RL 68 yL_isAffine wsL_isAffine) := goodIn_app (goodIn_of _ (by decide +kernel)) ggL_law_L_isAffine
end
section
/-! what the wrappers need beside: which exceptions a handler passes -/
def cs_nc (U : State) : Prop := va_Nc cs_IAE cs_ISE U ∧ va_Nc cs_IAE cs_IOB U ∧ va_Nc cs_ISE cs_IAE U ∧ va_Nc cs_ISE cs_IOB U ∧ va_Nc cs_IOB cs_IAE U ∧ va_Nc cs_IOB cs_ISE U
theorem cs_nc.moved {u U : State} (hvm : u.vm.Alike U.vm) (h : cs_nc u) : cs_nc U := ⟨va_Nc.moved hvm h.1, va_Nc.moved hvm h.2.1, va_Nc.moved hvm h.2.2.1, va_Nc.moved hvm h.2.2.2.1, va_Nc.moved hvm h.2.2.2.2.1, va_Nc.moved hvm h.2.2.2.2.2⟩
/-- the world of a wrapper: the array of one long, then the laboratory -/
def cs_O (o : Nat) (f : Nat → Int64) (S : cs_St) (ad : Nat → Nat) (cy : Nat → ClassId) : va_W := ([(o, .inl (cy 2, 1, .inr (.inl f)))] : va_W) ++ cs_L S ad cy
theorem cs_O0 {o : Nat} {f : Nat → Int64} {S : cs_St} {ad : Nat → Nat} {cy : Nat → ClassId} : (cs_O o f S ad cy)[0]? = some (o, .inl (cy 2, 1, .inr (.inl f))) := rfl
theorem cs_Oset {o : Nat} {f : Nat → Int64} {S : cs_St} {ad : Nat → Nat} {cy : Nat → ClassId} {x : Int64} : (cs_O o f S ad cy).set 0 (o, .inl (cy 2, 1, .inr (.inl (vp_updL f 0 x)))) = cs_O o (vp_updL f 0 x) S ad cy := rfl
theorem cs_up0 {f : Nat → Int64} {x : Int64} : vp_updL f 0 x 0 = x := by unfold vp_updL; exact if_pos rfl
/-- the start of a wrapper -/
def cs_Bl (D : va_G) (tys : List (ClassId × FieldType)) (ws : va_W) (sz : Nat) (U : State) : Prop := cs_nc U ∧ cs_By D tys ws sz U
theorem cs_Bl.blind {D : va_G} {tys : List (ClassId × FieldType)} {ws : va_W} {sz : Nat} {av : List Value} : FrameBlind (va_Pc av (cs_Bl D tys ws sz)) := fun a U g mk q =>
  ⟨q.1, cs_nc.moved (u := U) (U := U.calling g mk a) (Vm.Alike.refl U.vm) q.2.1, (cs_By.blind (av := av) a U g mk ⟨q.1, q.2.2⟩).2⟩
theorem cs_Bl.at {D : va_G} {tys : List (ClassId × FieldType)} {ws : va_W} {av : List Value} {s : State} {H : Heap} {A : Nat → Prop} (hn : cs_nc s) (hE : cs_en s) (hz : cs_zz (va_A ws H.size) s H) (hP : va_P D vwCl ws H) (hK : va_K D vwCl tys s) (hD : va_D A ws) : ∀ U : State, U.heap = H → s.WarmedH U.vm → va_Pc av (cs_Bl D tys ws H.size) av.toArray U := fun U hU hW =>
  ⟨rfl, hn.moved hW.alike, (cs_By.at (av := av) hE hz hP hK hD U hU hW).2⟩
/-- a method with handlers that always returns -/
theorem cs_ofWH {l : Launch} {y : MethodName} {ws ws' : List Cond} {rm : Room} {Pc : Array Value → State → Prop} {Qc : Array Value → State → Outcome → State → Prop} {mc ms : Nat} {free : Addr → Prop} {cc : ByteArray} {maxL : Nat} {ret : Option FieldType} {hh : List (Nat × Nat × Nat × Nat)}
    (hy : plainName y.cls = true) (hw : ws = Cond.codeWith y cc maxL ret hh :: ws')
    (body : ∀ p e s m args below meth c s₁, BodyLoose p l y (headSpec ws rm) cc maxL ret e s m args below meth c s₁ → c.maxLocals = maxL → Pc args s →
      W p l e (headSpec ws rm).room s m args below meth c s.heap [] 0 0 (MQ below Qc args s mc ms free) (entryFrame m args maxL)) : Met l y ws rm Pc Qc mc ms free := by
  refine MetFree.of_bodyS (code := cc) (maxLocals := maxL) (ret := ret) hy ?_ ?_
  · intro args s m h hn
    obtain ⟨m9, meth, c, hn9, h1, h2, h3, h4, -, h5, h6, -⟩ := Cond.codeWith_spec (atoms_spec (ws := ws) h _ (by rw [hw]; exact List.mem_cons_self))
    cases hn.symm.trans hn9
    exact ⟨meth, c, h1, h2, h3, h4, h5, h6⟩
  · intro p e s m args below meth c s₁ B hml hP _
    have hh0 : s₁.heap = s.heap := by rw [B.state]; rfl
    obtain ⟨t, a1, o, b1, b2, b3⟩ := body p e s m args below meth c s₁ B hml hP s₁ hh0 (Stand.of_body B)
    exact ⟨t, o, a1, b1, b2, b3⟩
theorem cs_k1n2 {b : Bool} : ¬ cs_k1 b = 2 := by cases b <;> decide
theorem cs_k1n3 {b : Bool} : ¬ cs_k1 b = 3 := by cases b <;> decide
theorem cs_k2n3 {b c : Bool} : ¬ cs_k2 b c = 3 := by cases b <;> cases c <;> decide
/-- a wrapper's end by a handler -/
theorem cs_wend {D : va_G} {w : va_W} {s : State} {H : Heap} {locs : List Loc} {K : Int32} {S : Type} {w' : S → va_W} {post : Int32 → S → Prop} {args : Array Value} (k : Int32) (u : S) (h1 : post k u) (hP : va_P D vwCl (w' u) H) (hD : va_D (va_A w s.heap.size) (w' u)) (hS : va_S (va_A w s.heap.size) s.heap H locs) (t : State) (ht : t.heap = H) : cs_Qw D w w' post args s (.returned (some (.int k))) t :=
  ⟨k, u, rfl, h1, by rw [ht]; exact hP, hD, hS.F ht⟩
theorem cs_Sx {A : Nat → Prop} {H H1 : Heap} (h2 : H.size ≤ H1.size) (h3 : ∀ q : Nat, q < H.size → H1[q]? = H[q]?) : va_S A H H1 [] := ⟨h2, fun q h _ => h3 q h, fun _ h => by cases h⟩
end
section
/-! the state stays in order -/
def cs_okk (S : cs_St) : Prop := cs_ok S ∧ cs_okp S
theorem cs_okk0 : cs_okk cs_0 := ⟨⟨by decide, fun k hk => absurd hk (Nat.not_lt_zero k), fun _ => Nat.zero_le _, fun _ _ => by show 0 < 256; decide⟩, fun k hk => absurd hk (Nat.not_lt_zero k)⟩
theorem cs_okk_put {S : cs_St} (h : cs_okk S) {r l : Nat} {f : Nat → Nat} (hl : l ≤ 256) (hf : ∀ j, f j < 256) : cs_okk (cs_put S r l f) := ⟨cs_ok_put h.1 hl hf, h.2⟩
theorem cs_okk_def {S : cs_St} (h : cs_okk S) (a0 a1 a2 : Int32) (a3 a4 : Bool) (a5 : Int32) : cs_okk (cs_sDef S a0 a1 a2 a3 a4 a5) := by
  unfold cs_sDef
  by_cases hk : cs_kDef S a0 a1 a2 a5 = 0
  · rw [if_pos hk]
    have hb := cs_k2_0.mp hk
    rw [Bool.and_eq_true, decide_eq_true_eq] at hb
    obtain ⟨hb, hn⟩ := hb
    unfold cs_bDef at hb
    rw [Bool.and_eq_true, Bool.and_eq_true, Bool.and_eq_true] at hb
    obtain ⟨⟨⟨hw, h1⟩, h2⟩, h3⟩ := hb
    obtain ⟨wd, hw1, hw2, rfl⟩ := cs_in1_of (n := 32) (by decide) hw
    have wc : cs_c (nI wd) = wd := cs_cI (by omega)
    rw [wc]
    have hn1 : cs_n (cs_def S wd a1 a2 a3 a4 a5) = cs_n S + 1 := rfl
    refine ⟨⟨by rw [hn1]; omega, fun k hk => ?_, h.1.2.2.1, h.1.2.2.2⟩, fun k hk => ?_⟩
    · show 1 ≤ va_up (cs_w S) (cs_n S) wd k ∧ va_up (cs_w S) (cs_n S) wd k ≤ 32
      by_cases e : k = cs_n S
      · rw [e, va_up_self]; exact ⟨hw1, hw2⟩
      · rw [va_up_ne _ _ e]; exact h.1.2.1 k (by rw [hn1] at hk; omega)
    · show cs_nb (va_up (cs_p S) (cs_n S) a1 k) (nI (va_up (cs_w S) (cs_n S) wd k)) = true
      by_cases e : k = cs_n S
      · rw [e, va_up_self, va_up_self]; exact h1
      · rw [va_up_ne _ _ e, va_up_ne _ _ e]; exact h.2 k (by rw [hn1] at hk; omega)
  · rw [if_neg hk]; exact h
theorem cs_okk_app {S : cs_St} (h : cs_okk S) (r a : Int32) : cs_okk (cs_sApp S r a) := by
  unfold cs_sApp
  by_cases hk : cs_kApp S r a = 0
  · rw [if_pos hk]
    unfold cs_kApp at hk
    by_cases h1 : cs_in r 0 3 = true
    · rw [if_pos h1] at hk
      by_cases h2 : cs_in a 0 255 = true
      · rw [if_pos h2] at hk
        by_cases h3 : cs_ln S (cs_c r) = 256
        · rw [if_pos h3] at hk; exact absurd hk (by decide)
        · obtain ⟨b, hb, rfl⟩ := cs_byte_of h2
          have := h.1.2.2.1 (cs_c r)
          exact cs_okk_put h (by omega) (cs_up_lt (h.1.2.2.2 _) (by rw [cs_cI (by omega)]; exact hb))
      · rw [if_neg h2] at hk; exact absurd hk (by decide)
    · rw [if_neg h1] at hk; exact absurd hk (by decide)
  · rw [if_neg hk]; exact h
theorem cs_okk_ser {S : cs_St} (h : cs_okk S) (r a b n : Int32) : cs_okk (cs_sSer S r a b n) := by
  unfold cs_sSer
  by_cases hk : cs_kSer S r a b n = 0
  · rw [if_pos hk]
    unfold cs_kSer at hk
    by_cases h1 : cs_in r 0 3 = true
    · rw [if_pos h1] at hk
      by_cases h2 : cs_bSer a b n = true
      · rw [if_pos h2] at hk
        by_cases h3 : 256 < cs_ln S (cs_c r) + cs_c n
        · rw [if_pos h3] at hk; exact absurd hk (by decide)
        · exact cs_okk_put h (by omega) (cs_fil_lt (h.1.2.2.2 _) (fun j => Nat.mod_lt _ (by decide)) _ _)
      · rw [if_neg h2] at hk; exact absurd hk (by decide)
    · rw [if_neg h1] at hk; exact absurd hk (by decide)
  · rw [if_neg hk]; exact h
theorem cs_okk_row {S : cs_St} (h : cs_okk S) (r q : Int32) : cs_okk (cs_sRow S r q) := by
  unfold cs_sRow
  by_cases hk : cs_kRow S r q = 0
  · rw [if_pos hk]
    have hb := cs_k2_0.mp hk
    rw [Bool.and_eq_true, Bool.and_eq_true, decide_eq_true_eq] at hb
    exact cs_okk_put h hb.2.2 (cs_fil_lt (h.1.2.2.2 _) (h.1.2.2.2 _) _ _)
  · rw [if_neg hk]; exact h
theorem cs_okk_set {S : cs_St} (h : cs_okk S) (r j a : Int32) : cs_okk (cs_sSet S r j a) := by
  unfold cs_sSet
  by_cases hk : cs_kSet S r j a = 0
  · rw [if_pos hk]
    have hb := cs_k2_0.mp hk
    rw [Bool.and_eq_true] at hb
    obtain ⟨b, hb9, rfl⟩ := cs_byte_of hb.2
    exact cs_okk_put h (h.1.2.2.1 _) (cs_up_lt (h.1.2.2.2 _) (by rw [cs_cI (by omega)]; exact hb9))
  · rw [if_neg hk]; exact h
theorem cs_okk_tru {S : cs_St} (h : cs_okk S) (r n : Int32) : cs_okk (cs_sTru S r n) := by
  unfold cs_sTru
  by_cases hk : cs_kTru S r n = 0
  · rw [if_pos hk]
    have hb := cs_k2_0.mp hk
    rw [Bool.and_eq_true, Bool.and_eq_true] at hb
    have hl := h.1.2.2.1 (cs_c r)
    obtain ⟨k, hk9, rfl⟩ := cs_in_of (n := cs_ln S (cs_c r)) (by omega) hb.2.2
    exact cs_okk_put h (by rw [cs_cI (by omega)]; omega) (h.1.2.2.2 _)
  · rw [if_neg hk]; exact h
end
section
theorem dL_law_0 : decode cL_law 0 = .ok (.new 11, 3) := by decide +kernel
theorem dL_law_3 : decode cL_law 3 = .ok (.dup, 1) := by decide +kernel
theorem dL_law_4 : decode cL_law 4 = .ok (.invokespecial 48, 3) := by decide +kernel
theorem dL_law_7 : decode cL_law 7 = .ok (.astore_n 1, 1) := by decide +kernel
theorem dL_law_8 : decode cL_law 8 = .ok (.iconst 1, 1) := by decide +kernel
theorem dL_law_9 : decode cL_law 9 = .ok (.istore_n 2, 1) := by decide +kernel
theorem dL_law_10 : decode cL_law 10 = .ok (.iconst 0, 1) := by decide +kernel
theorem dL_law_11 : decode cL_law 11 = .ok (.istore_n 3, 1) := by decide +kernel
theorem dL_law_12 : decode cL_law 12 = .ok (.iload_n 3, 1) := by decide +kernel
theorem dL_law_13 : decode cL_law 13 = .ok (.bipush 6, 2) := by decide +kernel
theorem dL_law_15 : decode cL_law 15 = .ok (.if_icmp .ge 100, 3) := by decide +kernel
theorem dL_law_18 : decode cL_law 18 = .ok (.iload_n 2, 1) := by decide +kernel
theorem dL_law_19 : decode cL_law 19 = .ok (.ifCond .eq 96, 3) := by decide +kernel
theorem dL_law_22 : decode cL_law 22 = .ok (.aload_n 0, 1) := by decide +kernel
theorem dL_law_23 : decode cL_law 23 = .ok (.iload_n 3, 1) := by decide +kernel
theorem dL_law_24 : decode cL_law 24 = .ok (.invokestatic 49, 3) := by decide +kernel
theorem dL_law_27 : decode cL_law 27 = .ok (.istore 4, 2) := by decide +kernel
theorem dL_law_29 : decode cL_law 29 = .ok (.iconst 1, 1) := by decide +kernel
theorem dL_law_30 : decode cL_law 30 = .ok (.iload 4, 2) := by decide +kernel
theorem dL_law_32 : decode cL_law 32 = .ok (.bipush 32, 2) := by decide +kernel
theorem dL_law_34 : decode cL_law 34 = .ok (.irem, 1) := by decide +kernel
theorem dL_law_35 : decode cL_law 35 = .ok (.iadd, 1) := by decide +kernel
theorem dL_law_36 : decode cL_law 36 = .ok (.istore 5, 2) := by decide +kernel
theorem dL_law_38 : decode cL_law 38 = .ok (.iload 5, 2) := by decide +kernel
theorem dL_law_40 : decode cL_law 40 = .ok (.bipush 32, 2) := by decide +kernel
theorem dL_law_42 : decode cL_law 42 = .ok (.if_icmp .ne 7, 3) := by decide +kernel
theorem dL_law_45 : decode cL_law 45 = .ok (.iconst (-1), 1) := by decide +kernel
theorem dL_law_46 : decode cL_law 46 = .ok (.goto 9, 3) := by decide +kernel
theorem dL_law_49 : decode cL_law 49 = .ok (.iconst 1, 1) := by decide +kernel
theorem dL_law_50 : decode cL_law 50 = .ok (.iload 5, 2) := by decide +kernel
theorem dL_law_52 : decode cL_law 52 = .ok (.ishl, 1) := by decide +kernel
theorem dL_law_53 : decode cL_law 53 = .ok (.iconst 1, 1) := by decide +kernel
theorem dL_law_54 : decode cL_law 54 = .ok (.isub, 1) := by decide +kernel
theorem dL_law_55 : decode cL_law 55 = .ok (.istore 6, 2) := by decide +kernel
theorem dL_law_57 : decode cL_law 57 = .ok (.aload_n 1, 1) := by decide +kernel
theorem dL_law_58 : decode cL_law 58 = .ok (.iload 5, 2) := by decide +kernel
theorem dL_law_60 : decode cL_law 60 = .ok (.iload 4, 2) := by decide +kernel
theorem dL_law_62 : decode cL_law 62 = .ok (.sipush 128, 3) := by decide +kernel
theorem dL_law_65 : decode cL_law 65 = .ok (.idiv, 1) := by decide +kernel
theorem dL_law_66 : decode cL_law 66 = .ok (.iconst 5, 1) := by decide +kernel
theorem dL_law_67 : decode cL_law 67 = .ok (.imul, 1) := by decide +kernel
theorem dL_law_68 : decode cL_law 68 = .ok (.iload 6, 2) := by decide +kernel
theorem dL_law_70 : decode cL_law 70 = .ok (.iand, 1) := by decide +kernel
theorem dL_law_71 : decode cL_law 71 = .ok (.iload 4, 2) := by decide +kernel
theorem dL_law_73 : decode cL_law 73 = .ok (.iconst 3, 1) := by decide +kernel
theorem dL_law_74 : decode cL_law 74 = .ok (.idiv, 1) := by decide +kernel
theorem dL_law_75 : decode cL_law 75 = .ok (.iload 6, 2) := by decide +kernel
theorem dL_law_77 : decode cL_law 77 = .ok (.iand, 1) := by decide +kernel
theorem dL_law_78 : decode cL_law 78 = .ok (.iload 4, 2) := by decide +kernel
theorem dL_law_80 : decode cL_law 80 = .ok (.bipush 32, 2) := by decide +kernel
theorem dL_law_82 : decode cL_law 82 = .ok (.idiv, 1) := by decide +kernel
theorem dL_law_83 : decode cL_law 83 = .ok (.iconst 4, 1) := by decide +kernel
theorem dL_law_84 : decode cL_law 84 = .ok (.irem, 1) := by decide +kernel
theorem dL_law_85 : decode cL_law 85 = .ok (.iload 4, 2) := by decide +kernel
theorem dL_law_87 : decode cL_law 87 = .ok (.bipush 7, 2) := by decide +kernel
theorem dL_law_89 : decode cL_law 89 = .ok (.idiv, 1) := by decide +kernel
theorem dL_law_90 : decode cL_law 90 = .ok (.bipush 11, 2) := by decide +kernel
theorem dL_law_92 : decode cL_law 92 = .ok (.imul, 1) := by decide +kernel
theorem dL_law_93 : decode cL_law 93 = .ok (.iload 6, 2) := by decide +kernel
theorem dL_law_95 : decode cL_law 95 = .ok (.iand, 1) := by decide +kernel
theorem dL_law_96 : decode cL_law 96 = .ok (.invokestatic 53, 3) := by decide +kernel
theorem dL_law_99 : decode cL_law 99 = .ok (.iload_n 3, 1) := by decide +kernel
theorem dL_law_100 : decode cL_law 100 = .ok (.if_icmp .ne 7, 3) := by decide +kernel
theorem dL_law_103 : decode cL_law 103 = .ok (.iconst 1, 1) := by decide +kernel
theorem dL_law_104 : decode cL_law 104 = .ok (.goto 4, 3) := by decide +kernel
theorem dL_law_107 : decode cL_law 107 = .ok (.iconst 0, 1) := by decide +kernel
theorem dL_law_108 : decode cL_law 108 = .ok (.istore_n 2, 1) := by decide +kernel
theorem dL_law_109 : decode cL_law 109 = .ok (.iinc 3 1, 3) := by decide +kernel
theorem dL_law_112 : decode cL_law 112 = .ok (.goto (-100), 3) := by decide +kernel
theorem dL_law_115 : decode cL_law 115 = .ok (.iconst 1, 1) := by decide +kernel
theorem dL_law_116 : decode cL_law 116 = .ok (.aload_n 0, 1) := by decide +kernel
theorem dL_law_117 : decode cL_law 117 = .ok (.bipush 6, 2) := by decide +kernel
theorem dL_law_119 : decode cL_law 119 = .ok (.invokestatic 49, 3) := by decide +kernel
theorem dL_law_122 : decode cL_law 122 = .ok (.bipush 40, 2) := by decide +kernel
theorem dL_law_124 : decode cL_law 124 = .ok (.irem, 1) := by decide +kernel
theorem dL_law_125 : decode cL_law 125 = .ok (.iadd, 1) := by decide +kernel
theorem dL_law_126 : decode cL_law 126 = .ok (.istore_n 3, 1) := by decide +kernel
theorem dL_law_127 : decode cL_law 127 = .ok (.iconst 0, 1) := by decide +kernel
theorem dL_law_128 : decode cL_law 128 = .ok (.istore 4, 2) := by decide +kernel
theorem dL_law_130 : decode cL_law 130 = .ok (.iload 4, 2) := by decide +kernel
theorem dL_law_132 : decode cL_law 132 = .ok (.iload_n 3, 1) := by decide +kernel
theorem dL_law_133 : decode cL_law 133 = .ok (.if_icmp .ge 123, 3) := by decide +kernel
theorem dL_law_136 : decode cL_law 136 = .ok (.iload_n 2, 1) := by decide +kernel
theorem dL_law_137 : decode cL_law 137 = .ok (.ifCond .eq 119, 3) := by decide +kernel
theorem dL_law_140 : decode cL_law 140 = .ok (.aload_n 0, 1) := by decide +kernel
theorem dL_law_141 : decode cL_law 141 = .ok (.bipush 7, 2) := by decide +kernel
theorem dL_law_143 : decode cL_law 143 = .ok (.iload 4, 2) := by decide +kernel
theorem dL_law_145 : decode cL_law 145 = .ok (.iadd, 1) := by decide +kernel
theorem dL_law_146 : decode cL_law 146 = .ok (.invokestatic 49, 3) := by decide +kernel
theorem dL_law_149 : decode cL_law 149 = .ok (.istore 5, 2) := by decide +kernel
theorem dL_law_151 : decode cL_law 151 = .ok (.iload 5, 2) := by decide +kernel
theorem dL_law_153 : decode cL_law 153 = .ok (.sipush 256, 3) := by decide +kernel
theorem dL_law_156 : decode cL_law 156 = .ok (.irem, 1) := by decide +kernel
theorem dL_law_157 : decode cL_law 157 = .ok (.istore 6, 2) := by decide +kernel
theorem dL_law_159 : decode cL_law 159 = .ok (.iload 5, 2) := by decide +kernel
theorem dL_law_161 : decode cL_law 161 = .ok (.sipush 256, 3) := by decide +kernel
theorem dL_law_164 : decode cL_law 164 = .ok (.idiv, 1) := by decide +kernel
theorem dL_law_165 : decode cL_law 165 = .ok (.sipush 256, 3) := by decide +kernel
theorem dL_law_168 : decode cL_law 168 = .ok (.irem, 1) := by decide +kernel
theorem dL_law_169 : decode cL_law 169 = .ok (.istore 7, 2) := by decide +kernel
theorem dL_law_171 : decode cL_law 171 = .ok (.iload 5, 2) := by decide +kernel
theorem dL_law_173 : decode cL_law 173 = .ok (.ldc 56, 2) := by decide +kernel
theorem dL_law_175 : decode cL_law 175 = .ok (.idiv, 1) := by decide +kernel
theorem dL_law_176 : decode cL_law 176 = .ok (.sipush 256, 3) := by decide +kernel
theorem dL_law_179 : decode cL_law 179 = .ok (.irem, 1) := by decide +kernel
theorem dL_law_180 : decode cL_law 180 = .ok (.istore 8, 2) := by decide +kernel
theorem dL_law_182 : decode cL_law 182 = .ok (.aload_n 1, 1) := by decide +kernel
theorem dL_law_183 : decode cL_law 183 = .ok (.iconst 0, 1) := by decide +kernel
theorem dL_law_184 : decode cL_law 184 = .ok (.iload 6, 2) := by decide +kernel
theorem dL_law_186 : decode cL_law 186 = .ok (.invokestatic 57, 3) := by decide +kernel
theorem dL_law_189 : decode cL_law 189 = .ok (.iload 4, 2) := by decide +kernel
theorem dL_law_191 : decode cL_law 191 = .ok (.iconst 1, 1) := by decide +kernel
theorem dL_law_192 : decode cL_law 192 = .ok (.iadd, 1) := by decide +kernel
theorem dL_law_193 : decode cL_law 193 = .ok (.if_icmp .ne 55, 3) := by decide +kernel
theorem dL_law_196 : decode cL_law 196 = .ok (.aload_n 1, 1) := by decide +kernel
theorem dL_law_197 : decode cL_law 197 = .ok (.iconst 1, 1) := by decide +kernel
theorem dL_law_198 : decode cL_law 198 = .ok (.iload 7, 2) := by decide +kernel
theorem dL_law_200 : decode cL_law 200 = .ok (.invokestatic 57, 3) := by decide +kernel
theorem dL_law_203 : decode cL_law 203 = .ok (.iload 4, 2) := by decide +kernel
theorem dL_law_205 : decode cL_law 205 = .ok (.iconst 1, 1) := by decide +kernel
theorem dL_law_206 : decode cL_law 206 = .ok (.iadd, 1) := by decide +kernel
theorem dL_law_207 : decode cL_law 207 = .ok (.if_icmp .ne 41, 3) := by decide +kernel
theorem dL_law_210 : decode cL_law 210 = .ok (.aload_n 1, 1) := by decide +kernel
theorem dL_law_211 : decode cL_law 211 = .ok (.iconst 2, 1) := by decide +kernel
theorem dL_law_212 : decode cL_law 212 = .ok (.iload 8, 2) := by decide +kernel
theorem dL_law_214 : decode cL_law 214 = .ok (.invokestatic 57, 3) := by decide +kernel
theorem dL_law_217 : decode cL_law 217 = .ok (.iload 4, 2) := by decide +kernel
theorem dL_law_219 : decode cL_law 219 = .ok (.iconst 1, 1) := by decide +kernel
theorem dL_law_220 : decode cL_law 220 = .ok (.iadd, 1) := by decide +kernel
theorem dL_law_221 : decode cL_law 221 = .ok (.if_icmp .ne 27, 3) := by decide +kernel
theorem dL_law_224 : decode cL_law 224 = .ok (.aload_n 1, 1) := by decide +kernel
theorem dL_law_225 : decode cL_law 225 = .ok (.iconst 3, 1) := by decide +kernel
theorem dL_law_226 : decode cL_law 226 = .ok (.iload 6, 2) := by decide +kernel
theorem dL_law_228 : decode cL_law 228 = .ok (.iload 7, 2) := by decide +kernel
theorem dL_law_230 : decode cL_law 230 = .ok (.ixor, 1) := by decide +kernel
theorem dL_law_231 : decode cL_law 231 = .ok (.iload 8, 2) := by decide +kernel
theorem dL_law_233 : decode cL_law 233 = .ok (.ixor, 1) := by decide +kernel
theorem dL_law_234 : decode cL_law 234 = .ok (.invokestatic 57, 3) := by decide +kernel
theorem dL_law_237 : decode cL_law 237 = .ok (.iload 4, 2) := by decide +kernel
theorem dL_law_239 : decode cL_law 239 = .ok (.iconst 1, 1) := by decide +kernel
theorem dL_law_240 : decode cL_law 240 = .ok (.iadd, 1) := by decide +kernel
theorem dL_law_241 : decode cL_law 241 = .ok (.if_icmp .ne 7, 3) := by decide +kernel
theorem dL_law_244 : decode cL_law 244 = .ok (.iconst 1, 1) := by decide +kernel
theorem dL_law_245 : decode cL_law 245 = .ok (.goto 4, 3) := by decide +kernel
theorem dL_law_248 : decode cL_law 248 = .ok (.iconst 0, 1) := by decide +kernel
theorem dL_law_249 : decode cL_law 249 = .ok (.istore_n 2, 1) := by decide +kernel
theorem dL_law_250 : decode cL_law 250 = .ok (.iinc 4 1, 3) := by decide +kernel
theorem dL_law_253 : decode cL_law 253 = .ok (.goto (-123), 3) := by decide +kernel
theorem dL_law_256 : decode cL_law 256 = .ok (.iconst 0, 1) := by decide +kernel
theorem dL_law_257 : decode cL_law 257 = .ok (.istore 4, 2) := by decide +kernel
theorem dL_law_259 : decode cL_law 259 = .ok (.iload 4, 2) := by decide +kernel
theorem dL_law_261 : decode cL_law 261 = .ok (.bipush 30, 2) := by decide +kernel
theorem dL_law_263 : decode cL_law 263 = .ok (.if_icmp .ge 208, 3) := by decide +kernel
theorem dL_law_266 : decode cL_law 266 = .ok (.iload_n 2, 1) := by decide +kernel
theorem dL_law_267 : decode cL_law 267 = .ok (.ifCond .eq 204, 3) := by decide +kernel
theorem dL_law_270 : decode cL_law 270 = .ok (.aload_n 0, 1) := by decide +kernel
theorem dL_law_271 : decode cL_law 271 = .ok (.bipush 20, 2) := by decide +kernel
theorem dL_law_273 : decode cL_law 273 = .ok (.iload 4, 2) := by decide +kernel
theorem dL_law_275 : decode cL_law 275 = .ok (.iadd, 1) := by decide +kernel
theorem dL_law_276 : decode cL_law 276 = .ok (.invokestatic 49, 3) := by decide +kernel
theorem dL_law_279 : decode cL_law 279 = .ok (.istore 5, 2) := by decide +kernel
theorem dL_law_281 : decode cL_law 281 = .ok (.iload 5, 2) := by decide +kernel
theorem dL_law_283 : decode cL_law 283 = .ok (.bipush 6, 2) := by decide +kernel
theorem dL_law_285 : decode cL_law 285 = .ok (.irem, 1) := by decide +kernel
theorem dL_law_286 : decode cL_law 286 = .ok (.istore 6, 2) := by decide +kernel
theorem dL_law_288 : decode cL_law 288 = .ok (.iload 5, 2) := by decide +kernel
theorem dL_law_290 : decode cL_law 290 = .ok (.bipush 6, 2) := by decide +kernel
theorem dL_law_292 : decode cL_law 292 = .ok (.idiv, 1) := by decide +kernel
theorem dL_law_293 : decode cL_law 293 = .ok (.iload_n 3, 1) := by decide +kernel
theorem dL_law_294 : decode cL_law 294 = .ok (.iconst 1, 1) := by decide +kernel
theorem dL_law_295 : decode cL_law 295 = .ok (.iadd, 1) := by decide +kernel
theorem dL_law_296 : decode cL_law 296 = .ok (.irem, 1) := by decide +kernel
theorem dL_law_297 : decode cL_law 297 = .ok (.istore 7, 2) := by decide +kernel
theorem dL_law_299 : decode cL_law 299 = .ok (.iload 7, 2) := by decide +kernel
theorem dL_law_301 : decode cL_law 301 = .ok (.iload 5, 2) := by decide +kernel
theorem dL_law_303 : decode cL_law 303 = .ok (.sipush 300, 3) := by decide +kernel
theorem dL_law_306 : decode cL_law 306 = .ok (.idiv, 1) := by decide +kernel
theorem dL_law_307 : decode cL_law 307 = .ok (.iload_n 3, 1) := by decide +kernel
theorem dL_law_308 : decode cL_law 308 = .ok (.iload 7, 2) := by decide +kernel
theorem dL_law_310 : decode cL_law 310 = .ok (.isub, 1) := by decide +kernel
theorem dL_law_311 : decode cL_law 311 = .ok (.iconst 1, 1) := by decide +kernel
theorem dL_law_312 : decode cL_law 312 = .ok (.iadd, 1) := by decide +kernel
theorem dL_law_313 : decode cL_law 313 = .ok (.irem, 1) := by decide +kernel
theorem dL_law_314 : decode cL_law 314 = .ok (.iadd, 1) := by decide +kernel
theorem dL_law_315 : decode cL_law 315 = .ok (.istore 8, 2) := by decide +kernel
theorem dL_law_317 : decode cL_law 317 = .ok (.iload 5, 2) := by decide +kernel
theorem dL_law_319 : decode cL_law 319 = .ok (.bipush 41, 2) := by decide +kernel
theorem dL_law_321 : decode cL_law 321 = .ok (.idiv, 1) := by decide +kernel
theorem dL_law_322 : decode cL_law 322 = .ok (.iload_n 3, 1) := by decide +kernel
theorem dL_law_323 : decode cL_law 323 = .ok (.irem, 1) := by decide +kernel
theorem dL_law_324 : decode cL_law 324 = .ok (.istore 9, 2) := by decide +kernel
theorem dL_law_326 : decode cL_law 326 = .ok (.iload 5, 2) := by decide +kernel
theorem dL_law_328 : decode cL_law 328 = .ok (.sipush 2500, 3) := by decide +kernel
theorem dL_law_331 : decode cL_law 331 = .ok (.idiv, 1) := by decide +kernel
theorem dL_law_332 : decode cL_law 332 = .ok (.sipush 256, 3) := by decide +kernel
theorem dL_law_335 : decode cL_law 335 = .ok (.irem, 1) := by decide +kernel
theorem dL_law_336 : decode cL_law 336 = .ok (.istore 10, 2) := by decide +kernel
theorem dL_law_338 : decode cL_law 338 = .ok (.iload 5, 2) := by decide +kernel
theorem dL_law_340 : decode cL_law 340 = .ok (.bipush 11, 2) := by decide +kernel
theorem dL_law_342 : decode cL_law 342 = .ok (.idiv, 1) := by decide +kernel
theorem dL_law_343 : decode cL_law 343 = .ok (.iconst 3, 1) := by decide +kernel
theorem dL_law_344 : decode cL_law 344 = .ok (.irem, 1) := by decide +kernel
theorem dL_law_345 : decode cL_law 345 = .ok (.istore 11, 2) := by decide +kernel
theorem dL_law_347 : decode cL_law 347 = .ok (.aload_n 1, 1) := by decide +kernel
theorem dL_law_348 : decode cL_law 348 = .ok (.iload 11, 2) := by decide +kernel
theorem dL_law_350 : decode cL_law 350 = .ok (.iload 9, 2) := by decide +kernel
theorem dL_law_352 : decode cL_law 352 = .ok (.invokestatic 61, 3) := by decide +kernel
theorem dL_law_355 : decode cL_law 355 = .ok (.istore 12, 2) := by decide +kernel
theorem dL_law_357 : decode cL_law 357 = .ok (.aload_n 1, 1) := by decide +kernel
theorem dL_law_358 : decode cL_law 358 = .ok (.iconst 3, 1) := by decide +kernel
theorem dL_law_359 : decode cL_law 359 = .ok (.iload 9, 2) := by decide +kernel
theorem dL_law_361 : decode cL_law 361 = .ok (.invokestatic 61, 3) := by decide +kernel
theorem dL_law_364 : decode cL_law 364 = .ok (.istore 13, 2) := by decide +kernel
theorem dL_law_366 : decode cL_law 366 = .ok (.iload 12, 2) := by decide +kernel
theorem dL_law_368 : decode cL_law 368 = .ok (.ifCond .lt 47, 3) := by decide +kernel
theorem dL_law_371 : decode cL_law 371 = .ok (.iload 13, 2) := by decide +kernel
theorem dL_law_373 : decode cL_law 373 = .ok (.ifCond .lt 42, 3) := by decide +kernel
theorem dL_law_376 : decode cL_law 376 = .ok (.aload_n 1, 1) := by decide +kernel
theorem dL_law_377 : decode cL_law 377 = .ok (.iload 11, 2) := by decide +kernel
theorem dL_law_379 : decode cL_law 379 = .ok (.iload 9, 2) := by decide +kernel
theorem dL_law_381 : decode cL_law 381 = .ok (.iload 10, 2) := by decide +kernel
theorem dL_law_383 : decode cL_law 383 = .ok (.invokestatic 64, 3) := by decide +kernel
theorem dL_law_386 : decode cL_law 386 = .ok (.iload 12, 2) := by decide +kernel
theorem dL_law_388 : decode cL_law 388 = .ok (.if_icmp .ne 27, 3) := by decide +kernel
theorem dL_law_391 : decode cL_law 391 = .ok (.aload_n 1, 1) := by decide +kernel
theorem dL_law_392 : decode cL_law 392 = .ok (.iconst 3, 1) := by decide +kernel
theorem dL_law_393 : decode cL_law 393 = .ok (.iload 9, 2) := by decide +kernel
theorem dL_law_395 : decode cL_law 395 = .ok (.iload 13, 2) := by decide +kernel
theorem dL_law_397 : decode cL_law 397 = .ok (.iload 12, 2) := by decide +kernel
theorem dL_law_399 : decode cL_law 399 = .ok (.ixor, 1) := by decide +kernel
theorem dL_law_400 : decode cL_law 400 = .ok (.iload 10, 2) := by decide +kernel
theorem dL_law_402 : decode cL_law 402 = .ok (.ixor, 1) := by decide +kernel
theorem dL_law_403 : decode cL_law 403 = .ok (.invokestatic 64, 3) := by decide +kernel
theorem dL_law_406 : decode cL_law 406 = .ok (.iload 13, 2) := by decide +kernel
theorem dL_law_408 : decode cL_law 408 = .ok (.if_icmp .ne 7, 3) := by decide +kernel
theorem dL_law_411 : decode cL_law 411 = .ok (.iconst 1, 1) := by decide +kernel
theorem dL_law_412 : decode cL_law 412 = .ok (.goto 4, 3) := by decide +kernel
theorem dL_law_415 : decode cL_law 415 = .ok (.iconst 0, 1) := by decide +kernel
theorem dL_law_416 : decode cL_law 416 = .ok (.istore_n 2, 1) := by decide +kernel
theorem dL_law_417 : decode cL_law 417 = .ok (.iload_n 2, 1) := by decide +kernel
theorem dL_law_418 : decode cL_law 418 = .ok (.ifCond .eq 45, 3) := by decide +kernel
theorem dL_law_421 : decode cL_law 421 = .ok (.aload_n 1, 1) := by decide +kernel
theorem dL_law_422 : decode cL_law 422 = .ok (.iconst 0, 1) := by decide +kernel
theorem dL_law_423 : decode cL_law 423 = .ok (.iload 6, 2) := by decide +kernel
theorem dL_law_425 : decode cL_law 425 = .ok (.iload 7, 2) := by decide +kernel
theorem dL_law_427 : decode cL_law 427 = .ok (.iload 8, 2) := by decide +kernel
theorem dL_law_429 : decode cL_law 429 = .ok (.invokestatic 68, 3) := by decide +kernel
theorem dL_law_432 : decode cL_law 432 = .ok (.ifCond .eq 31, 3) := by decide +kernel
theorem dL_law_435 : decode cL_law 435 = .ok (.aload_n 1, 1) := by decide +kernel
theorem dL_law_436 : decode cL_law 436 = .ok (.iconst 1, 1) := by decide +kernel
theorem dL_law_437 : decode cL_law 437 = .ok (.iload 6, 2) := by decide +kernel
theorem dL_law_439 : decode cL_law 439 = .ok (.iconst 0, 1) := by decide +kernel
theorem dL_law_440 : decode cL_law 440 = .ok (.iconst 0, 1) := by decide +kernel
theorem dL_law_441 : decode cL_law 441 = .ok (.invokestatic 68, 3) := by decide +kernel
theorem dL_law_444 : decode cL_law 444 = .ok (.ifCond .eq 19, 3) := by decide +kernel
theorem dL_law_447 : decode cL_law 447 = .ok (.aload_n 1, 1) := by decide +kernel
theorem dL_law_448 : decode cL_law 448 = .ok (.iconst 2, 1) := by decide +kernel
theorem dL_law_449 : decode cL_law 449 = .ok (.iload 6, 2) := by decide +kernel
theorem dL_law_451 : decode cL_law 451 = .ok (.iconst 0, 1) := by decide +kernel
theorem dL_law_452 : decode cL_law 452 = .ok (.iconst 0, 1) := by decide +kernel
theorem dL_law_453 : decode cL_law 453 = .ok (.invokestatic 68, 3) := by decide +kernel
theorem dL_law_456 : decode cL_law 456 = .ok (.ifCond .eq 7, 3) := by decide +kernel
theorem dL_law_459 : decode cL_law 459 = .ok (.iconst 1, 1) := by decide +kernel
theorem dL_law_460 : decode cL_law 460 = .ok (.goto 4, 3) := by decide +kernel
theorem dL_law_463 : decode cL_law 463 = .ok (.iconst 0, 1) := by decide +kernel
theorem dL_law_464 : decode cL_law 464 = .ok (.istore_n 2, 1) := by decide +kernel
theorem dL_law_465 : decode cL_law 465 = .ok (.iinc 4 1, 3) := by decide +kernel
theorem dL_law_468 : decode cL_law 468 = .ok (.goto (-209), 3) := by decide +kernel
theorem dL_law_471 : decode cL_law 471 = .ok (.iload_n 2, 1) := by decide +kernel
theorem dL_law_472 : decode cL_law 472 = .ok (.ireturn, 1) := by decide +kernel
end
section
/-! the law: what its draws answer -/
/-- the number drawn at place k -/
def cs_zn (L : Nat) (xs : Nat → Int32) (k : Nat) : Nat := (if k < L then xs k else 214013 * nI k * nI k + 2531011).toBitVec.toNat % 2 ^ 31
theorem cs_zn_lt (L : Nat) (xs : Nat → Int32) (k : Nat) : cs_zn L xs k < 2 ^ 31 := Nat.mod_lt _ (Nat.two_pow_pos 31)
/-- the start of a draw: the script -/
def cs_Bs (b L : Nat) (xs : Nat → Int32) (U : State) : Prop := va_X b L xs U U.heap
theorem cs_Bs.blind {b L : Nat} {xs : Nat → Int32} {av : List Value} : FrameBlind (va_Pc av (cs_Bs b L xs)) := fun a U g mk q => ⟨q.1, va_X.moved (u := U) (U := U.calling g mk a) (Vm.Alike.refl U.vm) q.2⟩
theorem cs_Bs.at {b L : Nat} {xs : Nat → Int32} {av : List Value} {s : State} {A : Nat → Prop} {H : Heap} {locs : List Loc} (hX : va_X b L xs s s.heap) (hbl : b < s.heap.size) (hA : ¬ A b) (hS : va_S A s.heap H locs) : ∀ U : State, U.heap = H → s.WarmedH U.vm → va_Pc av (cs_Bs b L xs) av.toArray U := fun U hU hW =>
  ⟨rfl, by
    have h := va_X.moved hW.alike (hX.kept (hS.2.1 b hbl hA))
    show va_X b L xs U U.heap
    rw [hU]
    exact h⟩
set_option maxHeartbeats 4000000 in
set_option maxRecDepth 100000 in
theorem k_L_drawn (l : Launch) (b L : Nat) (xs : Nat → Int32) (k : Nat) (hk : k < 2 ^ 31) (hL : L ≤ 260) : Met l yL_drawn wsL_drawn ({ frames := 1, cells := 0, slots := 0, locals := 8 }) (va_Pc [.ref b, .int (nI k)] (cs_Bs b L xs)) (vp_Si (fun r => r = nI (cs_zn L xs k))) 0 0 (fun _ => False) := by
  refine Met.ofW (cc := cL_drawn) (maxL := 3) (ret := (some .int)) (by decide) rfl ?_
  intro pg e s m args below meth c s₁ B hml hv
  obtain ⟨rfl, hX⟩ := hv
  have hx := B.exec
  have hb := B.bytes
  have hr := B.returns
  have hts := atoms_spec (ws := wsL_drawn) B.pre
  have hown : s.vm.findClass RL = some m.cls := findClass_of_methodNamed B.named
  have hlocks := B.notSynchronized
  have hl := lv_entry ([.ref b, .int (nI k)]) (n := 3) (Nat.le_of_ble_eq_true rfl)
  rw [lg_entry_eq]
  generalize (lg_sl ([.ref b, .int (nI k)]) ++ List.replicate (3 - (lg_sl ([.ref b, .int (nI k)])).length) Slot.unset).toArray = ls at hl ⊢
  have hl : lv_has ls 3 [(0, .ref b), (1, .int (nI k))] := hl
  have hbl : b < s.heap.size := by obtain ⟨scr, h1, -⟩ := hX; exact (Array.getElem?_eq_some_iff.mp h1).1
  have hS9 : va_S (fun q => s.heap.size ≤ q) s.heap s.heap [] := va_S.rf
  have kk : ∀ v : Int32, (if k < L then xs k else 214013 * nI k * nI k + 2531011) = v → W pg l e (headSpec wsL_drawn ({ frames := 1, cells := 0, slots := 0, locals := 8 })).room s m [Value.ref b, Value.int (nI k)].toArray below meth c s.heap [] 0 0 (MQ below (vp_Si (fun r => r = nI (cs_zn L xs k))) [Value.ref b, Value.int (nI k)].toArray s 0 0 (fun _ => False)) (F0 m 21 ls [.int v]) := by
    intro v hv
    refine lv_istore_n (lv' := [(2, .int v), (0, .ref b), (1, .int (nI k))]) hx hb dL_drawn_21 rfl hl (by decide) rfl (fun ls hl => ?_)
    refine lv_iload_n hx hb dL_drawn_22 rfl (lv_at hl 0 rfl) ?_
    refine lv_ldc (v := 2147483647) hx hb hown (hts (.constant RL 9 2147483647) (by decide +kernel)) dL_drawn_23 ?_
    refine lv_iand hx hb dL_drawn_25 ?_
    refine cs_top (y := nI (cs_zn L xs k)) (by unfold cs_zn; rw [hv]; exact pk_and v 31 (by decide)) ?_
    exact W.iret (v := nI (cs_zn L xs k)) hx hb hr (fun t ht _ => ⟨nI (cs_zn L xs k), rfl, rfl, ht⟩) (fun q h => by cases h) dL_drawn_26
  refine lv_iload_n hx hb dL_drawn_0 rfl (lv_at hl 1 rfl) ?_
  refine lv_aload_n hx hb dL_drawn_1 rfl (lv_at hl 0 rfl) ?_
  refine va_slen hx hb hX hbl (Nat.not_le.mpr hbl) hS9 dL_drawn_2 ?_
  refine lv_icmp_ge (tgt := 12) hx hb dL_drawn_3 (by decide) (fun h => ?_) (fun h => ?_)
  · have h9 : ¬ k < L := fun z => absurd h (nI_ge z (by omega))
    refine lv_ldc (v := 214013) hx hb hown (hts (.constant RL 7 214013) (by decide +kernel)) dL_drawn_12 ?_
    refine lv_iload_n hx hb dL_drawn_14 rfl (lv_at hl 1 rfl) ?_
    refine lv_imul hx hb dL_drawn_15 ?_
    refine lv_iload_n hx hb dL_drawn_16 rfl (lv_at hl 1 rfl) ?_
    refine lv_imul hx hb dL_drawn_17 ?_
    refine lv_ldc (v := 2531011) hx hb hown (hts (.constant RL 8 2531011) (by decide +kernel)) dL_drawn_18 ?_
    refine lv_iadd hx hb dL_drawn_20 ?_
    exact kk _ (if_neg h9)
  · have h9 : k < L := Classical.byContradiction (fun z => h (nI_le (by omega) hk))
    refine lv_aload_n hx hb dL_drawn_6 rfl (lv_at hl 0 rfl) ?_
    refine lv_iload_n hx hb dL_drawn_7 rfl (lv_at hl 1 rfl) ?_
    refine va_sld hx hb hX hbl (Nat.not_le.mpr hbl) hS9 (vp_in_nI h9 (by omega)) dL_drawn_8 ?_
    rw [nI_clamp hk]
    refine lv_goto (tgt := 21) hx hb dL_drawn_9 (by decide) ?_
    exact kk _ (if_pos h9)
end
section
set_option maxHeartbeats 4000000 in
set_option maxRecDepth 100000 in
theorem k_L_added (l : Launch) (hlf : l.stackTraces = false) (D : va_G) (S : cs_St) (ad : Nat → Nat) (cy : Nat → ClassId) (sz : Nat) (hS : cs_ok S) (v u : Int32) (hk0 : cs_kApp S v u = 0) : Met l yL_added wsL_added ({ frames := 8, cells := 3, slots := 18, locals := 126 }) (va_Pc [.ref (ad 0), .int v, .int u] (cs_By D (cs_tys cy) (cs_L S ad cy) sz)) (cs_Qw D (cs_L S ad cy) (fun (_ : Unit) => cs_L (cs_sApp S v u) ad cy) (fun r9 _ => r9 = cs_vApp S v)) 3 18 (va_A (cs_L S ad cy) sz) := by
  refine cs_ofWH (cc := cL_added) (maxL := 4) (ret := (some .int)) (by decide) rfl ?_
  intro pg e s m args below meth c s₁ B hml hv
  obtain ⟨rfl, hsz, hE, hz9, hP, hK, hD0⟩ := hv
  subst hsz
  have hD := hD0.self (sz := s.heap.size)
  have hS9 : va_S (va_A (cs_L S ad cy) s.heap.size) s.heap s.heap [] := va_S.rf
  have hx := B.exec
  have hb := B.bytes
  have hr := B.returns
  have hts := atoms_spec (ws := wsL_added) B.pre
  have hown : s.vm.findClass RL = some m.cls := findClass_of_methodNamed B.named
  have hlocks := B.notSynchronized
  have hl := lv_entry ([.ref (ad 0), .int v, .int u]) (n := 4) (Nat.le_of_ble_eq_true rfl)
  rw [lg_entry_eq]
  generalize (lg_sl ([.ref (ad 0), .int v, .int u]) ++ List.replicate (4 - (lg_sl ([.ref (ad 0), .int v, .int u])).length) Slot.unset).toArray = ls at hl ⊢
  have hl : lv_has ls 4 [(0, .ref (ad 0)), (1, .int v), (2, .int u)] := hl
  refine lv_aload_n hx hb dL_added_0 rfl (lv_at hl 0 rfl) ?_
  refine lv_iload_n hx hb dL_added_1 rfl (lv_at hl 1 rfl) ?_
  refine lv_iload_n hx hb dL_added_2 rfl (lv_at hl 2 rfl) ?_
  refine cs_wxcalli (vx_runV (As := [.int v, .int u]) (rest := []) ⟨hx, hb, hml, hown, hts⟩ (k_X1_append l hlf D S ad cy s.heap.size hS v u) (cwV 2 hts gL_added_X1_append rfl rfl rfl (by decide +kernel) ⟨(Nat.le_of_ble_eq_true rfl), (Nat.le_of_ble_eq_true rfl)⟩) ⟨cs_By.blind, va_recv hK hP (ci := 1) (q0 := 0) rfl rfl, cs_By.at hE hz9 hP hK hD⟩ rfl rfl hl.1 rfl (lv_room (Nat.le_of_ble_eq_true rfl)) dL_added_3 ⟨(Nat.le_of_ble_eq_true rfl), (Nat.le_of_ble_eq_true rfl)⟩) hS9 (fun _ h => h) (fun E ce q7 H1 locs1 h1 h2 h3 hS9 h4 h5 h6 => ?_) (fun rr u8 H1 locs1 hk hP1 hD1 hz1 hk1 hS9 => ?_)
  · exfalso
    rcases h1 with ⟨hk, -⟩ | ⟨hk, -⟩ | ⟨hk, -⟩ <;> exact absurd (hk0.symm.trans hk) (by decide)
  · obtain ⟨-, rfl⟩ := hk
    refine W.widen (k := 3) (n := 18) (Nat.le_of_ble_eq_true rfl) (Nat.le_of_ble_eq_true rfl) ?_
    exact W.iret (v := cs_vApp S v) hx hb hr (fun t ht _ => cs_wend (K := 0) (cs_vApp S v) u8 rfl hP1 hD1 hS9 t ht) hS9.2.2 dL_added_6
set_option maxHeartbeats 4000000 in
set_option maxRecDepth 100000 in
theorem k_L_changed (l : Launch) (hlf : l.stackTraces = false) (D : va_G) (S : cs_St) (ad : Nat → Nat) (cy : Nat → ClassId) (sz : Nat) (hS : cs_ok S) (v u d : Int32) (hk0 : cs_kSet S v u d = 0) : Met l yL_changed wsL_changed ({ frames := 8, cells := 3, slots := 18, locals := 128 }) (va_Pc [.ref (ad 0), .int v, .int u, .int d] (cs_By D (cs_tys cy) (cs_L S ad cy) sz)) (cs_Qw D (cs_L S ad cy) (fun (_ : Unit) => cs_L (cs_sSet S v u d) ad cy) (fun r9 _ => r9 = cs_vByt S v u)) 3 18 (va_A (cs_L S ad cy) sz) := by
  refine cs_ofWH (cc := cL_changed) (maxL := 5) (ret := (some .int)) (by decide) rfl ?_
  intro pg e s m args below meth c s₁ B hml hv
  obtain ⟨rfl, hsz, hE, hz9, hP, hK, hD0⟩ := hv
  subst hsz
  have hD := hD0.self (sz := s.heap.size)
  have hS9 : va_S (va_A (cs_L S ad cy) s.heap.size) s.heap s.heap [] := va_S.rf
  have hx := B.exec
  have hb := B.bytes
  have hr := B.returns
  have hts := atoms_spec (ws := wsL_changed) B.pre
  have hown : s.vm.findClass RL = some m.cls := findClass_of_methodNamed B.named
  have hlocks := B.notSynchronized
  have hl := lv_entry ([.ref (ad 0), .int v, .int u, .int d]) (n := 5) (Nat.le_of_ble_eq_true rfl)
  rw [lg_entry_eq]
  generalize (lg_sl ([.ref (ad 0), .int v, .int u, .int d]) ++ List.replicate (5 - (lg_sl ([.ref (ad 0), .int v, .int u, .int d])).length) Slot.unset).toArray = ls at hl ⊢
  have hl : lv_has ls 5 [(0, .ref (ad 0)), (1, .int v), (2, .int u), (3, .int d)] := hl
  refine lv_aload_n hx hb dL_changed_0 rfl (lv_at hl 0 rfl) ?_
  refine lv_iload_n hx hb dL_changed_1 rfl (lv_at hl 1 rfl) ?_
  refine lv_iload_n hx hb dL_changed_2 rfl (lv_at hl 2 rfl) ?_
  refine lv_iload_n hx hb dL_changed_3 rfl (lv_at hl 3 rfl) ?_
  refine cs_wxcalli (vx_runV (As := [.int v, .int u, .int d]) (rest := []) ⟨hx, hb, hml, hown, hts⟩ (k_X1_setByte l hlf D S ad cy s.heap.size hS v u d) (cwV 3 hts gL_changed_X1_setByte rfl rfl rfl (by decide +kernel) ⟨(Nat.le_of_ble_eq_true rfl), (Nat.le_of_ble_eq_true rfl)⟩) ⟨cs_By.blind, va_recv hK hP (ci := 1) (q0 := 0) rfl rfl, cs_By.at hE hz9 hP hK hD⟩ rfl rfl hl.1 rfl (lv_room (Nat.le_of_ble_eq_true rfl)) dL_changed_4 ⟨(Nat.le_of_ble_eq_true rfl), (Nat.le_of_ble_eq_true rfl)⟩) hS9 (fun _ h => h) (fun E ce q7 H1 locs1 h1 h2 h3 hS9 h4 h5 h6 => ?_) (fun rr u8 H1 locs1 hk hP1 hD1 hz1 hk1 hS9 => ?_)
  · exfalso
    rcases h1 with ⟨hk, -⟩ | ⟨hk, -⟩ | ⟨hk, -⟩ <;> exact absurd (hk0.symm.trans hk) (by decide)
  · obtain ⟨-, rfl⟩ := hk
    refine W.widen (k := 3) (n := 18) (Nat.le_of_ble_eq_true rfl) (Nat.le_of_ble_eq_true rfl) ?_
    exact W.iret (v := cs_vByt S v u) hx hb hr (fun t ht _ => cs_wend (K := 0) (cs_vByt S v u) u8 rfl hP1 hD1 hS9 t ht) hS9.2.2 dL_changed_7
set_option maxHeartbeats 4000000 in
set_option maxRecDepth 100000 in
theorem k_L_model (l : Launch) (hlf : l.stackTraces = false) (D : va_G) (S : cs_St) (ad : Nat → Nat) (cy : Nat → ClassId) (sz : Nat) (hS : cs_ok S) (v a b x : Int32) (q9 t9 : Bool) (d : Int32) (hq : cs_rem x 2 = 1 ↔ q9 = true) (ht9 : x ≤ 1 ↔ t9 = false) (hk0 : cs_kDef S v a b d = 0) : Met l yL_model wsL_model ({ frames := 8, cells := 5, slots := 32, locals := 130 }) (va_Pc [.ref (ad 0), .int v, .int a, .int b, .int x, .int d] (cs_By D (cs_tys cy) (cs_L S ad cy) sz)) (cs_Qw D (cs_L S ad cy) (fun (ad2 : Nat → Nat) => cs_L (cs_sDef S v a b q9 t9 d) ad2 cy) (fun r9 ad2 => r9 = nI (cs_n S) ∧ ad2 0 = ad 0)) 5 32 (va_A (cs_L S ad cy) sz) := by
  refine cs_ofWH (cc := cL_model) (maxL := 7) (ret := (some .int)) (by decide) rfl ?_
  intro pg e s m args below meth c s₁ B hml hv
  obtain ⟨rfl, hsz, hE, hz9, hP, hK, hD0⟩ := hv
  subst hsz
  have hD := hD0.self (sz := s.heap.size)
  have hS9 : va_S (va_A (cs_L S ad cy) s.heap.size) s.heap s.heap [] := va_S.rf
  have hx := B.exec
  have hb := B.bytes
  have hr := B.returns
  have hts := atoms_spec (ws := wsL_model) B.pre
  have hown : s.vm.findClass RL = some m.cls := findClass_of_methodNamed B.named
  have hlocks := B.notSynchronized
  have hl := lv_entry ([.ref (ad 0), .int v, .int a, .int b, .int x, .int d]) (n := 7) (Nat.le_of_ble_eq_true rfl)
  rw [lg_entry_eq]
  generalize (lg_sl ([.ref (ad 0), .int v, .int a, .int b, .int x, .int d]) ++ List.replicate (7 - (lg_sl ([.ref (ad 0), .int v, .int a, .int b, .int x, .int d])).length) Slot.unset).toArray = ls at hl ⊢
  have hl : lv_has ls 7 [(0, .ref (ad 0)), (1, .int v), (2, .int a), (3, .int b), (4, .int x), (5, .int d)] := hl
  have k28 : W pg l e (headSpec wsL_model ({ frames := 8, cells := 5, slots := 32, locals := 130 })).room s m [Value.ref (ad 0), Value.int v, Value.int a, Value.int b, Value.int x, Value.int d].toArray below meth c s.heap [] 0 0 (MQ below (cs_Qw D (cs_L S ad cy) (fun (ad2 : Nat → Nat) => cs_L (cs_sDef S v a b q9 t9 d) ad2 cy) (fun r9 ad2 => r9 = nI (cs_n S) ∧ ad2 0 = ad 0)) [Value.ref (ad 0), Value.int v, Value.int a, Value.int b, Value.int x, Value.int d].toArray s 5 32 (va_A (cs_L S ad cy) s.heap.size)) (F0 m 28 ls (.int (cs_z t9) :: .int (cs_z q9) :: [.int b, .int a, .int v, .ref (ad 0)])) := by
    refine lv_iload hx hb dL_model_28 (lv_at hl 5 rfl) ?_
    refine cs_wxcalli (vx_runV (As := [.int v, .int a, .int b, .int (cs_z q9), .int (cs_z t9), .int d]) (rest := []) ⟨hx, hb, hml, hown, hts⟩ (k_X1_define l hlf D S ad cy s.heap.size hS v a b q9 t9 d) (cwV 6 hts gL_model_X1_define rfl rfl rfl (by decide +kernel) ⟨(Nat.le_of_ble_eq_true rfl), (Nat.le_of_ble_eq_true rfl)⟩) ⟨cs_By.blind, va_recv hK hP (ci := 1) (q0 := 0) rfl rfl, cs_By.at hE hz9 hP hK hD⟩ rfl rfl hl.1 rfl (lv_room (Nat.le_of_ble_eq_true rfl)) dL_model_30 ⟨(Nat.le_of_ble_eq_true rfl), (Nat.le_of_ble_eq_true rfl)⟩) hS9 (fun _ h => h) (fun E ce q7 H1 locs1 h1 h2 h3 hS9 h4 h5 h6 => ?_) (fun rr u8 H1 locs1 hk hP1 hD1 hz1 hk1 hS9 => ?_)
    · exfalso
      rcases h1 with ⟨hk, -⟩ | ⟨hk, -⟩ | ⟨hk, -⟩ <;> exact absurd (hk0.symm.trans hk) (by decide)
    · obtain ⟨⟨-, rfl⟩, hu⟩ := hk
      refine W.widen (k := 5) (n := 32) (Nat.le_of_ble_eq_true rfl) (Nat.le_of_ble_eq_true rfl) ?_
      exact W.iret (v := nI (cs_n S)) hx hb hr (fun t ht _ => cs_wend (K := 0) (nI (cs_n S)) u8 ⟨rfl, hu⟩ hP1 hD1 hS9 t ht) hS9.2.2 dL_model_33
  have k17 : W pg l e (headSpec wsL_model ({ frames := 8, cells := 5, slots := 32, locals := 130 })).room s m [Value.ref (ad 0), Value.int v, Value.int a, Value.int b, Value.int x, Value.int d].toArray below meth c s.heap [] 0 0 (MQ below (cs_Qw D (cs_L S ad cy) (fun (ad2 : Nat → Nat) => cs_L (cs_sDef S v a b q9 t9 d) ad2 cy) (fun r9 ad2 => r9 = nI (cs_n S) ∧ ad2 0 = ad 0)) [Value.ref (ad 0), Value.int v, Value.int a, Value.int b, Value.int x, Value.int d].toArray s 5 32 (va_A (cs_L S ad cy) s.heap.size)) (F0 m 17 ls (.int (cs_z q9) :: [.int b, .int a, .int v, .ref (ad 0)])) := by
    refine lv_iload hx hb dL_model_17 (lv_at hl 4 rfl) ?_
    refine lv_iconst (v := 1) hx hb dL_model_19 (by decide) ?_
    refine lv_icmp_le (tgt := 27) hx hb dL_model_20 (by decide) (fun h => ?_) (fun h => ?_)
    · have e9 : cs_z t9 = 0 := cs_z_0.mpr (ht9.mp h)
      refine lv_iconst (v := 0) hx hb dL_model_27 (by decide) ?_
      rw [← e9]
      exact k28
    · have e9 : cs_z t9 = 1 := cs_z_1.mpr (cs_tt (fun q => h (ht9.mpr q)))
      refine lv_iconst (v := 1) hx hb dL_model_23 (by decide) ?_
      refine lv_goto (tgt := 28) hx hb dL_model_24 (by decide) ?_
      rw [← e9]
      exact k28
  refine lv_aload_n hx hb dL_model_0 rfl (lv_at hl 0 rfl) ?_
  refine lv_iload_n hx hb dL_model_1 rfl (lv_at hl 1 rfl) ?_
  refine lv_iload_n hx hb dL_model_2 rfl (lv_at hl 2 rfl) ?_
  refine lv_iload_n hx hb dL_model_3 rfl (lv_at hl 3 rfl) ?_
  refine lv_iload hx hb dL_model_4 (lv_at hl 4 rfl) ?_
  refine lv_iconst (v := 2) hx hb dL_model_6 (by decide) ?_
  refine lv_irem hx hb dL_model_7 (by decide) ?_
  refine cs_top (y := cs_rem x 2) rfl ?_
  refine lv_iconst (v := 1) hx hb dL_model_8 (by decide) ?_
  refine lv_icmp_ne (tgt := 16) hx hb dL_model_9 (by decide) (fun h => ?_) (fun h => ?_)
  · have e9 : cs_z q9 = 0 := cs_z_0.mpr (cs_ff (fun q => h (hq.mpr q)))
    refine lv_iconst (v := 0) hx hb dL_model_16 (by decide) ?_
    rw [← e9]
    exact k17
  · have e9 : cs_z q9 = 1 := cs_z_1.mpr (hq.mp h)
    refine lv_iconst (v := 1) hx hb dL_model_12 (by decide) ?_
    refine lv_goto (tgt := 17) hx hb dL_model_13 (by decide) ?_
    rw [← e9]
    exact k17
end
section
/-! a call that makes cells and writes none -/
section CSN
variable {p : Program} {l : Launch} {e : Env} {R : Room} {s : State} {m : MethodId} {args : Array Value} {below : List Frame} {meth : Method} {c : Code} {H : Heap} {locs : List Loc} {cells slots : Nat} {Q : State → Prop}
variable {pc : Nat} {ls : Array Slot} {rest st0 : List Value} {a : Array Value} {mc ms : Nat}
theorem cs_ncalli {post : Int32 → Prop} (hr : va_Run p l e R s m args below meth c H locs cells slots mc ms (F0 m pc ls st0) rest (vp_Si post a) (fun _ => False))
    (kk : ∀ r : Int32, post r → W p l e R s m args below meth c H locs (cells + mc) (slots + ms) Q (F0 m (pc + 3) ls (.int r :: rest))) : W p l e R s m args below meth c H locs cells slots Q (F0 m pc ls st0) := by
  intro T hT X
  obtain ⟨v, st₀, t, T', L, h0, X', hL, e1, e2, ⟨r, hv, hp, hh⟩, st⟩ := hr T hT X
  cases hv
  have hL0 : L = [] := List.eq_nil_iff_forall_not_mem.mpr (fun q h => hL q h)
  subst hL0
  rw [List.append_nil] at X'
  obtain ⟨t2, a1, b1⟩ := kk r hp T' (by rw [e1, hh, h0]) X'
  exact ⟨t2, st t2 a1, b1⟩
end CSN
set_option maxHeartbeats 4000000 in
set_option maxRecDepth 100000 in
theorem k_L_at (l : Launch) (hlf : l.stackTraces = false) (D : va_G) (S : cs_St) (ad : Nat → Nat) (cy : Nat → ClassId) (hS : cs_ok S) (v u : Int32) (hk0 : cs_k1 (cs_pl S v u) = 0) : Met l yL_at wsL_at ({ frames := 8, cells := 2, slots := 12, locals := 126 }) (va_Pc [.ref (ad 0), .int v, .int u] (cs_Bx D (cs_tys cy) (cs_L S ad cy))) (vp_Si (fun r9 => r9 = cs_vByt S v u)) 2 12 (fun _ => False) := by
  refine cs_ofWH (cc := cL_at) (maxL := 4) (ret := (some .int)) (by decide) rfl ?_
  intro pg e s m args below meth c s₁ B hml hv
  obtain ⟨rfl, hE, hz, hP, hK⟩ := hv
  have hx := B.exec
  have hb := B.bytes
  have hr := B.returns
  have hts := atoms_spec (ws := wsL_at) B.pre
  have hown : s.vm.findClass RL = some m.cls := findClass_of_methodNamed B.named
  have hlocks := B.notSynchronized
  have hl := lv_entry ([.ref (ad 0), .int v, .int u]) (n := 4) (Nat.le_of_ble_eq_true rfl)
  rw [lg_entry_eq]
  generalize (lg_sl ([.ref (ad 0), .int v, .int u]) ++ List.replicate (4 - (lg_sl ([.ref (ad 0), .int v, .int u])).length) Slot.unset).toArray = ls at hl ⊢
  have hl : lv_has ls 4 [(0, .ref (ad 0)), (1, .int v), (2, .int u)] := hl
  refine lv_aload_n hx hb dL_at_0 rfl (lv_at hl 0 rfl) ?_
  refine lv_iload_n hx hb dL_at_1 rfl (lv_at hl 1 rfl) ?_
  refine lv_iload_n hx hb dL_at_2 rfl (lv_at hl 2 rfl) ?_
  refine cs_xcalli (vx_runV (As := [.int v, .int u]) (rest := []) ⟨hx, hb, hml, hown, hts⟩ (k_X1_byteAt l hlf D S ad cy hS v u) (cwV 2 hts gL_at_X1_byteAt rfl rfl rfl (by decide +kernel) ⟨(Nat.le_of_ble_eq_true rfl), (Nat.le_of_ble_eq_true rfl)⟩) ⟨cs_Bx.blind, va_recv hK hP (ci := 1) (q0 := 0) rfl rfl, cs_Bx.at hE hz hP hK⟩ rfl rfl hl.1 rfl (lv_room (Nat.le_of_ble_eq_true rfl)) dL_at_3 ⟨(Nat.le_of_ble_eq_true rfl), (Nat.le_of_ble_eq_true rfl)⟩) (fun E ce q7 H1 h1 h2 h3 h4 h5 h6 => ?_) (fun rr hk => ?_)
  · exfalso
    rcases h1 with ⟨hk, -⟩ | ⟨hk, -⟩ | ⟨hk, -⟩ <;> exact absurd (hk0.symm.trans hk) (by decide)
  · obtain ⟨-, rfl⟩ := hk
    refine W.widen (k := 2) (n := 12) (Nat.le_of_ble_eq_true rfl) (Nat.le_of_ble_eq_true rfl) ?_
    exact W.iret (v := cs_vByt S v u) hx hb hr (fun t ht _ => ⟨cs_vByt S v u, rfl, rfl, ht⟩) (fun q h => by cases h) dL_at_6
set_option maxHeartbeats 4000000 in
set_option maxRecDepth 100000 in
theorem k_L_sum (l : Launch) (hlf : l.stackTraces = false) (D : va_G) (S : cs_St) (ad : Nat → Nat) (cy : Nat → ClassId) (hS : cs_ok S) (t : Nat) (ht3 : t < 3) (v u a b : Int32) (hk0 : cs_kPar S v u a b = 0) (hk1 : cs_k1 (cs_M S v && cs_in u 0 3) = 0) : Met l yL_sum wsL_sum ({ frames := 8, cells := 3, slots := 18, locals := 129 }) (va_Pc [.ref (ad 0), .int (nI t), .int v, .int u, .int a, .int b] (cs_Bx D (cs_tys cy) (cs_L S ad cy))) (vp_Si (fun r9 => r9 = cs_sm S t v u a b)) 3 18 (fun _ => False) := by
  refine cs_ofWH (cc := cL_sum) (maxL := 7) (ret := (some .int)) (by decide) rfl ?_
  intro pg e s m args below meth c s₁ B hml hv
  obtain ⟨rfl, hE, hz, hP, hK⟩ := hv
  have hx := B.exec
  have hb := B.bytes
  have hr := B.returns
  have hts := atoms_spec (ws := wsL_sum) B.pre
  have hown : s.vm.findClass RL = some m.cls := findClass_of_methodNamed B.named
  have hlocks := B.notSynchronized
  have hl := lv_entry ([.ref (ad 0), .int (nI t), .int v, .int u, .int a, .int b]) (n := 7) (Nat.le_of_ble_eq_true rfl)
  rw [lg_entry_eq]
  generalize (lg_sl ([.ref (ad 0), .int (nI t), .int v, .int u, .int a, .int b]) ++ List.replicate (7 - (lg_sl ([.ref (ad 0), .int (nI t), .int v, .int u, .int a, .int b])).length) Slot.unset).toArray = ls at hl ⊢
  have hl : lv_has ls 7 [(0, .ref (ad 0)), (1, .int (nI t)), (2, .int v), (3, .int u), (4, .int a), (5, .int b)] := hl
  refine lv_iload_n hx hb dL_sum_0 rfl (lv_at hl 1 rfl) ?_
  rcases (show t = 0 ∨ t = 1 ∨ t = 2 by omega) with rfl | rfl | rfl
  · refine lv_if_ne (tgt := 17) hx hb dL_sum_1 (by decide) (fun h => absurd rfl h) (fun _ => ?_)
    refine lv_aload_n hx hb dL_sum_4 rfl (lv_at hl 0 rfl) ?_
    refine lv_iload_n hx hb dL_sum_5 rfl (lv_at hl 2 rfl) ?_
    refine lv_iload_n hx hb dL_sum_6 rfl (lv_at hl 3 rfl) ?_
    refine lv_iload hx hb dL_sum_7 (lv_at hl 4 rfl) ?_
    refine lv_iload hx hb dL_sum_9 (lv_at hl 5 rfl) ?_
    refine cs_xcalli (vx_runV (As := [.int v, .int u, .int a, .int b]) (rest := []) ⟨hx, hb, hml, hown, hts⟩ (k_X1_sumOfPart l hlf D S ad cy hS v u a b) (cwV 4 hts gL_sum_X1_sumOfPart rfl rfl rfl (by decide +kernel) ⟨(Nat.le_of_ble_eq_true rfl), (Nat.le_of_ble_eq_true rfl)⟩) ⟨cs_Bx.blind, va_recv hK hP (ci := 1) (q0 := 0) rfl rfl, cs_Bx.at hE hz hP hK⟩ rfl rfl hl.1 rfl (lv_room (Nat.le_of_ble_eq_true rfl)) dL_sum_11 ⟨(Nat.le_of_ble_eq_true rfl), (Nat.le_of_ble_eq_true rfl)⟩) (fun E ce q7 H1 h1 h2 h3 h4 h5 h6 => ?_) (fun rr hk => ?_)
    · exfalso
      rcases h1 with ⟨hk, -⟩ | ⟨hk, -⟩ | ⟨hk, -⟩ <;> exact absurd (hk0.symm.trans hk) (by decide)
    · obtain ⟨-, rfl⟩ := hk
      refine lv_goto (tgt := 37) hx hb dL_sum_14 (by decide) ?_
      refine W.widen (k := 3) (n := 18) (Nat.le_of_ble_eq_true rfl) (Nat.le_of_ble_eq_true rfl) ?_
      exact W.iret (v := cs_vPar S v u a b) hx hb hr (fun t ht _ => ⟨cs_vPar S v u a b, rfl, rfl, ht⟩) (fun q h => by cases h) dL_sum_37
  · refine lv_if_ne (tgt := 17) hx hb dL_sum_1 (by decide) (fun _ => ?_) (fun h => absurd h (by decide))
    refine lv_iload_n hx hb dL_sum_17 rfl (lv_at hl 1 rfl) ?_
    refine lv_iconst (v := 1) hx hb dL_sum_18 (by decide) ?_
    refine lv_icmp_ne (tgt := 31) hx hb dL_sum_19 (by decide) (fun h => absurd rfl h) (fun _ => ?_)
    refine lv_aload_n hx hb dL_sum_22 rfl (lv_at hl 0 rfl) ?_
    refine lv_iload_n hx hb dL_sum_23 rfl (lv_at hl 2 rfl) ?_
    refine lv_iload_n hx hb dL_sum_24 rfl (lv_at hl 3 rfl) ?_
    refine cs_xcalli (vx_runV (As := [.int v, .int u]) (rest := []) ⟨hx, hb, hml, hown, hts⟩ (k_X1_sum l hlf D S ad cy hS v u) (cwV 2 hts gL_sum_X1_sum rfl rfl rfl (by decide +kernel) ⟨(Nat.le_of_ble_eq_true rfl), (Nat.le_of_ble_eq_true rfl)⟩) ⟨cs_Bx.blind, va_recv hK hP (ci := 1) (q0 := 0) rfl rfl, cs_Bx.at hE hz hP hK⟩ rfl rfl hl.1 rfl (lv_room (Nat.le_of_ble_eq_true rfl)) dL_sum_25 ⟨(Nat.le_of_ble_eq_true rfl), (Nat.le_of_ble_eq_true rfl)⟩) (fun E ce q7 H1 h1 h2 h3 h4 h5 h6 => ?_) (fun rr hk => ?_)
    · exfalso
      rcases h1 with ⟨hk, -⟩ | ⟨hk, -⟩ | ⟨hk, -⟩ <;> exact absurd (hk1.symm.trans hk) (by decide)
    · obtain ⟨-, rfl⟩ := hk
      refine lv_goto (tgt := 37) hx hb dL_sum_28 (by decide) ?_
      refine W.widen (k := 3) (n := 18) (Nat.le_of_ble_eq_true rfl) (Nat.le_of_ble_eq_true rfl) ?_
      exact W.iret (v := cs_vSum S v u) hx hb hr (fun t ht _ => ⟨cs_vSum S v u, rfl, rfl, ht⟩) (fun q h => by cases h) dL_sum_37
  · refine lv_if_ne (tgt := 17) hx hb dL_sum_1 (by decide) (fun _ => ?_) (fun h => absurd h (by decide))
    refine lv_iload_n hx hb dL_sum_17 rfl (lv_at hl 1 rfl) ?_
    refine lv_iconst (v := 1) hx hb dL_sum_18 (by decide) ?_
    refine lv_icmp_ne (tgt := 31) hx hb dL_sum_19 (by decide) (fun _ => ?_) (fun h => absurd h (by decide))
    refine lv_aload_n hx hb dL_sum_31 rfl (lv_at hl 0 rfl) ?_
    refine lv_iload_n hx hb dL_sum_32 rfl (lv_at hl 2 rfl) ?_
    refine lv_iload_n hx hb dL_sum_33 rfl (lv_at hl 3 rfl) ?_
    refine cs_xcalli (vx_runV (As := [.int v, .int u]) (rest := []) ⟨hx, hb, hml, hown, hts⟩ (k_X1_remainder l hlf D S ad cy hS v u) (cwV 2 hts gL_sum_X1_remainder rfl rfl rfl (by decide +kernel) ⟨(Nat.le_of_ble_eq_true rfl), (Nat.le_of_ble_eq_true rfl)⟩) ⟨cs_Bx.blind, va_recv hK hP (ci := 1) (q0 := 0) rfl rfl, cs_Bx.at hE hz hP hK⟩ rfl rfl hl.1 rfl (lv_room (Nat.le_of_ble_eq_true rfl)) dL_sum_34 ⟨(Nat.le_of_ble_eq_true rfl), (Nat.le_of_ble_eq_true rfl)⟩) (fun E ce q7 H1 h1 h2 h3 h4 h5 h6 => ?_) (fun rr hk => ?_)
    · exfalso
      rcases h1 with ⟨hk, -⟩ | ⟨hk, -⟩ | ⟨hk, -⟩ <;> exact absurd (hk1.symm.trans hk) (by decide)
    · obtain ⟨-, rfl⟩ := hk
      refine W.widen (k := 3) (n := 18) (Nat.le_of_ble_eq_true rfl) (Nat.le_of_ble_eq_true rfl) ?_
      exact W.iret (v := cs_vRem S v u) hx hb hr (fun t ht _ => ⟨cs_vRem S v u, rfl, rfl, ht⟩) (fun q h => by cases h) dL_sum_37
theorem cs_in03 : ∀ r, r < 4 → cs_in (nI r) 0 3 = true := by decide +kernel
theorem cs_kM {S : cs_St} (hS : cs_ok S) {mo : Nat} (hm : mo < cs_n S) : cs_M S (nI mo) = true := cs_in_mod hm hS.1
theorem cs_kS1 {S : cs_St} (hS : cs_ok S) {mo r : Nat} (hm : mo < cs_n S) (hr : r < 4) : cs_k1 (cs_M S (nI mo) && cs_in (nI r) 0 3) = 0 := cs_k1_0.mpr (by rw [cs_kM hS hm, cs_in03 r hr]; rfl)
theorem cs_kS0 {S : cs_St} (hS : cs_ok S) {mo r a b : Nat} (hm : mo < cs_n S) (hr : r < 4) (ha : a ≤ b) (hb : b ≤ cs_ln S r) : cs_kPar S (nI mo) (nI r) (nI a) (nI b) = 0 := by
  have h8 := hS.2.2.1 r
  have rc : cs_c (nI r) = r := cs_cI (by omega)
  refine cs_k1_0.mpr ?_
  rw [cs_kM hS hm, cs_in03 r hr, rc, cs_in_nI (by omega) (by omega), cs_inT (nI_le ha (by omega)) (nI_le hb (by omega))]
  rfl
set_option maxHeartbeats 4000000 in
set_option maxRecDepth 100000 in
theorem k_L_isAffine (l : Launch) (hlf : l.stackTraces = false) (D : va_G) (S : cs_St) (ad : Nat → Nat) (cy : Nat → ClassId) (hS : cs_ok S) (N : Nat) (hln : ∀ r, r < 4 → cs_ln S r = N) (hx4 : cs_x4 (cs_by S 0) (cs_by S 1) (cs_by S 2) (cs_by S 3) N) (t : Nat) (ht3 : t < 3) (mo : Nat) (hm : mo < cs_n S) (fr to : Nat) (hft : fr ≤ to) (hto : to ≤ N) : Met l yL_isAffine wsL_isAffine ({ frames := 9, cells := 12, slots := 72, locals := 155 }) (va_Pc [.ref (ad 0), .int (nI t), .int (nI mo), .int (nI fr), .int (nI to)] (cs_Bx D (cs_tys cy) (cs_L S ad cy))) (vp_Si (fun r9 => r9 = 1)) 12 72 (fun _ => False) := by
  refine Met.ofW (cc := cL_isAffine) (maxL := 5) (ret := (some .boolean)) (by decide) rfl ?_
  intro pg e s m args below meth c s₁ B hml hv
  obtain ⟨rfl, hE, hz, hP, hK⟩ := hv
  have hx := B.exec
  have hb := B.bytes
  have hr := B.returns
  have hts := atoms_spec (ws := wsL_isAffine) B.pre
  have hown : s.vm.findClass RL = some m.cls := findClass_of_methodNamed B.named
  have hlocks := B.notSynchronized
  have hl := lv_entry ([.ref (ad 0), .int (nI t), .int (nI mo), .int (nI fr), .int (nI to)]) (n := 5) (Nat.le_of_ble_eq_true rfl)
  rw [lg_entry_eq]
  generalize (lg_sl ([.ref (ad 0), .int (nI t), .int (nI mo), .int (nI fr), .int (nI to)]) ++ List.replicate (5 - (lg_sl ([.ref (ad 0), .int (nI t), .int (nI mo), .int (nI fr), .int (nI to)])).length) Slot.unset).toArray = ls at hl ⊢
  have hl : lv_has ls 5 [(0, .ref (ad 0)), (1, .int (nI t)), (2, .int (nI mo)), (3, .int (nI fr)), (4, .int (nI to))] := hl
  have hkA : ∀ r, r < 4 → cs_kPar S (nI mo) (nI r) (nI fr) (nI to) = 0 := fun r hr9 => cs_kS0 hS hm hr9 hft (by rw [hln r hr9]; exact hto)
  refine lv_aload_n hx hb dL_isAffine_0 rfl (lv_at hl 0 rfl) ?_
  refine lv_iload_n hx hb dL_isAffine_1 rfl (lv_at hl 1 rfl) ?_
  refine lv_iload_n hx hb dL_isAffine_2 rfl (lv_at hl 2 rfl) ?_
  refine lv_iconst (v := nI 3) hx hb dL_isAffine_3 (by decide) ?_
  refine lv_iload_n hx hb dL_isAffine_4 rfl (lv_at hl 3 rfl) ?_
  refine lv_iload hx hb dL_isAffine_5 (lv_at hl 4 rfl) ?_
  refine cs_ncalli (vx_runSW (As := [.ref (ad 0), .int (nI t), .int (nI mo), .int (nI 3), .int (nI fr), .int (nI to)]) (rest := []) ⟨hx, hb, hml, hown, hts⟩ (k_L_sum l hlf D S ad cy hS t ht3 (nI mo) (nI 3) (nI fr) (nI to) (hkA 3 (by decide)) (cs_kS1 hS hm (by decide))) (vx_cwSW 6 hts gL_isAffine_L_sum rfl rfl rfl (by decide +kernel) ⟨(Nat.le_of_ble_eq_true rfl), (Nat.le_of_ble_eq_true rfl)⟩) ⟨cs_Bx.blind, cs_Bx.at hE hz hP hK⟩ rfl rfl hl.1 rfl (lv_room (Nat.le_of_ble_eq_true rfl)) dL_isAffine_7 ⟨(Nat.le_of_ble_eq_true rfl), (Nat.le_of_ble_eq_true rfl)⟩) (fun r3 e3 => ?_)
  subst e3
  refine lv_aload_n hx hb dL_isAffine_10 rfl (lv_at hl 0 rfl) ?_
  refine lv_iload_n hx hb dL_isAffine_11 rfl (lv_at hl 1 rfl) ?_
  refine lv_iload_n hx hb dL_isAffine_12 rfl (lv_at hl 2 rfl) ?_
  refine lv_iconst (v := nI 0) hx hb dL_isAffine_13 (by decide) ?_
  refine lv_iload_n hx hb dL_isAffine_14 rfl (lv_at hl 3 rfl) ?_
  refine lv_iload hx hb dL_isAffine_15 (lv_at hl 4 rfl) ?_
  refine cs_ncalli (vx_runSW (As := [.ref (ad 0), .int (nI t), .int (nI mo), .int (nI 0), .int (nI fr), .int (nI to)]) (rest := [.int (cs_sm S t (nI mo) (nI 3) (nI fr) (nI to))]) ⟨hx, hb, hml, hown, hts⟩ (k_L_sum l hlf D S ad cy hS t ht3 (nI mo) (nI 0) (nI fr) (nI to) (hkA 0 (by decide)) (cs_kS1 hS hm (by decide))) (vx_cwSW 6 hts gL_isAffine_L_sum rfl rfl rfl (by decide +kernel) ⟨(Nat.le_of_ble_eq_true rfl), (Nat.le_of_ble_eq_true rfl)⟩) ⟨cs_Bx.blind, cs_Bx.at hE hz hP hK⟩ rfl rfl hl.1 rfl (lv_room (Nat.le_of_ble_eq_true rfl)) dL_isAffine_17 ⟨(Nat.le_of_ble_eq_true rfl), (Nat.le_of_ble_eq_true rfl)⟩) (fun r0 e0 => ?_)
  subst e0
  refine lv_aload_n hx hb dL_isAffine_20 rfl (lv_at hl 0 rfl) ?_
  refine lv_iload_n hx hb dL_isAffine_21 rfl (lv_at hl 1 rfl) ?_
  refine lv_iload_n hx hb dL_isAffine_22 rfl (lv_at hl 2 rfl) ?_
  refine lv_iconst (v := nI 1) hx hb dL_isAffine_23 (by decide) ?_
  refine lv_iload_n hx hb dL_isAffine_24 rfl (lv_at hl 3 rfl) ?_
  refine lv_iload hx hb dL_isAffine_25 (lv_at hl 4 rfl) ?_
  refine cs_ncalli (vx_runSW (As := [.ref (ad 0), .int (nI t), .int (nI mo), .int (nI 1), .int (nI fr), .int (nI to)]) (rest := [.int (cs_sm S t (nI mo) (nI 0) (nI fr) (nI to)), .int (cs_sm S t (nI mo) (nI 3) (nI fr) (nI to))]) ⟨hx, hb, hml, hown, hts⟩ (k_L_sum l hlf D S ad cy hS t ht3 (nI mo) (nI 1) (nI fr) (nI to) (hkA 1 (by decide)) (cs_kS1 hS hm (by decide))) (vx_cwSW 6 hts gL_isAffine_L_sum rfl rfl rfl (by decide +kernel) ⟨(Nat.le_of_ble_eq_true rfl), (Nat.le_of_ble_eq_true rfl)⟩) ⟨cs_Bx.blind, cs_Bx.at hE hz hP hK⟩ rfl rfl hl.1 rfl (lv_room (Nat.le_of_ble_eq_true rfl)) dL_isAffine_27 ⟨(Nat.le_of_ble_eq_true rfl), (Nat.le_of_ble_eq_true rfl)⟩) (fun r1 e1 => ?_)
  subst e1
  refine lv_ixor hx hb dL_isAffine_30 ?_
  refine lv_aload_n hx hb dL_isAffine_31 rfl (lv_at hl 0 rfl) ?_
  refine lv_iload_n hx hb dL_isAffine_32 rfl (lv_at hl 1 rfl) ?_
  refine lv_iload_n hx hb dL_isAffine_33 rfl (lv_at hl 2 rfl) ?_
  refine lv_iconst (v := nI 2) hx hb dL_isAffine_34 (by decide) ?_
  refine lv_iload_n hx hb dL_isAffine_35 rfl (lv_at hl 3 rfl) ?_
  refine lv_iload hx hb dL_isAffine_36 (lv_at hl 4 rfl) ?_
  refine cs_ncalli (vx_runSW (As := [.ref (ad 0), .int (nI t), .int (nI mo), .int (nI 2), .int (nI fr), .int (nI to)]) (rest := [.int ((cs_sm S t (nI mo) (nI 0) (nI fr) (nI to)) ^^^ (cs_sm S t (nI mo) (nI 1) (nI fr) (nI to))), .int (cs_sm S t (nI mo) (nI 3) (nI fr) (nI to))]) ⟨hx, hb, hml, hown, hts⟩ (k_L_sum l hlf D S ad cy hS t ht3 (nI mo) (nI 2) (nI fr) (nI to) (hkA 2 (by decide)) (cs_kS1 hS hm (by decide))) (vx_cwSW 6 hts gL_isAffine_L_sum rfl rfl rfl (by decide +kernel) ⟨(Nat.le_of_ble_eq_true rfl), (Nat.le_of_ble_eq_true rfl)⟩) ⟨cs_Bx.blind, cs_Bx.at hE hz hP hK⟩ rfl rfl hl.1 rfl (lv_room (Nat.le_of_ble_eq_true rfl)) dL_isAffine_38 ⟨(Nat.le_of_ble_eq_true rfl), (Nat.le_of_ble_eq_true rfl)⟩) (fun r2 e2 => ?_)
  subst e2
  refine lv_ixor hx hb dL_isAffine_41 ?_
  refine lv_icmp_ne (tgt := 49) hx hb dL_isAffine_42 (by decide) (fun h => absurd (cs_x3sm hS hln hx4 hm t hft hto) h) (fun _ => ?_)
  refine lv_iconst (v := 1) hx hb dL_isAffine_45 (by decide) ?_
  refine lv_goto (tgt := 50) hx hb dL_isAffine_46 (by decide) ?_
  refine W.widen (k := 12) (n := 72) (Nat.le_of_ble_eq_true rfl) (Nat.le_of_ble_eq_true rfl) ?_
  exact W.zret (ty := .boolean) (v := 1) hx hb hr (cs_z_nar true) (fun t ht _ => ⟨1, rfl, rfl, ht⟩) (fun q h => by cases h) dL_isAffine_50
end
section
/-! the law's loops: what holds all along, its calls -/
def cs_C (p : Program) (l : Launch) (s : State) (m : MethodId) (c : Code) (b L : Nat) (xs : Nat → Int32) (D : va_G) (cy : Nat → ClassId) : Prop :=
  p.tables.exec = Jvm.exec ∧ c.code = cL_law ∧ c.maxLocals = 14 ∧ l.stackTraces = false ∧ s.vm.findClass RL = some m.cls ∧ (∀ w ∈ wsL_law, w.before #[Value.ref b] s = true) ∧ va_X b L xs s s.heap ∧ b < s.heap.size ∧ L ≤ 260 ∧ cs_en s ∧ cs_zz (fun q => s.heap.size ≤ q) s s.heap ∧ va_K D vwCl (cs_tys cy) s
def cs_LS (D : va_G) (s : State) (H : Heap) (locs : List Loc) (S : cs_St) (ad : Nat → Nat) (cy : Nat → ClassId) : Prop :=
  va_P D vwCl (cs_L S ad cy) H ∧ va_D (fun q => s.heap.size ≤ q) (cs_L S ad cy) ∧ va_S (fun q => s.heap.size ≤ q) s.heap H locs
theorem cs_Dup {A B : Nat → Prop} {w : va_W} (h : va_D A w) (hAB : ∀ q, A q → B q) : va_D B w := ⟨h.1, fun k e hk => hAB _ (h.2 k e hk)⟩
theorem cs_mkN (x : Int32) {n : Nat} (h1 : 1 ≤ n) (h2 : n ≤ 32) : cs_nb (x &&& cs_mk n) (nI n) = true := by
  unfold cs_nb
  by_cases e : n = 32
  · subst e
    rfl
  · rw [Bool.or_eq_true, decide_eq_true_eq, decide_eq_true_eq]
    refine Or.inr (b_ext fun i hi => ?_)
    have h := b_ushr n (by omega) (x &&& cs_mk n) i
    have h9 : bt (cs_ur (x &&& cs_mk n) (nI n)) i = bt (x &&& cs_mk n) (n + i) := h
    rw [h9, b_0]
    rcases Nat.lt_or_ge (n + i) 32 with z | z
    · rw [b_and, cs_mkb n (by omega) (n + i) z, decide_eq_false (by omega), Bool.and_false]
    · exact b_big z
section CSLW
variable {p : Program} {l : Launch} {e : Env} {s : State} {m : MethodId} {b : Nat} {below : List Frame} {meth : Method} {c : Code} {H : Heap} {locs : List Loc} {cells slots : Nat} {Q : State → Prop} {pc : Nat} {ls : Array Slot} {rest : List Value} {L : Nat} {xs : Nat → Int32} {D : va_G} {cy : Nat → ClassId} {S : cs_St} {ad : Nat → Nat} {lv : List (Nat × Value)}
set_option maxHeartbeats 4000000 in
set_option maxRecDepth 100000 in
theorem lw_dr (C0 : cs_C p l s m c b L xs D cy) (hS9 : va_S (fun q => s.heap.size ≤ q) s.heap H locs) (hl : lv_has ls 14 lv) {k : Nat} (hk : k < 2 ^ 31) (hrest : (rest.map fun v => v.category).sum ≤ 8) (hc : cells ≤ 600074) (hs : slots ≤ 7301550) (d : decode cL_law pc = .ok (.invokestatic 49, 3))
    (kk : W p l e room_1 s m #[.ref b] below meth c H locs cells slots Q (F0 m (pc + 3) ls (.int (nI (cs_zn L xs k)) :: rest))) : W p l e room_1 s m #[.ref b] below meth c H locs cells slots Q (F0 m pc ls (.int (nI k) :: .ref b :: rest)) := by
  obtain ⟨hx, hb, hml, -, hown, hts, hX, hbl, hL, -⟩ := C0
  refine vp_callSi (W.runS (As := [.ref b, .int (nI k)]) (rest := rest) ⟨hx, hb, hml, hown, hts⟩ (k_L_drawn l b L xs k hk hL) (va_cwS 2 hts gL_law_L_drawn rfl rfl rfl (by decide +kernel) ⟨(Nat.le_of_ble_eq_true rfl), (Nat.le_of_ble_eq_true rfl)⟩) ⟨cs_Bs.blind, cs_Bs.at hX hbl (Nat.not_le.mpr hbl) hS9⟩ rfl rfl hl.1 rfl (lv_room hrest) d ⟨by show cells + 0 ≤ 600074; omega, by show slots + 0 ≤ 7301550; omega⟩) (fun r9 e9 => ?_)
  subst e9
  exact kk
set_option maxHeartbeats 4000000 in
set_option maxRecDepth 100000 in
theorem lw_md (C0 : cs_C p l s m c b L xs D cy) (hok : cs_okk S) (hLS : cs_LS D s H locs S ad cy) (hl : lv_has ls 14 lv) {n : Nat} (h1 : 1 ≤ n) (h2 : n ≤ 32) (x y z d : Int32) (hn : cs_n S < 6) (hc : cells + 5 ≤ 600074) (hs : slots + 32 ≤ 7301550) (dd : decode cL_law pc = .ok (.invokestatic 53, 3))
    (kk : ∀ (S' : cs_St) (ad' : Nat → Nat) (H : Heap) (locs : List Loc), cs_okk S' → cs_n S' = cs_n S + 1 → cs_ln S' = cs_ln S → ad' 0 = ad 0 → cs_LS D s H locs S' ad' cy → W p l e room_1 s m #[.ref b] below meth c H locs (cells + 5) (slots + 32) Q (F0 m (pc + 3) ls [.int (nI (cs_n S))])) :
    W p l e room_1 s m #[.ref b] below meth c H locs cells slots Q (F0 m pc ls [.int (d &&& cs_mk n), .int z, .int (y &&& cs_mk n), .int (x &&& cs_mk n), .int (nI n), .ref (ad 0)]) := by
  obtain ⟨hx, hb, hml, hlf, hown, hts, -, -, -, hE, hz0, hK⟩ := C0
  obtain ⟨hP, hD, hS9⟩ := hLS
  have hF : ∀ q, va_A (cs_L S ad cy) H.size q → (fun q => s.heap.size ≤ q) q := cs_inW hD hS9 (fun _ h => h)
  have hz : cs_zz (va_A (cs_L S ad cy) H.size) s H := (hz0.kept (fun a h1 h2 => hS9.2.1 a h1 h2)).narrow hF
  have hk0 : cs_kDef S (nI n) (x &&& cs_mk n) (y &&& cs_mk n) (d &&& cs_mk n) = 0 := cs_k2_0.mpr (by
    unfold cs_bDef
    rw [cs_inT (v := nI n) (lo := 1) (hi := 32) (nI_le (a := 1) h1 (by omega)) (nI_le (b := 32) h2 (by decide)), cs_mkN x h1 h2, cs_mkN y h1 h2, cs_mkN d h1 h2, decide_eq_true hn]
    rfl)
  refine cs_wcalli (vx_runSW (As := [.ref (ad 0), .int (nI n), .int (x &&& cs_mk n), .int (y &&& cs_mk n), .int z, .int (d &&& cs_mk n)]) (rest := []) ⟨hx, hb, hml, hown, hts⟩ (k_L_model l hlf D S ad cy H.size hok.1 (nI n) (x &&& cs_mk n) (y &&& cs_mk n) z (decide (cs_rem z 2 = 1)) (decide (¬ z ≤ 1)) (d &&& cs_mk n) (by rw [decide_eq_true_eq]) (by rw [decide_eq_false_iff_not]; exact ⟨fun h q => q h, fun h => Classical.byContradiction h⟩) hk0) (vx_cwSW 6 hts gL_law_L_model rfl rfl rfl (by decide +kernel) ⟨(Nat.le_of_ble_eq_true rfl), (Nat.le_of_ble_eq_true rfl)⟩) ⟨cs_By.blind, cs_By.at hE hz hP hK hD⟩ rfl rfl hl.1 rfl (lv_room (Nat.le_of_ble_eq_true rfl)) dd ⟨by show cells + 5 ≤ 600074; omega, by show slots + 32 ≤ 7301550; omega⟩) hS9 hF (fun r9 u9 H locs hp hP1 hD1 hz1 hk1 hS9 => ?_)
  obtain ⟨rfl, hu⟩ := hp
  have es : cs_sDef S (nI n) (x &&& cs_mk n) (y &&& cs_mk n) (decide (cs_rem z 2 = 1)) (decide (¬ z ≤ 1)) (d &&& cs_mk n) = cs_def S (cs_c (nI n)) (x &&& cs_mk n) (y &&& cs_mk n) (decide (cs_rem z 2 = 1)) (decide (¬ z ≤ 1)) (d &&& cs_mk n) := by unfold cs_sDef; exact if_pos hk0
  refine kk _ u9 H locs (cs_okk_def hok (nI n) (x &&& cs_mk n) (y &&& cs_mk n) (decide (cs_rem z 2 = 1)) (decide (¬ z ≤ 1)) (d &&& cs_mk n)) ?_ ?_ hu ⟨hP1, cs_Dup hD1 hF, hS9⟩
  · rw [es]; rfl
  · rw [es]; rfl
set_option maxHeartbeats 4000000 in
set_option maxRecDepth 100000 in
theorem lw_ad (C0 : cs_C p l s m c b L xs D cy) (hok : cs_okk S) (hLS : cs_LS D s H locs S ad cy) (hl : lv_has ls 14 lv) {r x k : Nat} (hr : r < 4) (hx9 : x < 256) (hk : cs_ln S r = k) (hk9 : k < 256) (hc : cells + 3 ≤ 600074) (hs : slots + 18 ≤ 7301550) (dd : decode cL_law pc = .ok (.invokestatic 57, 3))
    (kk : ∀ (H : Heap) (locs : List Loc), cs_okk (cs_put S r (k + 1) (va_up (cs_by S r) k x)) → cs_LS D s H locs (cs_put S r (k + 1) (va_up (cs_by S r) k x)) ad cy → W p l e room_1 s m #[.ref b] below meth c H locs (cells + 3) (slots + 18) Q (F0 m (pc + 3) ls [.int (nI (k + 1))])) :
    W p l e room_1 s m #[.ref b] below meth c H locs cells slots Q (F0 m pc ls [.int (nI x), .int (nI r), .ref (ad 0)]) := by
  obtain ⟨hx, hb, hml, hlf, hown, hts, -, -, -, hE, hz0, hK⟩ := C0
  obtain ⟨hP, hD, hS9⟩ := hLS
  have hF : ∀ q, va_A (cs_L S ad cy) H.size q → (fun q => s.heap.size ≤ q) q := cs_inW hD hS9 (fun _ h => h)
  have hz : cs_zz (va_A (cs_L S ad cy) H.size) s H := (hz0.kept (fun a h1 h2 => hS9.2.1 a h1 h2)).narrow hF
  have rc : cs_c (nI r) = r := cs_cI (by omega)
  have xc : cs_c (nI x) = x := cs_cI (by omega)
  have hk0 : cs_kApp S (nI r) (nI x) = 0 := by
    unfold cs_kApp
    rw [if_pos (cs_in03 r hr), if_pos (show cs_in (nI x) 0 255 = true from cs_in_nI (k := x) (n := 255) (by omega) (by decide)), rc, hk, if_neg (by omega)]
  have es : cs_sApp S (nI r) (nI x) = cs_put S r (k + 1) (va_up (cs_by S r) k x) := by
    unfold cs_sApp
    rw [if_pos hk0, rc, xc, hk]
  have ev : cs_vApp S (nI r) = nI (k + 1) := by unfold cs_vApp; rw [rc, hk]
  refine cs_wcalli (vx_runSW (As := [.ref (ad 0), .int (nI r), .int (nI x)]) (rest := []) ⟨hx, hb, hml, hown, hts⟩ (k_L_added l hlf D S ad cy H.size hok.1 (nI r) (nI x) hk0) (vx_cwSW 3 hts gL_law_L_added rfl rfl rfl (by decide +kernel) ⟨(Nat.le_of_ble_eq_true rfl), (Nat.le_of_ble_eq_true rfl)⟩) ⟨cs_By.blind, cs_By.at hE hz hP hK hD⟩ rfl rfl hl.1 rfl (lv_room (Nat.le_of_ble_eq_true rfl)) dd ⟨by show cells + 3 ≤ 600074; omega, by show slots + 18 ≤ 7301550; omega⟩) hS9 hF (fun r9 u9 H locs hp hP1 hD1 hz1 hk1 hS9 => ?_)
  have hp : r9 = cs_vApp S (nI r) := hp
  subst hp
  have hok2 := cs_okk_app hok (nI r) (nI x)
  have hP1 : va_P D vwCl (cs_L (cs_sApp S (nI r) (nI x)) ad cy) H := hP1
  have hD2 : va_D (fun q => s.heap.size ≤ q) (cs_L (cs_sApp S (nI r) (nI x)) ad cy) := cs_Dup hD1 hF
  rw [es] at hok2 hP1 hD2
  rw [ev]
  exact kk H locs hok2 ⟨hP1, hD2, hS9⟩
set_option maxHeartbeats 4000000 in
set_option maxRecDepth 100000 in
theorem lw_ch (C0 : cs_C p l s m c b L xs D cy) (hok : cs_okk S) (hLS : cs_LS D s H locs S ad cy) (hl : lv_has ls 14 lv) {r j x : Nat} (hr : r < 4) (hx9 : x < 256) (hj : j < cs_ln S r) (hc : cells + 3 ≤ 600074) (hs : slots + 18 ≤ 7301550) (dd : decode cL_law pc = .ok (.invokestatic 64, 3))
    (kk : ∀ (H : Heap) (locs : List Loc), cs_okk (cs_put S r (cs_ln S r) (va_up (cs_by S r) j x)) → cs_LS D s H locs (cs_put S r (cs_ln S r) (va_up (cs_by S r) j x)) ad cy → W p l e room_1 s m #[.ref b] below meth c H locs (cells + 3) (slots + 18) Q (F0 m (pc + 3) ls [.int (nI (cs_by S r j))])) :
    W p l e room_1 s m #[.ref b] below meth c H locs cells slots Q (F0 m pc ls [.int (nI x), .int (nI j), .int (nI r), .ref (ad 0)]) := by
  obtain ⟨hx, hb, hml, hlf, hown, hts, -, -, -, hE, hz0, hK⟩ := C0
  obtain ⟨hP, hD, hS9⟩ := hLS
  have hF : ∀ q, va_A (cs_L S ad cy) H.size q → (fun q => s.heap.size ≤ q) q := cs_inW hD hS9 (fun _ h => h)
  have hz : cs_zz (va_A (cs_L S ad cy) H.size) s H := (hz0.kept (fun a h1 h2 => hS9.2.1 a h1 h2)).narrow hF
  have h8 := hok.1.2.2.1 r
  have rc : cs_c (nI r) = r := cs_cI (by omega)
  have xc : cs_c (nI x) = x := cs_cI (by omega)
  have jc : cs_c (nI j) = j := cs_cI (by omega)
  have hpl : cs_pl S (nI r) (nI j) = true := by
    rw [cs_pl_r hr]
    obtain ⟨n, hn⟩ : ∃ n, cs_ln S r = n + 1 := ⟨cs_ln S r - 1, by omega⟩
    rw [hn, nI_pred]
    exact cs_in_nI (by omega) (by omega)
  have hk0 : cs_kSet S (nI r) (nI j) (nI x) = 0 := cs_k2_0.mpr (by rw [hpl, show cs_in (nI x) 0 255 = true from cs_in_nI (k := x) (n := 255) (by omega) (by decide)]; rfl)
  have es : cs_sSet S (nI r) (nI j) (nI x) = cs_put S r (cs_ln S r) (va_up (cs_by S r) j x) := by
    unfold cs_sSet
    rw [if_pos hk0, rc, xc, jc]
  have ev : cs_vByt S (nI r) (nI j) = nI (cs_by S r j) := by unfold cs_vByt; rw [rc, jc]
  refine cs_wcalli (vx_runSW (As := [.ref (ad 0), .int (nI r), .int (nI j), .int (nI x)]) (rest := []) ⟨hx, hb, hml, hown, hts⟩ (k_L_changed l hlf D S ad cy H.size hok.1 (nI r) (nI j) (nI x) hk0) (vx_cwSW 4 hts gL_law_L_changed rfl rfl rfl (by decide +kernel) ⟨(Nat.le_of_ble_eq_true rfl), (Nat.le_of_ble_eq_true rfl)⟩) ⟨cs_By.blind, cs_By.at hE hz hP hK hD⟩ rfl rfl hl.1 rfl (lv_room (Nat.le_of_ble_eq_true rfl)) dd ⟨by show cells + 3 ≤ 600074; omega, by show slots + 18 ≤ 7301550; omega⟩) hS9 hF (fun r9 u9 H locs hp hP1 hD1 hz1 hk1 hS9 => ?_)
  have hp : r9 = cs_vByt S (nI r) (nI j) := hp
  subst hp
  have hok2 : cs_okk (cs_put S r (cs_ln S r) (va_up (cs_by S r) j x)) := cs_okk_put hok h8 (cs_up_lt (hok.1.2.2.2 r) hx9)
  have hP1 : va_P D vwCl (cs_L (cs_sSet S (nI r) (nI j) (nI x)) ad cy) H := hP1
  have hD2 : va_D (fun q => s.heap.size ≤ q) (cs_L (cs_sSet S (nI r) (nI j) (nI x)) ad cy) := cs_Dup hD1 hF
  rw [es] at hP1 hD2
  rw [ev]
  exact kk H locs hok2 ⟨hP1, hD2, hS9⟩
set_option maxHeartbeats 4000000 in
set_option maxRecDepth 100000 in
theorem lw_at (C0 : cs_C p l s m c b L xs D cy) (hok : cs_okk S) (hLS : cs_LS D s H locs S ad cy) (hl : lv_has ls 14 lv) {r j : Nat} (hr : r < 4) (hj : j < cs_ln S r) (hc : cells + 2 ≤ 600074) (hs : slots + 12 ≤ 7301550) (dd : decode cL_law pc = .ok (.invokestatic 61, 3))
    (kk : W p l e room_1 s m #[.ref b] below meth c H locs (cells + 2) (slots + 12) Q (F0 m (pc + 3) ls [.int (nI (cs_by S r j))])) :
    W p l e room_1 s m #[.ref b] below meth c H locs cells slots Q (F0 m pc ls [.int (nI j), .int (nI r), .ref (ad 0)]) := by
  obtain ⟨hx, hb, hml, hlf, hown, hts, -, -, -, hE, hz0, hK⟩ := C0
  obtain ⟨hP, hD, hS9⟩ := hLS
  have hz : cs_zz (fun q => H.size ≤ q) s H := (hz0.kept (fun a h1 h2 => hS9.2.1 a h1 h2)).narrow (fun q h => Nat.le_trans hS9.1 h)
  have h8 := hok.1.2.2.1 r
  have rc : cs_c (nI r) = r := cs_cI (by omega)
  have jc : cs_c (nI j) = j := cs_cI (by omega)
  have hpl : cs_pl S (nI r) (nI j) = true := by
    rw [cs_pl_r hr]
    obtain ⟨n, hn⟩ : ∃ n, cs_ln S r = n + 1 := ⟨cs_ln S r - 1, by omega⟩
    rw [hn, nI_pred]
    exact cs_in_nI (by omega) (by omega)
  have ev : cs_vByt S (nI r) (nI j) = nI (cs_by S r j) := by unfold cs_vByt; rw [rc, jc]
  refine cs_ncalli (vx_runSW (As := [.ref (ad 0), .int (nI r), .int (nI j)]) (rest := []) ⟨hx, hb, hml, hown, hts⟩ (k_L_at l hlf D S ad cy hok.1 (nI r) (nI j) (cs_k1_0.mpr hpl)) (vx_cwSW 3 hts gL_law_L_at rfl rfl rfl (by decide +kernel) ⟨(Nat.le_of_ble_eq_true rfl), (Nat.le_of_ble_eq_true rfl)⟩) ⟨cs_Bx.blind, cs_Bx.at hE hz hP hK⟩ rfl rfl hl.1 rfl (lv_room (Nat.le_of_ble_eq_true rfl)) dd ⟨by show cells + 2 ≤ 600074; omega, by show slots + 12 ≤ 7301550; omega⟩) (fun r9 e9 => ?_)
  subst e9
  rw [ev]
  exact kk
set_option maxHeartbeats 4000000 in
set_option maxRecDepth 100000 in
theorem lw_af (C0 : cs_C p l s m c b L xs D cy) (hok : cs_okk S) (hLS : cs_LS D s H locs S ad cy) (hl : lv_has ls 14 lv) {N : Nat} (hln : ∀ r, r < 4 → cs_ln S r = N) (hx4 : cs_x4 (cs_by S 0) (cs_by S 1) (cs_by S 2) (cs_by S 3) N) {t : Nat} (ht3 : t < 3) {mo : Nat} (hm : mo < cs_n S) {fr to : Nat} (hft : fr ≤ to) (hto : to ≤ N) (hc : cells + 12 ≤ 600074) (hs : slots + 72 ≤ 7301550) (dd : decode cL_law pc = .ok (.invokestatic 68, 3))
    (kk : W p l e room_1 s m #[.ref b] below meth c H locs (cells + 12) (slots + 72) Q (F0 m (pc + 3) ls [.int 1])) :
    W p l e room_1 s m #[.ref b] below meth c H locs cells slots Q (F0 m pc ls [.int (nI to), .int (nI fr), .int (nI mo), .int (nI t), .ref (ad 0)]) := by
  obtain ⟨hx, hb, hml, hlf, hown, hts, -, -, -, hE, hz0, hK⟩ := C0
  obtain ⟨hP, hD, hS9⟩ := hLS
  have hz : cs_zz (fun q => H.size ≤ q) s H := (hz0.kept (fun a h1 h2 => hS9.2.1 a h1 h2)).narrow (fun q h => Nat.le_trans hS9.1 h)
  refine cs_ncalli (va_runS (As := [.ref (ad 0), .int (nI t), .int (nI mo), .int (nI fr), .int (nI to)]) (rest := []) ⟨hx, hb, hml, hown, hts⟩ (k_L_isAffine l hlf D S ad cy hok.1 N hln hx4 t ht3 mo hm fr to hft hto) (va_cwS 5 hts gL_law_L_isAffine rfl rfl rfl (by decide +kernel) ⟨(Nat.le_of_ble_eq_true rfl), (Nat.le_of_ble_eq_true rfl)⟩) ⟨cs_Bx.blind, cs_Bx.at hE hz hP hK⟩ rfl rfl hl.1 rfl (lv_room (Nat.le_of_ble_eq_true rfl)) dd ⟨by show cells + 12 ≤ 600074; omega, by show slots + 72 ≤ 7301550; omega⟩) (fun r9 e9 => ?_)
  subst e9
  exact kk
end CSLW
end
section
section CSLO
variable {p : Program} {l : Launch} {e : Env} {s : State} {m : MethodId} {b : Nat} {below : List Frame} {meth : Method} {c : Code} {Q : State → Prop} {L : Nat} {xs : Nat → Int32} {D : va_G} {cy : Nat → ClassId}
set_option maxHeartbeats 4000000 in
set_option maxRecDepth 100000 in
theorem lw_l1 (C0 : cs_C p l s m c b L xs D cy) {a0 c1 s1 : Nat} (hc1 : c1 ≤ 600074) (hs1 : s1 ≤ 7301550)
    (kend : ∀ (S : cs_St) (ad : Nat → Nat) (H : Heap) (locs : List Loc) (ls : Array Slot), cs_okk S → cs_n S = 6 → (∀ r, cs_ln S r = 0) → ad 0 = a0 → cs_LS D s H locs S ad cy → lv_has ls 14 [(0, .ref b), (1, .ref a0), (2, .int (nI 1)), (3, .int (nI 6))] → W p l e room_1 s m #[.ref b] below meth c H locs c1 s1 Q (F0 m 115 ls [])) :
    ∀ (n k cells slots : Nat) (S : cs_St) (ad : Nat → Nat) (H : Heap) (locs : List Loc) (ls : Array Slot), k + n = 6 → cells + 5 * n ≤ c1 → slots + 32 * n ≤ s1 → cs_okk S → cs_n S = k → (∀ r, cs_ln S r = 0) → ad 0 = a0 → cs_LS D s H locs S ad cy → lv_has ls 14 [(0, .ref b), (1, .ref a0), (2, .int (nI 1)), (3, .int (nI k))] → W p l e room_1 s m #[.ref b] below meth c H locs cells slots Q (F0 m 12 ls []) := by
  obtain ⟨hx, hb, hml, -, hown, hts, -⟩ := id C0
  intro n
  induction n with
  | zero =>
    intro k cells slots S ad H locs ls hkn hc hs hok hn hl0 had hLS hl
    have hk6 : k = 6 := by omega
    subst hk6
    refine lv_iload_n hx hb dL_law_12 rfl (lv_at hl 3 rfl) ?_
    refine lv_bipush (v := nI 6) hx hb dL_law_13 (by decide) ?_
    exact lv_icmp_ge (tgt := 115) hx hb dL_law_15 (by decide) (fun _ => W.widen (by omega) (by omega) (kend S ad H locs ls hok hn hl0 had hLS hl)) (fun h => absurd (nI_le (Nat.le_refl _) (by decide)) h)
  | succ n ih =>
    intro k cells slots S ad H locs ls hkn hc hs hok hn hl0 had hLS hl
    refine lv_iload_n hx hb dL_law_12 rfl (lv_at hl 3 rfl) ?_
    refine lv_bipush (v := nI 6) hx hb dL_law_13 (by decide) ?_
    refine lv_icmp_ge (tgt := 115) hx hb dL_law_15 (by decide) (fun h => absurd h (nI_ge (by omega) (by decide))) (fun _ => ?_)
    refine lv_iload_n hx hb dL_law_18 rfl (lv_at hl 2 rfl) ?_
    refine lv_if_eq (tgt := 115) hx hb dL_law_19 (by decide) (fun h => absurd h (by decide)) (fun _ => ?_)
    refine lv_aload_n hx hb dL_law_22 rfl (lv_at hl 0 rfl) ?_
    refine lv_iload_n hx hb dL_law_23 rfl (lv_at hl 3 rfl) ?_
    refine lw_dr (rest := []) C0 hLS.2.2 hl (k := k) (by omega) (Nat.le_of_ble_eq_true rfl) (by omega) (by omega) dL_law_24 ?_
    have hz9 := cs_zn_lt L xs (k)
    generalize cs_zn L xs (k) = z at hz9 ⊢
    refine lv_istore (lv' := [(4, .int (nI z)), (0, .ref b), (1, .ref a0), (2, .int (nI 1)), (3, .int (nI k))]) hx hb dL_law_27 hl (by decide) rfl (fun ls hl => ?_)
    refine lv_iconst (v := nI 1) hx hb dL_law_29 (by decide) ?_
    refine lv_iload hx hb dL_law_30 (lv_at hl 0 rfl) ?_
    refine lv_bipush (v := nI 32) hx hb dL_law_32 (by decide) ?_
    refine lv_irem hx hb dL_law_34 (nI_ne0 (by omega) (by omega)) ?_
    refine cs_top (y := nI (z % 32)) (pk_rem (by omega) (by omega) (by omega)) ?_
    refine lv_iadd hx hb dL_law_35 ?_
    refine cs_top (y := nI (1 + (z % 32))) (nI_add 1 (z % 32)) ?_
    obtain ⟨wd, hwd0, hwd1, ewd⟩ : ∃ wd : Nat, 1 ≤ wd ∧ wd ≤ 32 ∧ 1 + (z % 32) = wd := ⟨_, by omega, by omega, rfl⟩
    refine cs_top (y := nI wd) (congrArg nI ewd) ?_
    refine lv_istore (lv' := [(5, .int (nI wd)), (4, .int (nI z)), (0, .ref b), (1, .ref a0), (2, .int (nI 1)), (3, .int (nI k))]) hx hb dL_law_36 hl (by decide) rfl (fun ls hl => ?_)
    refine lv_iload hx hb dL_law_38 (lv_at hl 0 rfl) ?_
    refine lv_bipush (v := nI 32) hx hb dL_law_40 (by decide) ?_
    have k55 : W p l e room_1 s m #[.ref b] below meth c H locs cells slots Q (F0 m 55 ls [.int (cs_mk wd)]) := by
      refine lv_istore (lv' := [(6, .int (cs_mk wd)), (5, .int (nI wd)), (4, .int (nI z)), (0, .ref b), (1, .ref a0), (2, .int (nI 1)), (3, .int (nI k))]) hx hb dL_law_55 hl (by decide) rfl (fun ls hl => ?_)
      refine lv_aload_n hx hb dL_law_57 rfl (lv_at hl 4 rfl) ?_
      refine lv_iload hx hb dL_law_58 (lv_at hl 1 rfl) ?_
      refine lv_iload hx hb dL_law_60 (lv_at hl 2 rfl) ?_
      refine lv_sipush (v := nI 128) hx hb dL_law_62 (by decide) ?_
      refine lv_idiv hx hb dL_law_65 (nI_ne0 (by omega) (by omega)) ?_
      refine cs_top (y := nI (z / 128)) (pk_div (by omega) (by omega) (by omega)) ?_
      refine lv_iconst (v := nI 5) hx hb dL_law_66 (by decide) ?_
      refine lv_imul hx hb dL_law_67 ?_
      refine lv_iload hx hb dL_law_68 (lv_at hl 0 rfl) ?_
      refine lv_iand hx hb dL_law_70 ?_
      refine lv_iload hx hb dL_law_71 (lv_at hl 2 rfl) ?_
      refine lv_iconst (v := nI 3) hx hb dL_law_73 (by decide) ?_
      refine lv_idiv hx hb dL_law_74 (nI_ne0 (by omega) (by omega)) ?_
      refine cs_top (y := nI (z / 3)) (pk_div (by omega) (by omega) (by omega)) ?_
      refine lv_iload hx hb dL_law_75 (lv_at hl 0 rfl) ?_
      refine lv_iand hx hb dL_law_77 ?_
      refine lv_iload hx hb dL_law_78 (lv_at hl 2 rfl) ?_
      refine lv_bipush (v := nI 32) hx hb dL_law_80 (by decide) ?_
      refine lv_idiv hx hb dL_law_82 (nI_ne0 (by omega) (by omega)) ?_
      refine cs_top (y := nI (z / 32)) (pk_div (by omega) (by omega) (by omega)) ?_
      refine lv_iconst (v := nI 4) hx hb dL_law_83 (by decide) ?_
      refine lv_irem hx hb dL_law_84 (nI_ne0 (by omega) (by omega)) ?_
      refine cs_top (y := nI ((z / 32) % 4)) (pk_rem (by omega) (by omega) (by omega)) ?_
      refine lv_iload hx hb dL_law_85 (lv_at hl 2 rfl) ?_
      refine lv_bipush (v := nI 7) hx hb dL_law_87 (by decide) ?_
      refine lv_idiv hx hb dL_law_89 (nI_ne0 (by omega) (by omega)) ?_
      refine cs_top (y := nI (z / 7)) (pk_div (by omega) (by omega) (by omega)) ?_
      refine lv_bipush (v := nI 11) hx hb dL_law_90 (by decide) ?_
      refine lv_imul hx hb dL_law_92 ?_
      refine lv_iload hx hb dL_law_93 (lv_at hl 0 rfl) ?_
      refine lv_iand hx hb dL_law_95 ?_
      subst had
      refine lw_md C0 hok hLS hl hwd0 hwd1 (nI (z / 128) * nI 5) (nI (z / 3)) (nI (z / 32 % 4)) (nI (z / 7) * nI 11) (by omega) (by omega) (by omega) dL_law_96 (fun S1 ad1 H locs hok hn1 hl1 had hLS => ?_)
      refine lv_iload_n hx hb dL_law_99 rfl (lv_at hl 6 rfl) ?_
      refine lv_icmp_ne (tgt := 107) hx hb dL_law_100 (by decide) (fun h => absurd (congrArg nI hn) h) (fun _ => ?_)
      refine lv_iconst (v := nI 1) hx hb dL_law_103 (by decide) ?_
      refine lv_goto (tgt := 108) hx hb dL_law_104 (by decide) ?_
      refine lv_istore_n (lv' := [(2, .int (nI 1)), (6, .int (cs_mk wd)), (5, .int (nI wd)), (4, .int (nI z)), (0, .ref b), (1, .ref (ad 0)), (3, .int (nI k))]) hx hb dL_law_108 rfl hl (by decide) rfl (fun ls hl => ?_)
      refine lv_iinc (v := nI (k + 1)) (lv' := [(3, .int (nI (k + 1))), (2, .int (nI 1)), (6, .int (cs_mk wd)), (5, .int (nI wd)), (4, .int (nI z)), (0, .ref b), (1, .ref (ad 0))]) hx hb dL_law_109 hl (k := 6) rfl (cs_inc1 k) (by decide) rfl (fun ls hl => ?_)
      refine lv_goto (tgt := 12) hx hb dL_law_112 (by decide) ?_
      exact ih (k + 1) (cells + 5) (slots + 32) S1 ad1 H locs ls (by omega) (by omega) (by omega) hok (by rw [hn1, hn]) (fun r => by rw [hl1]; exact hl0 r) had hLS (lv_sub hl [5, 6, 1, 0] rfl)
    refine lv_icmp_ne (tgt := 49) hx hb dL_law_42 (by decide) (fun h => ?_) (fun h => ?_)
    · have h32 : wd < 32 := by
        rcases Nat.lt_or_ge wd 32 with q | q
        · exact q
        · exact absurd (congrArg nI (show wd = 32 by omega)) h
      refine lv_iconst (v := 1) hx hb dL_law_49 (by decide) ?_
      refine lv_iload hx hb dL_law_50 (lv_at hl 0 rfl) ?_
      refine lv_ishl hx hb dL_law_52 ?_
      refine lv_iconst (v := 1) hx hb dL_law_53 (by decide) ?_
      refine lv_isub hx hb dL_law_54 ?_
      exact cs_top (cs_mkR wd h32 hwd0) k55
    · have h32 : wd = 32 := (nI_eq (by omega) (by decide)).mp h
      have e9 : cs_mk wd = -1 := by rw [h32]; decide
      refine lv_iconst (v := -1) hx hb dL_law_45 (by decide) ?_
      refine lv_goto (tgt := 55) hx hb dL_law_46 (by decide) ?_
      rw [← e9]
      exact k55
end CSLO
end
section
/-- the fourth row, in numbers -/
def cs_y4 (S : cs_St) (n : Nat) : Prop := ∀ j, j < n → cs_by S 3 j = cs_by S 0 j ^^^ cs_by S 1 j ^^^ cs_by S 2 j
theorem cs_y4x {S : cs_St} (hS : cs_ok S) {n : Nat} (h : cs_y4 S n) : cs_x4 (cs_by S 0) (cs_by S 1) (cs_by S 2) (cs_by S 3) n := fun j hj => by
  have h0 := hS.2.2.2 0 j
  have h1 := hS.2.2.2 1 j
  have h2 := hS.2.2.2 2 j
  have h3 := cs_x256 h0 h1
  rw [h j hj, cs_nIx (by omega) (by omega), cs_nIx (by omega) (by omega)]
theorem cs_xn0 (a b c v : Nat) : (a ^^^ b ^^^ c) ^^^ a ^^^ v = v ^^^ b ^^^ c := by
  apply Nat.eq_of_testBit_eq
  intro i
  simp only [Nat.testBit_xor]
  cases a.testBit i <;> cases b.testBit i <;> cases c.testBit i <;> cases v.testBit i <;> rfl
theorem cs_xn1 (a b c v : Nat) : (a ^^^ b ^^^ c) ^^^ b ^^^ v = a ^^^ v ^^^ c := by
  apply Nat.eq_of_testBit_eq
  intro i
  simp only [Nat.testBit_xor]
  cases a.testBit i <;> cases b.testBit i <;> cases c.testBit i <;> cases v.testBit i <;> rfl
theorem cs_xn2 (a b c v : Nat) : (a ^^^ b ^^^ c) ^^^ c ^^^ v = a ^^^ b ^^^ v := by
  apply Nat.eq_of_testBit_eq
  intro i
  simp only [Nat.testBit_xor]
  cases a.testBit i <;> cases b.testBit i <;> cases c.testBit i <;> cases v.testBit i <;> rfl
/-- a row longer by one byte -/
def cs_A (S S' : cs_St) (r k x : Nat) : Prop := cs_n S' = cs_n S ∧ cs_ln S' r = k + 1 ∧ (∀ q, q ≠ r → cs_ln S' q = cs_ln S q) ∧ cs_by S' r k = x ∧ (∀ j, j ≠ k → cs_by S' r j = cs_by S r j) ∧ (∀ q, q ≠ r → cs_by S' q = cs_by S q)
theorem cs_Aput (S : cs_St) (r k x : Nat) : cs_A S (cs_put S r (k + 1) (va_up (cs_by S r) k x)) r k x := by
  refine ⟨rfl, cs_put_ln, fun q h => cs_put_lnN h, ?_, fun j h => ?_, fun q h => cs_put_byN h⟩
  · rw [cs_put_by, va_up_self]
  · rw [cs_put_by, va_up_ne _ _ h]
/-- a byte changed -/
def cs_G (S S' : cs_St) (r k x : Nat) : Prop := cs_n S' = cs_n S ∧ (∀ q, cs_ln S' q = cs_ln S q) ∧ cs_by S' r k = x ∧ (∀ j, j ≠ k → cs_by S' r j = cs_by S r j) ∧ (∀ q, q ≠ r → cs_by S' q = cs_by S q)
theorem cs_Gput (S : cs_St) (r k x : Nat) : cs_G S (cs_put S r (cs_ln S r) (va_up (cs_by S r) k x)) r k x := by
  refine ⟨rfl, fun q => ?_, ?_, fun j h => ?_, fun q h => cs_put_byN h⟩
  · by_cases h : q = r
    · rw [h, cs_put_ln]
    · exact cs_put_lnN h
  · rw [cs_put_by, va_up_self]
  · rw [cs_put_by, va_up_ne _ _ h]
theorem cs_A4 {S S1 S2 S3 S4 : cs_St} {k x y z u : Nat} (h1 : cs_A S S1 0 k x) (h2 : cs_A S1 S2 1 k y) (h3 : cs_A S2 S3 2 k z) (h4 : cs_A S3 S4 3 k u) (hu : u = x ^^^ y ^^^ z) (hy : cs_y4 S k) : cs_n S4 = cs_n S ∧ (∀ r, r < 4 → cs_ln S4 r = k + 1) ∧ cs_y4 S4 (k + 1) := by
  obtain ⟨a1, b1, c1, d1, e1, f1⟩ := h1
  obtain ⟨a2, b2, c2, d2, e2, f2⟩ := h2
  obtain ⟨a3, b3, c3, d3, e3, f3⟩ := h3
  obtain ⟨a4, b4, c4, d4, e4, f4⟩ := h4
  refine ⟨by omega, fun r hr => ?_, fun j hj => ?_⟩
  · rcases (show r = 0 ∨ r = 1 ∨ r = 2 ∨ r = 3 by omega) with rfl | rfl | rfl | rfl
    · rw [c4 0 (by decide), c3 0 (by decide), c2 0 (by decide), b1]
    · rw [c4 1 (by decide), c3 1 (by decide), b2]
    · rw [c4 2 (by decide), b3]
    · exact b4
  · rw [f4 0 (by decide), f3 0 (by decide), f2 0 (by decide), f4 1 (by decide), f3 1 (by decide), f4 2 (by decide)]
    by_cases q : j = k
    · subst q
      rw [d4, d3, d2, d1, hu]
    · rw [e4 j q, e3 j q, e2 j q, e1 j q, f3 3 (by decide), f2 3 (by decide), f1 3 (by decide), f2 2 (by decide), f1 2 (by decide), f1 1 (by decide)]
      exact hy j (by omega)
theorem cs_G2 {S S1 S2 : cs_St} {r i v u N : Nat} (hr : r < 3) (hi : i < N) (h1 : cs_G S S1 r i v) (h2 : cs_G S1 S2 3 i u) (hu : u = cs_by S 3 i ^^^ cs_by S r i ^^^ v) (hy : cs_y4 S N) : cs_n S2 = cs_n S ∧ (∀ r, cs_ln S2 r = cs_ln S r) ∧ cs_y4 S2 N := by
  obtain ⟨a1, b1, c1, d1, e1⟩ := h1
  obtain ⟨a2, b2, c2, d2, e2⟩ := h2
  refine ⟨by omega, fun r => by rw [b2, b1], fun j hj => ?_⟩
  rw [e2 0 (by decide), e2 1 (by decide), e2 2 (by decide)]
  by_cases q : j = i
  · subst q
    rw [c2, hu, hy j hi]
    rcases (show r = 0 ∨ r = 1 ∨ r = 2 by omega) with rfl | rfl | rfl
    · rw [c1, e1 1 (by decide), e1 2 (by decide)]
      exact cs_xn0 _ _ _ _
    · rw [c1, e1 0 (by decide), e1 2 (by decide)]
      exact cs_xn1 _ _ _ _
    · rw [c1, e1 0 (by decide), e1 1 (by decide)]
      exact cs_xn2 _ _ _ _
  · rw [d2 j q, e1 3 (by omega), hy j hj]
    rcases (show r = 0 ∨ r = 1 ∨ r = 2 by omega) with rfl | rfl | rfl
    · rw [d1 j q, e1 1 (by decide), e1 2 (by decide)]
    · rw [d1 j q, e1 0 (by decide), e1 2 (by decide)]
    · rw [d1 j q, e1 0 (by decide), e1 1 (by decide)]
section CSLO
variable {p : Program} {l : Launch} {e : Env} {s : State} {m : MethodId} {b : Nat} {below : List Frame} {meth : Method} {c : Code} {Q : State → Prop} {L : Nat} {xs : Nat → Int32} {D : va_G} {cy : Nat → ClassId}
set_option maxHeartbeats 4000000 in
set_option maxRecDepth 100000 in
theorem lw_l2 (C0 : cs_C p l s m c b L xs D cy) {ad : Nat → Nat} {N c1 s1 : Nat} (hN : N ≤ 40) (hc1 : c1 ≤ 600074) (hs1 : s1 ≤ 7301550)
    (kend : ∀ (S : cs_St) (H : Heap) (locs : List Loc) (ls : Array Slot), cs_okk S → cs_n S = 6 → (∀ r, r < 4 → cs_ln S r = N) → cs_y4 S N → cs_LS D s H locs S ad cy → lv_has ls 14 [(0, .ref b), (1, .ref (ad 0)), (2, .int (nI 1)), (3, .int (nI N)), (4, .int (nI N))] → W p l e room_1 s m #[.ref b] below meth c H locs c1 s1 Q (F0 m 256 ls [])) :
    ∀ (n k cells slots : Nat) (S : cs_St) (H : Heap) (locs : List Loc) (ls : Array Slot), k + n = N → cells + 12 * n ≤ c1 → slots + 72 * n ≤ s1 → cs_okk S → cs_n S = 6 → (∀ r, r < 4 → cs_ln S r = k) → cs_y4 S k → cs_LS D s H locs S ad cy → lv_has ls 14 [(0, .ref b), (1, .ref (ad 0)), (2, .int (nI 1)), (3, .int (nI N)), (4, .int (nI k))] → W p l e room_1 s m #[.ref b] below meth c H locs cells slots Q (F0 m 130 ls []) := by
  obtain ⟨hx, hb, hml, -, hown, hts, -⟩ := id C0
  intro n
  induction n with
  | zero =>
    intro k cells slots S H locs ls hkn hc hs hok hn hln hy hLS hl
    have hk6 : k = N := by omega
    subst hk6
    refine lv_iload hx hb dL_law_130 (lv_at hl 4 rfl) ?_
    refine lv_iload_n hx hb dL_law_132 rfl (lv_at hl 3 rfl) ?_
    exact lv_icmp_ge (tgt := 256) hx hb dL_law_133 (by decide) (fun _ => W.widen (by omega) (by omega) (kend S H locs ls hok hn hln hy hLS hl)) (fun h => absurd (nI_le (Nat.le_refl _) (by omega)) h)
  | succ n ih =>
    intro k cells slots S H locs ls hkn hc hs hok hn hln hy hLS hl
    refine lv_iload hx hb dL_law_130 (lv_at hl 4 rfl) ?_
    refine lv_iload_n hx hb dL_law_132 rfl (lv_at hl 3 rfl) ?_
    refine lv_icmp_ge (tgt := 256) hx hb dL_law_133 (by decide) (fun h => absurd h (nI_ge (by omega) (by omega))) (fun _ => ?_)
    refine lv_iload_n hx hb dL_law_136 rfl (lv_at hl 2 rfl) ?_
    refine lv_if_eq (tgt := 256) hx hb dL_law_137 (by decide) (fun h => absurd h (by decide)) (fun _ => ?_)
    refine lv_aload_n hx hb dL_law_140 rfl (lv_at hl 0 rfl) ?_
    refine lv_bipush (v := nI 7) hx hb dL_law_141 (by decide) ?_
    refine lv_iload hx hb dL_law_143 (lv_at hl 4 rfl) ?_
    refine lv_iadd hx hb dL_law_145 ?_
    refine cs_top (y := nI (7 + k)) (nI_add 7 k) ?_
    refine lw_dr (rest := []) C0 hLS.2.2 hl (k := 7 + k) (by omega) (Nat.le_of_ble_eq_true rfl) (by omega) (by omega) dL_law_146 ?_
    have hz9 := cs_zn_lt L xs (7 + k)
    generalize cs_zn L xs (7 + k) = z at hz9 ⊢
    refine lv_istore (lv' := [(5, .int (nI z)), (0, .ref b), (1, .ref (ad 0)), (2, .int (nI 1)), (3, .int (nI N)), (4, .int (nI k))]) hx hb dL_law_149 hl (by decide) rfl (fun ls hl => ?_)
    refine lv_iload hx hb dL_law_151 (lv_at hl 0 rfl) ?_
    refine lv_sipush (v := nI 256) hx hb dL_law_153 (by decide) ?_
    refine lv_irem hx hb dL_law_156 (nI_ne0 (by omega) (by omega)) ?_
    refine cs_top (y := nI (z % 256)) (pk_rem (by omega) (by omega) (by omega)) ?_
    obtain ⟨ya, hya0, eya⟩ : ∃ ya : Nat, ya < 256 ∧ z % 256 = ya := ⟨_, Nat.mod_lt _ (by decide), rfl⟩
    refine cs_top (y := nI ya) (congrArg nI eya) ?_
    refine lv_istore (lv' := [(6, .int (nI ya)), (5, .int (nI z)), (0, .ref b), (1, .ref (ad 0)), (2, .int (nI 1)), (3, .int (nI N)), (4, .int (nI k))]) hx hb dL_law_157 hl (by decide) rfl (fun ls hl => ?_)
    refine lv_iload hx hb dL_law_159 (lv_at hl 1 rfl) ?_
    refine lv_sipush (v := nI 256) hx hb dL_law_161 (by decide) ?_
    refine lv_idiv hx hb dL_law_164 (nI_ne0 (by omega) (by omega)) ?_
    refine cs_top (y := nI (z / 256)) (pk_div (by omega) (by omega) (by omega)) ?_
    refine lv_sipush (v := nI 256) hx hb dL_law_165 (by decide) ?_
    refine lv_irem hx hb dL_law_168 (nI_ne0 (by omega) (by omega)) ?_
    refine cs_top (y := nI ((z / 256) % 256)) (pk_rem (by omega) (by omega) (by omega)) ?_
    obtain ⟨yb, hyb0, eyb⟩ : ∃ yb : Nat, yb < 256 ∧ (z / 256) % 256 = yb := ⟨_, Nat.mod_lt _ (by decide), rfl⟩
    refine cs_top (y := nI yb) (congrArg nI eyb) ?_
    refine lv_istore (lv' := [(7, .int (nI yb)), (6, .int (nI ya)), (5, .int (nI z)), (0, .ref b), (1, .ref (ad 0)), (2, .int (nI 1)), (3, .int (nI N)), (4, .int (nI k))]) hx hb dL_law_169 hl (by decide) rfl (fun ls hl => ?_)
    refine lv_iload hx hb dL_law_171 (lv_at hl 2 rfl) ?_
    refine lv_ldc (v := nI 65536) hx hb hown (hts (.constant RL 56 (nI 65536)) (by decide +kernel)) dL_law_173 ?_
    refine lv_idiv hx hb dL_law_175 (nI_ne0 (by omega) (by omega)) ?_
    refine cs_top (y := nI (z / 65536)) (pk_div (by omega) (by omega) (by omega)) ?_
    refine lv_sipush (v := nI 256) hx hb dL_law_176 (by decide) ?_
    refine lv_irem hx hb dL_law_179 (nI_ne0 (by omega) (by omega)) ?_
    refine cs_top (y := nI ((z / 65536) % 256)) (pk_rem (by omega) (by omega) (by omega)) ?_
    obtain ⟨yc, hyc0, eyc⟩ : ∃ yc : Nat, yc < 256 ∧ (z / 65536) % 256 = yc := ⟨_, Nat.mod_lt _ (by decide), rfl⟩
    refine cs_top (y := nI yc) (congrArg nI eyc) ?_
    refine lv_istore (lv' := [(8, .int (nI yc)), (7, .int (nI yb)), (6, .int (nI ya)), (5, .int (nI z)), (0, .ref b), (1, .ref (ad 0)), (2, .int (nI 1)), (3, .int (nI N)), (4, .int (nI k))]) hx hb dL_law_180 hl (by decide) rfl (fun ls hl => ?_)
    refine lv_aload_n hx hb dL_law_182 rfl (lv_at hl 5 rfl) ?_
    refine lv_iconst (v := nI 0) hx hb dL_law_183 (by decide) ?_
    refine lv_iload hx hb dL_law_184 (lv_at hl 2 rfl) ?_
    refine lw_ad C0 hok hLS hl (r := 0) (x := ya) (k := k) (by decide) hya0 (hln 0 (by decide)) (by omega) (by omega) (by omega) dL_law_186 (fun H locs hok hLS => ?_)
    have hA1 := cs_Aput S 0 k ya
    generalize cs_put S 0 (k + 1) (va_up (cs_by S 0) k ya) = S1 at hok hLS hA1
    refine lv_iload hx hb dL_law_189 (lv_at hl 8 rfl) ?_
    refine lv_iconst (v := nI 1) hx hb dL_law_191 (by decide) ?_
    refine lv_iadd hx hb dL_law_192 ?_
    refine cs_top (y := nI (k + 1)) (nI_add k 1) ?_
    refine lv_icmp_ne (tgt := 248) hx hb dL_law_193 (by decide) (fun h => absurd (rfl) h) (fun _ => ?_)
    refine lv_aload_n hx hb dL_law_196 rfl (lv_at hl 5 rfl) ?_
    refine lv_iconst (v := nI 1) hx hb dL_law_197 (by decide) ?_
    refine lv_iload hx hb dL_law_198 (lv_at hl 1 rfl) ?_
    refine lw_ad C0 hok hLS hl (r := 1) (x := yb) (k := k) (by decide) hyb0 ((hA1.2.2.1 1 (by decide)).trans (hln 1 (by decide))) (by omega) (by omega) (by omega) dL_law_200 (fun H locs hok hLS => ?_)
    have hA2 := cs_Aput S1 1 k yb
    generalize cs_put S1 1 (k + 1) (va_up (cs_by S1 1) k yb) = S2 at hok hLS hA2
    refine lv_iload hx hb dL_law_203 (lv_at hl 8 rfl) ?_
    refine lv_iconst (v := nI 1) hx hb dL_law_205 (by decide) ?_
    refine lv_iadd hx hb dL_law_206 ?_
    refine cs_top (y := nI (k + 1)) (nI_add k 1) ?_
    refine lv_icmp_ne (tgt := 248) hx hb dL_law_207 (by decide) (fun h => absurd (rfl) h) (fun _ => ?_)
    refine lv_aload_n hx hb dL_law_210 rfl (lv_at hl 5 rfl) ?_
    refine lv_iconst (v := nI 2) hx hb dL_law_211 (by decide) ?_
    refine lv_iload hx hb dL_law_212 (lv_at hl 0 rfl) ?_
    refine lw_ad C0 hok hLS hl (r := 2) (x := yc) (k := k) (by decide) hyc0 ((hA2.2.2.1 2 (by decide)).trans ((hA1.2.2.1 2 (by decide)).trans (hln 2 (by decide)))) (by omega) (by omega) (by omega) dL_law_214 (fun H locs hok hLS => ?_)
    have hA3 := cs_Aput S2 2 k yc
    generalize cs_put S2 2 (k + 1) (va_up (cs_by S2 2) k yc) = S3 at hok hLS hA3
    refine lv_iload hx hb dL_law_217 (lv_at hl 8 rfl) ?_
    refine lv_iconst (v := nI 1) hx hb dL_law_219 (by decide) ?_
    refine lv_iadd hx hb dL_law_220 ?_
    refine cs_top (y := nI (k + 1)) (nI_add k 1) ?_
    refine lv_icmp_ne (tgt := 248) hx hb dL_law_221 (by decide) (fun h => absurd (rfl) h) (fun _ => ?_)
    refine lv_aload_n hx hb dL_law_224 rfl (lv_at hl 5 rfl) ?_
    refine lv_iconst (v := nI 3) hx hb dL_law_225 (by decide) ?_
    refine lv_iload hx hb dL_law_226 (lv_at hl 2 rfl) ?_
    refine lv_iload hx hb dL_law_228 (lv_at hl 1 rfl) ?_
    refine lv_ixor hx hb dL_law_230 ?_
    refine cs_top (y := nI (ya ^^^ yb)) (cs_nIx (by omega) (by omega)) ?_
    obtain ⟨u1, hu10, eu1⟩ : ∃ u1 : Nat, u1 < 256 ∧ ya ^^^ yb = u1 := ⟨_, cs_x256 hya0 hyb0, rfl⟩
    refine cs_top (y := nI u1) (congrArg nI eu1) ?_
    refine lv_iload hx hb dL_law_231 (lv_at hl 0 rfl) ?_
    refine lv_ixor hx hb dL_law_233 ?_
    refine cs_top (y := nI (u1 ^^^ yc)) (cs_nIx (by omega) (by omega)) ?_
    obtain ⟨u2, hu20, eu2⟩ : ∃ u2 : Nat, u2 < 256 ∧ u1 ^^^ yc = u2 := ⟨_, cs_x256 hu10 hyc0, rfl⟩
    refine cs_top (y := nI u2) (congrArg nI eu2) ?_
    refine lw_ad C0 hok hLS hl (r := 3) (x := u2) (k := k) (by decide) hu20 ((hA3.2.2.1 3 (by decide)).trans ((hA2.2.2.1 3 (by decide)).trans ((hA1.2.2.1 3 (by decide)).trans (hln 3 (by decide))))) (by omega) (by omega) (by omega) dL_law_234 (fun H locs hok hLS => ?_)
    have hA4 := cs_Aput S3 3 k u2
    generalize cs_put S3 3 (k + 1) (va_up (cs_by S3 3) k u2) = S4 at hok hLS hA4
    refine lv_iload hx hb dL_law_237 (lv_at hl 8 rfl) ?_
    refine lv_iconst (v := nI 1) hx hb dL_law_239 (by decide) ?_
    refine lv_iadd hx hb dL_law_240 ?_
    refine cs_top (y := nI (k + 1)) (nI_add k 1) ?_
    refine lv_icmp_ne (tgt := 248) hx hb dL_law_241 (by decide) (fun h => absurd (rfl) h) (fun _ => ?_)
    refine lv_iconst (v := nI 1) hx hb dL_law_244 (by decide) ?_
    refine lv_goto (tgt := 249) hx hb dL_law_245 (by decide) ?_
    refine lv_istore_n (lv' := [(2, .int (nI 1)), (8, .int (nI yc)), (7, .int (nI yb)), (6, .int (nI ya)), (5, .int (nI z)), (0, .ref b), (1, .ref (ad 0)), (3, .int (nI N)), (4, .int (nI k))]) hx hb dL_law_249 rfl hl (by decide) rfl (fun ls hl => ?_)
    refine lv_iinc (v := nI (k + 1)) (lv' := [(4, .int (nI (k + 1))), (2, .int (nI 1)), (8, .int (nI yc)), (7, .int (nI yb)), (6, .int (nI ya)), (5, .int (nI z)), (0, .ref b), (1, .ref (ad 0)), (3, .int (nI N))]) hx hb dL_law_250 hl (k := 8) rfl (cs_inc1 k) (by decide) rfl (fun ls hl => ?_)
    refine lv_goto (tgt := 130) hx hb dL_law_253 (by decide) ?_
    obtain ⟨hn4, hln4, hy4⟩ := cs_A4 hA1 hA2 hA3 hA4 (by rw [← eu2, ← eu1]) hy
    exact ih (k + 1) (cells + 3 + 3 + 3 + 3) (slots + 18 + 18 + 18 + 18) S4 H locs ls (by omega) (by omega) (by omega) hok (hn4.trans hn) hln4 hy4 hLS (lv_sub hl [6, 7, 1, 8, 0] rfl)
end CSLO
end
section
section CSLO
variable {p : Program} {l : Launch} {e : Env} {s : State} {m : MethodId} {b : Nat} {below : List Frame} {meth : Method} {c : Code} {Q : State → Prop} {L : Nat} {xs : Nat → Int32} {D : va_G} {cy : Nat → ClassId}
set_option maxHeartbeats 4000000 in
set_option maxRecDepth 100000 in
theorem lw_l3 (C0 : cs_C p l s m c b L xs D cy) {ad : Nat → Nat} {N c1 s1 : Nat} (hN0 : 1 ≤ N) (hN : N ≤ 40) (hc1 : c1 ≤ 600074) (hs1 : s1 ≤ 7301550)
    (kend : ∀ (H : Heap) (locs : List Loc) (ls : Array Slot), va_S (fun q => s.heap.size ≤ q) s.heap H locs → lv_has ls 14 [(0, .ref b), (1, .ref (ad 0)), (2, .int (nI 1)), (3, .int (nI N)), (4, .int (nI 30))] → W p l e room_1 s m #[.ref b] below meth c H locs c1 s1 Q (F0 m 471 ls [])) :
    ∀ (n k cells slots : Nat) (S : cs_St) (H : Heap) (locs : List Loc) (ls : Array Slot), k + n = 30 → cells + 46 * n ≤ c1 → slots + 276 * n ≤ s1 → cs_okk S → cs_n S = 6 → (∀ r, r < 4 → cs_ln S r = N) → cs_y4 S N → cs_LS D s H locs S ad cy → lv_has ls 14 [(0, .ref b), (1, .ref (ad 0)), (2, .int (nI 1)), (3, .int (nI N)), (4, .int (nI k))] → W p l e room_1 s m #[.ref b] below meth c H locs cells slots Q (F0 m 259 ls []) := by
  obtain ⟨hx, hb, hml, -, hown, hts, -⟩ := id C0
  intro n
  induction n with
  | zero =>
    intro k cells slots S H locs ls hkn hc hs hok hn hln hy hLS hl
    have hk6 : k = 30 := by omega
    subst hk6
    refine lv_iload hx hb dL_law_259 (lv_at hl 4 rfl) ?_
    refine lv_bipush (v := nI 30) hx hb dL_law_261 (by decide) ?_
    exact lv_icmp_ge (tgt := 471) hx hb dL_law_263 (by decide) (fun _ => W.widen (by omega) (by omega) (kend H locs ls hLS.2.2 hl)) (fun h => absurd (nI_le (Nat.le_refl _) (by decide)) h)
  | succ n ih =>
    intro k cells slots S H locs ls hkn hc hs hok hn hln hy hLS hl
    refine lv_iload hx hb dL_law_259 (lv_at hl 4 rfl) ?_
    refine lv_bipush (v := nI 30) hx hb dL_law_261 (by decide) ?_
    refine lv_icmp_ge (tgt := 471) hx hb dL_law_263 (by decide) (fun h => absurd h (nI_ge (by omega) (by decide))) (fun _ => ?_)
    refine lv_iload_n hx hb dL_law_266 rfl (lv_at hl 2 rfl) ?_
    refine lv_if_eq (tgt := 471) hx hb dL_law_267 (by decide) (fun h => absurd h (by decide)) (fun _ => ?_)
    refine lv_aload_n hx hb dL_law_270 rfl (lv_at hl 0 rfl) ?_
    refine lv_bipush (v := nI 20) hx hb dL_law_271 (by decide) ?_
    refine lv_iload hx hb dL_law_273 (lv_at hl 4 rfl) ?_
    refine lv_iadd hx hb dL_law_275 ?_
    refine cs_top (y := nI (20 + k)) (nI_add 20 k) ?_
    refine lw_dr (rest := []) C0 hLS.2.2 hl (k := 20 + k) (by omega) (Nat.le_of_ble_eq_true rfl) (by omega) (by omega) dL_law_276 ?_
    have hz9 := cs_zn_lt L xs (20 + k)
    generalize cs_zn L xs (20 + k) = z at hz9 ⊢
    refine lv_istore (lv' := [(5, .int (nI z)), (0, .ref b), (1, .ref (ad 0)), (2, .int (nI 1)), (3, .int (nI N)), (4, .int (nI k))]) hx hb dL_law_279 hl (by decide) rfl (fun ls hl => ?_)
    refine lv_iload hx hb dL_law_281 (lv_at hl 0 rfl) ?_
    refine lv_bipush (v := nI 6) hx hb dL_law_283 (by decide) ?_
    refine lv_irem hx hb dL_law_285 (nI_ne0 (by omega) (by omega)) ?_
    refine cs_top (y := nI (z % 6)) (pk_rem (by omega) (by omega) (by omega)) ?_
    obtain ⟨mo, hmo0, emo⟩ : ∃ mo : Nat, mo < 6 ∧ z % 6 = mo := ⟨_, Nat.mod_lt _ (by decide), rfl⟩
    refine cs_top (y := nI mo) (congrArg nI emo) ?_
    refine lv_istore (lv' := [(6, .int (nI mo)), (5, .int (nI z)), (0, .ref b), (1, .ref (ad 0)), (2, .int (nI 1)), (3, .int (nI N)), (4, .int (nI k))]) hx hb dL_law_286 hl (by decide) rfl (fun ls hl => ?_)
    refine lv_iload hx hb dL_law_288 (lv_at hl 1 rfl) ?_
    refine lv_bipush (v := nI 6) hx hb dL_law_290 (by decide) ?_
    refine lv_idiv hx hb dL_law_292 (nI_ne0 (by omega) (by omega)) ?_
    refine cs_top (y := nI (z / 6)) (pk_div (by omega) (by omega) (by omega)) ?_
    refine lv_iload_n hx hb dL_law_293 rfl (lv_at hl 5 rfl) ?_
    refine lv_iconst (v := nI 1) hx hb dL_law_294 (by decide) ?_
    refine lv_iadd hx hb dL_law_295 ?_
    refine cs_top (y := nI (N + 1)) (nI_add N 1) ?_
    refine lv_irem hx hb dL_law_296 (nI_ne0 (by omega) (by omega)) ?_
    refine cs_top (y := nI ((z / 6) % (N + 1))) (pk_rem (by omega) (by omega) (by omega)) ?_
    obtain ⟨fr, hfr0, efr⟩ : ∃ fr : Nat, fr ≤ N ∧ (z / 6) % (N + 1) = fr := ⟨_, Nat.le_of_lt_succ (Nat.mod_lt _ (by omega)), rfl⟩
    refine cs_top (y := nI fr) (congrArg nI efr) ?_
    refine lv_istore (lv' := [(7, .int (nI fr)), (6, .int (nI mo)), (5, .int (nI z)), (0, .ref b), (1, .ref (ad 0)), (2, .int (nI 1)), (3, .int (nI N)), (4, .int (nI k))]) hx hb dL_law_297 hl (by decide) rfl (fun ls hl => ?_)
    refine lv_iload hx hb dL_law_299 (lv_at hl 0 rfl) ?_
    refine lv_iload hx hb dL_law_301 (lv_at hl 2 rfl) ?_
    refine lv_sipush (v := nI 300) hx hb dL_law_303 (by decide) ?_
    refine lv_idiv hx hb dL_law_306 (nI_ne0 (by omega) (by omega)) ?_
    refine cs_top (y := nI (z / 300)) (pk_div (by omega) (by omega) (by omega)) ?_
    refine lv_iload_n hx hb dL_law_307 rfl (lv_at hl 6 rfl) ?_
    refine lv_iload hx hb dL_law_308 (lv_at hl 0 rfl) ?_
    refine lv_isub hx hb dL_law_310 ?_
    refine cs_top (y := nI (N - fr)) (pk_sub (by omega)) ?_
    refine lv_iconst (v := nI 1) hx hb dL_law_311 (by decide) ?_
    refine lv_iadd hx hb dL_law_312 ?_
    refine cs_top (y := nI ((N - fr) + 1)) (nI_add (N - fr) 1) ?_
    refine lv_irem hx hb dL_law_313 (nI_ne0 (by omega) (by omega)) ?_
    refine cs_top (y := nI ((z / 300) % ((N - fr) + 1))) (pk_rem (by omega) (by omega) (by omega)) ?_
    obtain ⟨tw, htw0, etw⟩ : ∃ tw : Nat, tw ≤ N - fr ∧ (z / 300) % ((N - fr) + 1) = tw := ⟨_, Nat.le_of_lt_succ (Nat.mod_lt _ (by omega)), rfl⟩
    refine cs_top (y := nI tw) (congrArg nI etw) ?_
    refine lv_iadd hx hb dL_law_314 ?_
    refine cs_top (y := nI (fr + tw)) (nI_add fr tw) ?_
    obtain ⟨to, hto0, hto1, eto⟩ : ∃ to : Nat, fr ≤ to ∧ to ≤ N ∧ fr + tw = to := ⟨_, by omega, by omega, rfl⟩
    refine cs_top (y := nI to) (congrArg nI eto) ?_
    refine lv_istore (lv' := [(8, .int (nI to)), (7, .int (nI fr)), (6, .int (nI mo)), (5, .int (nI z)), (0, .ref b), (1, .ref (ad 0)), (2, .int (nI 1)), (3, .int (nI N)), (4, .int (nI k))]) hx hb dL_law_315 hl (by decide) rfl (fun ls hl => ?_)
    refine lv_iload hx hb dL_law_317 (lv_at hl 3 rfl) ?_
    refine lv_bipush (v := nI 41) hx hb dL_law_319 (by decide) ?_
    refine lv_idiv hx hb dL_law_321 (nI_ne0 (by omega) (by omega)) ?_
    refine cs_top (y := nI (z / 41)) (pk_div (by omega) (by omega) (by omega)) ?_
    refine lv_iload_n hx hb dL_law_322 rfl (lv_at hl 7 rfl) ?_
    refine lv_irem hx hb dL_law_323 (nI_ne0 (by omega) (by omega)) ?_
    refine cs_top (y := nI ((z / 41) % N)) (pk_rem (by omega) (by omega) (by omega)) ?_
    obtain ⟨ix, hix0, eix⟩ : ∃ ix : Nat, ix < N ∧ (z / 41) % N = ix := ⟨_, Nat.mod_lt _ (by omega), rfl⟩
    refine cs_top (y := nI ix) (congrArg nI eix) ?_
    refine lv_istore (lv' := [(9, .int (nI ix)), (8, .int (nI to)), (7, .int (nI fr)), (6, .int (nI mo)), (5, .int (nI z)), (0, .ref b), (1, .ref (ad 0)), (2, .int (nI 1)), (3, .int (nI N)), (4, .int (nI k))]) hx hb dL_law_324 hl (by decide) rfl (fun ls hl => ?_)
    refine lv_iload hx hb dL_law_326 (lv_at hl 4 rfl) ?_
    refine lv_sipush (v := nI 2500) hx hb dL_law_328 (by decide) ?_
    refine lv_idiv hx hb dL_law_331 (nI_ne0 (by omega) (by omega)) ?_
    refine cs_top (y := nI (z / 2500)) (pk_div (by omega) (by omega) (by omega)) ?_
    refine lv_sipush (v := nI 256) hx hb dL_law_332 (by decide) ?_
    refine lv_irem hx hb dL_law_335 (nI_ne0 (by omega) (by omega)) ?_
    refine cs_top (y := nI ((z / 2500) % 256)) (pk_rem (by omega) (by omega) (by omega)) ?_
    obtain ⟨va, hva0, eva⟩ : ∃ va : Nat, va < 256 ∧ (z / 2500) % 256 = va := ⟨_, Nat.mod_lt _ (by decide), rfl⟩
    refine cs_top (y := nI va) (congrArg nI eva) ?_
    refine lv_istore (lv' := [(10, .int (nI va)), (9, .int (nI ix)), (8, .int (nI to)), (7, .int (nI fr)), (6, .int (nI mo)), (5, .int (nI z)), (0, .ref b), (1, .ref (ad 0)), (2, .int (nI 1)), (3, .int (nI N)), (4, .int (nI k))]) hx hb dL_law_336 hl (by decide) rfl (fun ls hl => ?_)
    refine lv_iload hx hb dL_law_338 (lv_at hl 5 rfl) ?_
    refine lv_bipush (v := nI 11) hx hb dL_law_340 (by decide) ?_
    refine lv_idiv hx hb dL_law_342 (nI_ne0 (by omega) (by omega)) ?_
    refine cs_top (y := nI (z / 11)) (pk_div (by omega) (by omega) (by omega)) ?_
    refine lv_iconst (v := nI 3) hx hb dL_law_343 (by decide) ?_
    refine lv_irem hx hb dL_law_344 (nI_ne0 (by omega) (by omega)) ?_
    refine cs_top (y := nI ((z / 11) % 3)) (pk_rem (by omega) (by omega) (by omega)) ?_
    obtain ⟨rw, hrw0, erw⟩ : ∃ rw : Nat, rw < 3 ∧ (z / 11) % 3 = rw := ⟨_, Nat.mod_lt _ (by decide), rfl⟩
    refine cs_top (y := nI rw) (congrArg nI erw) ?_
    refine lv_istore (lv' := [(11, .int (nI rw)), (10, .int (nI va)), (9, .int (nI ix)), (8, .int (nI to)), (7, .int (nI fr)), (6, .int (nI mo)), (5, .int (nI z)), (0, .ref b), (1, .ref (ad 0)), (2, .int (nI 1)), (3, .int (nI N)), (4, .int (nI k))]) hx hb dL_law_345 hl (by decide) rfl (fun ls hl => ?_)
    refine lv_aload_n hx hb dL_law_347 rfl (lv_at hl 8 rfl) ?_
    refine lv_iload hx hb dL_law_348 (lv_at hl 0 rfl) ?_
    refine lv_iload hx hb dL_law_350 (lv_at hl 2 rfl) ?_
    have hl0 := hln rw (by omega)
    have hl3 := hln 3 (by decide)
    have hb0 := hok.1.2.2.2 rw ix
    have hb3 := hok.1.2.2.2 3 ix
    refine lw_at C0 hok hLS hl (r := rw) (j := ix) (by omega) (by omega) (by omega) (by omega) dL_law_352 ?_
    refine lv_istore (lv' := [(12, .int (nI (cs_by S rw ix))), (11, .int (nI rw)), (10, .int (nI va)), (9, .int (nI ix)), (8, .int (nI to)), (7, .int (nI fr)), (6, .int (nI mo)), (5, .int (nI z)), (0, .ref b), (1, .ref (ad 0)), (2, .int (nI 1)), (3, .int (nI N)), (4, .int (nI k))]) hx hb dL_law_355 hl (by decide) rfl (fun ls hl => ?_)
    refine lv_aload_n hx hb dL_law_357 rfl (lv_at hl 9 rfl) ?_
    refine lv_iconst (v := nI 3) hx hb dL_law_358 (by decide) ?_
    refine lv_iload hx hb dL_law_359 (lv_at hl 3 rfl) ?_
    refine lw_at C0 hok hLS hl (r := 3) (j := ix) (by decide) (by omega) (by omega) (by omega) dL_law_361 ?_
    refine lv_istore (lv' := [(13, .int (nI (cs_by S 3 ix))), (12, .int (nI (cs_by S rw ix))), (11, .int (nI rw)), (10, .int (nI va)), (9, .int (nI ix)), (8, .int (nI to)), (7, .int (nI fr)), (6, .int (nI mo)), (5, .int (nI z)), (0, .ref b), (1, .ref (ad 0)), (2, .int (nI 1)), (3, .int (nI N)), (4, .int (nI k))]) hx hb dL_law_364 hl (by decide) rfl (fun ls hl => ?_)
    refine lv_iload hx hb dL_law_366 (lv_at hl 1 rfl) ?_
    refine lv_if_lt (tgt := 415) hx hb dL_law_368 (by decide) (fun h => absurd h (nI_pos (by omega))) (fun _ => ?_)
    refine lv_iload hx hb dL_law_371 (lv_at hl 0 rfl) ?_
    refine lv_if_lt (tgt := 415) hx hb dL_law_373 (by decide) (fun h => absurd h (nI_pos (by omega))) (fun _ => ?_)
    refine lv_aload_n hx hb dL_law_376 rfl (lv_at hl 10 rfl) ?_
    refine lv_iload hx hb dL_law_377 (lv_at hl 2 rfl) ?_
    refine lv_iload hx hb dL_law_379 (lv_at hl 4 rfl) ?_
    refine lv_iload hx hb dL_law_381 (lv_at hl 3 rfl) ?_
    refine lw_ch C0 hok hLS hl (r := rw) (j := ix) (x := va) (by omega) hva0 (by omega) (by omega) (by omega) dL_law_383 (fun H locs hok hLS => ?_)
    have hG1 := cs_Gput S rw ix va
    generalize cs_put S rw (cs_ln S rw) (va_up (cs_by S rw) ix va) = S1 at hok hLS hG1
    refine lv_iload hx hb dL_law_386 (lv_at hl 1 rfl) ?_
    refine lv_icmp_ne (tgt := 415) hx hb dL_law_388 (by decide) (fun h => absurd (rfl) h) (fun _ => ?_)
    refine lv_aload_n hx hb dL_law_391 rfl (lv_at hl 10 rfl) ?_
    refine lv_iconst (v := nI 3) hx hb dL_law_392 (by decide) ?_
    refine lv_iload hx hb dL_law_393 (lv_at hl 4 rfl) ?_
    refine lv_iload hx hb dL_law_395 (lv_at hl 0 rfl) ?_
    refine lv_iload hx hb dL_law_397 (lv_at hl 1 rfl) ?_
    refine lv_ixor hx hb dL_law_399 ?_
    refine cs_top (y := nI ((cs_by S 3 ix) ^^^ (cs_by S rw ix))) (cs_nIx (by omega) (by omega)) ?_
    obtain ⟨u1, hu10, eu1⟩ : ∃ u1 : Nat, u1 < 256 ∧ (cs_by S 3 ix) ^^^ (cs_by S rw ix) = u1 := ⟨_, cs_x256 hb3 hb0, rfl⟩
    refine cs_top (y := nI u1) (congrArg nI eu1) ?_
    refine lv_iload hx hb dL_law_400 (lv_at hl 3 rfl) ?_
    refine lv_ixor hx hb dL_law_402 ?_
    refine cs_top (y := nI (u1 ^^^ va)) (cs_nIx (by omega) (by omega)) ?_
    obtain ⟨u2, hu20, eu2⟩ : ∃ u2 : Nat, u2 < 256 ∧ u1 ^^^ va = u2 := ⟨_, cs_x256 hu10 hva0, rfl⟩
    refine cs_top (y := nI u2) (congrArg nI eu2) ?_
    have hl13 : cs_ln S1 3 = N := (hG1.2.1 3).trans hl3
    refine lw_ch C0 hok hLS hl (r := 3) (j := ix) (x := u2) (by decide) hu20 (by omega) (by omega) (by omega) dL_law_403 (fun H locs hok hLS => ?_)
    have hG2 := cs_Gput S1 3 ix u2
    generalize cs_put S1 3 (cs_ln S1 3) (va_up (cs_by S1 3) ix u2) = S2 at hok hLS hG2
    obtain ⟨hn2, hln2, hy2⟩ := cs_G2 hrw0 hix0 hG1 hG2 (by rw [← eu2, ← eu1]) hy
    have hx2 := cs_y4x hok.1 hy2
    have hn2 : cs_n S2 = 6 := hn2.trans hn
    have hln2 : ∀ r, r < 4 → cs_ln S2 r = N := fun r hr => (hln2 r).trans (hln r hr)
    refine lv_iload hx hb dL_law_406 (lv_at hl 0 rfl) ?_
    refine lv_icmp_ne (tgt := 415) hx hb dL_law_408 (by decide) (fun h => absurd (congrArg (fun f : Nat → Nat => nI (f ix)) (hG1.2.2.2.2 3 (by omega))) h) (fun _ => ?_)
    refine lv_iconst (v := nI 1) hx hb dL_law_411 (by decide) ?_
    refine lv_goto (tgt := 416) hx hb dL_law_412 (by decide) ?_
    refine lv_istore_n (lv' := [(2, .int (nI 1)), (13, .int (nI (cs_by S 3 ix))), (12, .int (nI (cs_by S rw ix))), (11, .int (nI rw)), (10, .int (nI va)), (9, .int (nI ix)), (8, .int (nI to)), (7, .int (nI fr)), (6, .int (nI mo)), (5, .int (nI z)), (0, .ref b), (1, .ref (ad 0)), (3, .int (nI N)), (4, .int (nI k))]) hx hb dL_law_416 rfl hl (by decide) rfl (fun ls hl => ?_)
    refine lv_iload_n hx hb dL_law_417 rfl (lv_at hl 0 rfl) ?_
    refine lv_if_eq (tgt := 463) hx hb dL_law_418 (by decide) (fun h => absurd h (by decide)) (fun _ => ?_)
    refine lv_aload_n hx hb dL_law_421 rfl (lv_at hl 11 rfl) ?_
    refine lv_iconst (v := nI 0) hx hb dL_law_422 (by decide) ?_
    refine lv_iload hx hb dL_law_423 (lv_at hl 8 rfl) ?_
    refine lv_iload hx hb dL_law_425 (lv_at hl 7 rfl) ?_
    refine lv_iload hx hb dL_law_427 (lv_at hl 6 rfl) ?_
    refine lw_af C0 hok hLS hl (N := N) hln2 hx2 (t := 0) (by decide) (mo := mo) (by omega) (fr := fr) (to := to) hto0 hto1 (by omega) (by omega) dL_law_429 ?_
    refine lv_if_eq (tgt := 463) hx hb dL_law_432 (by decide) (fun h => absurd h (by decide)) (fun _ => ?_)
    refine lv_aload_n hx hb dL_law_435 rfl (lv_at hl 11 rfl) ?_
    refine lv_iconst (v := nI 1) hx hb dL_law_436 (by decide) ?_
    refine lv_iload hx hb dL_law_437 (lv_at hl 8 rfl) ?_
    refine lv_iconst (v := nI 0) hx hb dL_law_439 (by decide) ?_
    refine lv_iconst (v := nI 0) hx hb dL_law_440 (by decide) ?_
    refine lw_af C0 hok hLS hl (N := N) hln2 hx2 (t := 1) (by decide) (mo := mo) (by omega) (fr := 0) (to := 0) (Nat.le_refl _) (Nat.zero_le _) (by omega) (by omega) dL_law_441 ?_
    refine lv_if_eq (tgt := 463) hx hb dL_law_444 (by decide) (fun h => absurd h (by decide)) (fun _ => ?_)
    refine lv_aload_n hx hb dL_law_447 rfl (lv_at hl 11 rfl) ?_
    refine lv_iconst (v := nI 2) hx hb dL_law_448 (by decide) ?_
    refine lv_iload hx hb dL_law_449 (lv_at hl 8 rfl) ?_
    refine lv_iconst (v := nI 0) hx hb dL_law_451 (by decide) ?_
    refine lv_iconst (v := nI 0) hx hb dL_law_452 (by decide) ?_
    refine lw_af C0 hok hLS hl (N := N) hln2 hx2 (t := 2) (by decide) (mo := mo) (by omega) (fr := 0) (to := 0) (Nat.le_refl _) (Nat.zero_le _) (by omega) (by omega) dL_law_453 ?_
    refine lv_if_eq (tgt := 463) hx hb dL_law_456 (by decide) (fun h => absurd h (by decide)) (fun _ => ?_)
    refine lv_iconst (v := nI 1) hx hb dL_law_459 (by decide) ?_
    refine lv_goto (tgt := 464) hx hb dL_law_460 (by decide) ?_
    refine lv_istore_n (lv' := [(2, .int (nI 1)), (13, .int (nI (cs_by S 3 ix))), (12, .int (nI (cs_by S rw ix))), (11, .int (nI rw)), (10, .int (nI va)), (9, .int (nI ix)), (8, .int (nI to)), (7, .int (nI fr)), (6, .int (nI mo)), (5, .int (nI z)), (0, .ref b), (1, .ref (ad 0)), (3, .int (nI N)), (4, .int (nI k))]) hx hb dL_law_464 rfl hl (by decide) rfl (fun ls hl => ?_)
    refine lv_iinc (v := nI (k + 1)) (lv' := [(4, .int (nI (k + 1))), (2, .int (nI 1)), (13, .int (nI (cs_by S 3 ix))), (12, .int (nI (cs_by S rw ix))), (11, .int (nI rw)), (10, .int (nI va)), (9, .int (nI ix)), (8, .int (nI to)), (7, .int (nI fr)), (6, .int (nI mo)), (5, .int (nI z)), (0, .ref b), (1, .ref (ad 0)), (3, .int (nI N))]) hx hb dL_law_465 hl (k := 13) rfl (cs_inc1 k) (by decide) rfl (fun ls hl => ?_)
    refine lv_goto (tgt := 259) hx hb dL_law_468 (by decide) ?_
    exact ih (k + 1) (cells + 2 + 2 + 3 + 3 + 12 + 12 + 12) (slots + 12 + 12 + 18 + 18 + 72 + 72 + 72) S2 H locs ls (by omega) (by omega) (by omega) hok hn2 hln2 hy2 hLS (lv_sub hl [11, 12, 1, 13, 0] rfl)
set_option maxHeartbeats 4000000 in
set_option maxRecDepth 100000 in
theorem lw_mid (C0 : cs_C p l s m c b L xs D cy) {S : cs_St} {ad : Nat → Nat} {H : Heap} {locs : List Loc} {ls : Array Slot} {cells slots : Nat} (hc : cells ≤ 600074) (hs : slots ≤ 7301550) (hLS : cs_LS D s H locs S ad cy) (hl : lv_has ls 14 [(0, .ref b), (1, .ref (ad 0)), (2, .int (nI 1)), (3, .int (nI 6))])
    (kk : ∀ (N : Nat) (ls : Array Slot), 1 ≤ N → N ≤ 40 → lv_has ls 14 [(0, .ref b), (1, .ref (ad 0)), (2, .int (nI 1)), (3, .int (nI N)), (4, .int (nI 0))] → W p l e room_1 s m #[.ref b] below meth c H locs cells slots Q (F0 m 130 ls [])) : W p l e room_1 s m #[.ref b] below meth c H locs cells slots Q (F0 m 115 ls []) := by
  obtain ⟨hx, hb, hml, -, hown, hts, -⟩ := id C0
  refine lv_iconst (v := nI 1) hx hb dL_law_115 (by decide) ?_
  refine lv_aload_n hx hb dL_law_116 rfl (lv_at hl 0 rfl) ?_
  refine lv_bipush (v := nI 6) hx hb dL_law_117 (by decide) ?_
  refine lw_dr (rest := [.int (nI 1)]) C0 hLS.2.2 hl (k := 6) (by omega) (Nat.le_of_ble_eq_true rfl) (by omega) (by omega) dL_law_119 ?_
  have hz9 := cs_zn_lt L xs (6)
  generalize cs_zn L xs (6) = z at hz9 ⊢
  refine lv_bipush (v := nI 40) hx hb dL_law_122 (by decide) ?_
  refine lv_irem hx hb dL_law_124 (nI_ne0 (by omega) (by omega)) ?_
  refine cs_top (y := nI (z % 40)) (pk_rem (by omega) (by omega) (by omega)) ?_
  refine lv_iadd hx hb dL_law_125 ?_
  refine cs_top (y := nI (1 + (z % 40))) (nI_add 1 (z % 40)) ?_
  obtain ⟨N, hN0, hN1, eN⟩ : ∃ N : Nat, 1 ≤ N ∧ N ≤ 40 ∧ 1 + (z % 40) = N := ⟨_, by omega, by omega, rfl⟩
  refine cs_top (y := nI N) (congrArg nI eN) ?_
  refine lv_istore_n (lv' := [(3, .int (nI N)), (0, .ref b), (1, .ref (ad 0)), (2, .int (nI 1))]) hx hb dL_law_126 rfl hl (by decide) rfl (fun ls hl => ?_)
  refine lv_iconst (v := nI 0) hx hb dL_law_127 (by decide) ?_
  refine lv_istore (lv' := [(4, .int (nI 0)), (3, .int (nI N)), (0, .ref b), (1, .ref (ad 0)), (2, .int (nI 1))]) hx hb dL_law_128 hl (by decide) rfl (fun ls hl => ?_)
  exact kk N ls hN0 hN1 (lv_sub hl [2, 3, 4, 1, 0] rfl)
end CSLO
end
section
/-! the law's beginning -/
section CSBG
variable {p : Program} {l : Launch} {e : Env} {s : State} {m : MethodId} {b : Nat} {below : List Frame} {meth : Method} {c : Code} {Q : State → Prop} {L : Nat} {xs : Nat → Int32} {D : va_G} {cy : Nat → ClassId}
set_option maxHeartbeats 4000000 in
set_option maxRecDepth 100000 in
theorem lw_begin (C0 : cs_C p l s m c b L xs D cy) (hao : va_AO RX0 s ∧ va_AOA .int s) {ls : Array Slot} (hl : lv_has ls 14 [(0, .ref b)])
    (kend : ∀ (H : Heap) (locs : List Loc) (ls : Array Slot), va_S (fun q => s.heap.size ≤ q) s.heap H locs → W p l e room_1 s m #[.ref b] below meth c H locs 600074 7301550 Q (F0 m 472 ls [.int 1])) : W p l e room_1 s m #[.ref b] below meth c s.heap [] 0 0 Q (F0 m 0 ls []) := by
  obtain ⟨hx, hb, hml, hlf, hown, hts, hX, hbl, hL, hE, hz0, hK⟩ := id C0
  have hA : ∀ q : Nat, s.heap.size ≤ q → (fun q : Nat => s.heap.size ≤ q) q := fun _ h => h
  have hS9 : va_S (fun q : Nat => s.heap.size ≤ q) s.heap s.heap [] := va_S.rf
  have hP : va_P D vwCl [] s.heap := fun k q h => by simp at h
  have hD : va_D (fun q : Nat => s.heap.size ≤ q) [] := ⟨fun i j p q h => by simp at h, fun k q h => by simp at h⟩
  obtain ⟨ms, hms, hms2⟩ : ∃ ms : Nat, 1038 ≤ ms ∧ ms ≤ 1038 := ⟨1038, Nat.le_refl _, Nat.le_refl _⟩
  obtain ⟨c1, hc1, hc1'⟩ : ∃ c1 : Nat, 50 ≤ c1 ∧ c1 ≤ 50 := ⟨50, Nat.le_refl _, Nat.le_refl _⟩
  obtain ⟨s1, hs1, hs1'⟩ : ∃ s1 : Nat, 1500 ≤ s1 ∧ s1 ≤ 1500 := ⟨1500, Nat.le_refl _, Nat.le_refl _⟩
  obtain ⟨c2, hc2, hc2'⟩ : ∃ c2 : Nat, 600 ≤ c2 ∧ c2 ≤ 600 := ⟨600, Nat.le_refl _, Nat.le_refl _⟩
  obtain ⟨s2, hs2, hs2'⟩ : ∃ s2 : Nat, 5000 ≤ s2 ∧ s2 ≤ 5000 := ⟨5000, Nat.le_refl _, Nat.le_refl _⟩
  refine va_new (ci := 1) (fs := [.null, .int 0, .null, .null]) (C := RX1) (T := TX1) (N := 4) hx hb hts inlX1 tyX1 tyX1_ok hown (hts (.classLink RL 11 RX1) (by decide +kernel)) (hts (.instantiable RX1 4) (by decide +kernel)) (hts (.initialized RX1) (by decide +kernel)) hK hP hD hS9 hA rfl (fun j hj => by rcases (show j = 0 ∨ j = 1 ∨ j = 2 ∨ j = 3 by omega) with rfl | rfl | rfl | rfl <;> rfl) (by show 0 + 1 ≤ 600074; omega) (by show 0 + 4 ≤ 7301550; omega) dL_law_0 (fun a H hP hD hS9 => ?_)
  have hP : va_P D vwCl [(a, .inr (1, [.null, .int 0, .null, .null]))] H := hP
  have hD : va_D (fun q : Nat => s.heap.size ≤ q) [(a, .inr (1, [.null, .int 0, .null, .null]))] := hD
  refine lv_dup hx hb dL_law_3 rfl ?_
  have hF : ∀ q, va_A [(a, .inr (1, [.null, .int 0, .null, .null]))] H.size q → (fun q : Nat => s.heap.size ≤ q) q := cs_inW hD hS9 hA
  refine cs_wcallv (va_runI (As := []) (rest := [.ref a]) ⟨hx, hb, hml, hown, hts⟩ (k_X1_init l D cy a H.size ms hms) (cwI 0 hts gL_law_X1_init rfl rfl rfl (hts (.initialized RX1) (by decide +kernel)) (hts (.methodLink RL 48 yX1_init) (by decide +kernel)) (hts (.instanceMethod yX1_init) (by decide +kernel)) rfl (by decide +kernel) ⟨(Nat.le_of_ble_eq_true rfl), (Nat.le_of_ble_eq_true rfl)⟩) ⟨cs_Bo.blind, cs_Bo.at hao hE hP hK hD⟩ rfl rfl hl.1 rfl (lv_room (Nat.le_of_ble_eq_true rfl)) dL_law_4 ⟨by show 0 + 1 + 7 ≤ 600074; omega, by show 0 + 4 + ms ≤ 7301550; omega⟩) hS9 hF (fun ad H locs had hP1 hD1 hz1 hk1 hS9 => ?_)
  have hD := hD1.weaken (fun k q _ h => hF q.1 h)
  refine lv_astore_n (lv' := [(1, .ref a), (0, .ref b)]) hx hb dL_law_7 rfl hl (by decide) rfl (fun ls hl => ?_)
  refine lv_iconst (v := nI 1) hx hb dL_law_8 (by decide) ?_
  refine lv_istore_n (lv' := [(2, .int (nI 1)), (1, .ref a), (0, .ref b)]) hx hb dL_law_9 rfl hl (by decide) rfl (fun ls hl => ?_)
  refine lv_iconst (v := nI 0) hx hb dL_law_10 (by decide) ?_
  refine lv_istore_n (lv' := [(3, .int (nI 0)), (2, .int (nI 1)), (1, .ref a), (0, .ref b)]) hx hb dL_law_11 rfl hl (by decide) rfl (fun ls hl => ?_)
  refine lw_l1 C0 (a0 := a) (c1 := c1) (s1 := s1) (by omega) (by omega) (fun S ad H locs ls hok hn hl0 had hLS hl => ?_) 6 0 _ _ cs_0 ad H locs ls (by omega) (by omega) (by omega) cs_okk0 rfl (fun _ => rfl) had ⟨hP1, hD, hS9⟩ (lv_sub hl [3, 2, 1, 0] rfl)
  subst had
  refine lw_mid C0 (by omega) (by omega) hLS hl (fun N ls hN0 hN1 hl => ?_)
  refine lw_l2 C0 hN1 (c1 := c2) (s1 := s2) (by omega) (by omega) (fun S H locs ls hok hn hln hy hLS hl => ?_) N 0 _ _ S H locs ls (by omega) (by omega) (by omega) hok hn (fun r _ => hl0 r) (fun j hj => absurd hj (Nat.not_lt_zero j)) hLS hl
  refine lv_iconst (v := nI 0) hx hb dL_law_256 (by decide) ?_
  refine lv_istore (lv' := [(4, .int (nI 0)), (0, .ref b), (1, .ref (ad 0)), (2, .int (nI 1)), (3, .int (nI N))]) hx hb dL_law_257 hl (by decide) rfl (fun ls hl => ?_)
  refine lw_l3 C0 hN0 hN1 (c1 := 600074) (s1 := 7301550) (Nat.le_refl _) (Nat.le_refl _) (fun H locs ls hS9 hl => ?_) 30 0 _ _ S H locs ls (by omega) (by omega) (by omega) hok hn hln hy hLS (lv_sub hl [1, 2, 3, 4, 0] rfl)
  refine lv_iload_n hx hb dL_law_471 rfl (lv_at hl 2 rfl) ?_
  exact kend H locs ls hS9
end CSBG
end
section
/-! what the launch gives -/
def cs_txts : List (Nat × String) := [(30, "width is out of range"), (159, "not a number with w bits"), (41, "there are 6 models already"), (147, "no such model"), (149, "no such row"), (155, "not a byte"), (153, "the row would have more than 256 bytes"), (151, "no such index"), (103, "from or to is out of range")]
theorem cs_txA : ∀ q ∈ cs_txts, Cond.stringRef RX1 q.1 q.2 ∈ lw_tbl := by decide +kernel
theorem cs_txB : ∀ q ∈ cs_txts, Cond.exactly (.string RX1 q.1) "java/lang/String" ∈ flatC (Jvm.Cond.and given_1 narrow_1) := by decide +kernel
set_option maxHeartbeats 4000000 in
set_option maxRecDepth 100000 in
theorem cs_start {p : Program} {s : State} {m : MethodId} {c : Code} {l : Launch} (hflags : l.flags = flags0) {b L : Nat} {xs : Nat → Int32} (hL : L ≤ 260) (hx : p.tables.exec = Jvm.exec) (hb : c.code = code) (hml : c.maxLocals = 14) (hown : s.vm.findClass RL = some m.cls) (hts : ∀ w ∈ lw_tbl, w.before #[Value.ref b] s = true) (hX : va_X b L xs s s.heap) (hbl : b < s.heap.size) (hgv : (Jvm.Cond.and given_1 narrow_1).before #[Value.ref b] s = true) :
    ∃ (D : va_G) (cy : Nat → ClassId), cs_C p l s m c b L xs D cy ∧ (va_AO RX0 s ∧ va_AOA .int s) := by
  have hg := flat_of_before _ hgv
  have hlf : l.stackTraces = false := by unfold Launch.stackTraces; rw [hflags]; decide +kernel
  have htl : ∀ w ∈ wsL_law, w.before #[Value.ref b] s = true := fun w h => hts w (wsL_law_in w h)
  obtain ⟨k0, i0, hKn0⟩ := u_known (C := RX0) (T := TX0) (N := 8) (n := 8) hts inX0 (hts (.instantiable RX0 8) (by decide +kernel))
  obtain ⟨k1, i1, hKn1⟩ := u_known (C := RX1) (T := TX1) (N := 4) (n := 4) hts inX1 (hts (.instantiable RX1 4) (by decide +kernel))
  obtain ⟨dC, dI, hKc⟩ : ∃ (dC : Nat → ClassId) (dI : Nat → Nat → Nat), ∀ (k : Nat) (q : vw_C), vwCl[k]? = some q → u_Kn s q.1 q.2.1 q.2.2 (dC k) (dI k) := by
    refine ⟨fun k => if k = 0 then k0 else k1, fun k => if k = 0 then i0 else i1, ?_⟩
    intro k q hq
    match k, hq with
    | 0, hq => cases hq; exact hKn0
    | 1, hq => cases hq; exact hKn1
    | k + 2, hq => simp at hq
  obtain ⟨c0, h0, p0, a0, b0, d0⟩ := Cond.arrayClass_spec (hts (.arrayClass .int) (by decide +kernel))
  have hO : (Cond.arrayOver (.object RX0)).before #[Value.ref b] s = true := hts _ (by decide +kernel)
  have hI : (Cond.arrayOver (.array .int)).before #[Value.ref b] s = true := hts _ (by decide +kernel)
  obtain ⟨p3, c3, h3, a3, f3, b3, d3, g3⟩ := Cond.arrayOver_spec hO
  obtain ⟨p4, c4, h4, a4, f4, b4, d4, g4⟩ := cs_aoa hI
  have hK : va_K (dC, dI) vwCl (cs_tys (fun k => if k = 0 then c0 else if k = 3 then c3 else c4)) s := ⟨hKc, fun k q hq => by
    match k, hq with
    | 0, hq => cases hq; exact ⟨fun n z => ⟨fun k h => (by cases h), h0, b0, p0, d0⟩, a0⟩
    | 1, hq => cases hq; exact ⟨fun n z => ⟨fun k h => (by cases h), h0, b0, p0, d0⟩, a0⟩
    | 2, hq => cases hq; exact ⟨fun n z => ⟨fun k h => (by cases h), h0, b0, p0, d0⟩, a0⟩
    | 3, hq => cases hq; exact ⟨fun n z => ⟨fun k h => (by cases h), h3, b3, p3, d3⟩, h3, p3, b3, d3, a3, g3⟩
    | 4, hq => cases hq; exact ⟨fun n z => ⟨fun k h => (by cases h), h4, b4, p4, d4⟩, g4⟩
    | k + 5, hq => simp at hq⟩
  have hE : cs_en s := ⟨va_Nw.of rfl (hts (.methodLinkNest RX0 51 yX1_reversed RX1) (by decide +kernel)), ⟨va_Nw.of rfl (hts (.castable cs_IAE cs_IAE) (by decide +kernel)), va_Nw.of rfl (hts (.castable cs_ISE cs_ISE) (by decide +kernel)), va_Nw.of rfl (hts (.castable cs_IOB cs_IOB) (by decide +kernel)), va_Nw.of rfl (hts (.declares (Bundle.initS "java/lang/RuntimeException")) (by decide +kernel)), va_Nw.of rfl (hts (.declares (Bundle.initS "java/lang/Exception")) (by decide +kernel)), va_Nw.of rfl (hts (.declares (Bundle.initS Bundle.tN)) (by decide +kernel))⟩, fun q hq => by
    obtain ⟨a, _, _, _, h, -⟩ := Cond.exactly_spec (hg _ (cs_txB q hq))
    exact ⟨a, vk_R.of (hts _ (cs_txA q hq)) h⟩⟩
  have hz : cs_zz (fun q => s.heap.size ≤ q) s s.heap :=
    ⟨vx_Zqof (hts (.laysStatic Bundle.tN "UNASSIGNED_STACK" Bundle.steD) (by decide +kernel)) (hts (.initialized Bundle.tN) (by decide +kernel)) (hg (.isRef (.static Bundle.tN "UNASSIGNED_STACK" Bundle.steD)) (by decide +kernel)) (fun a h => Nat.not_le.mpr h),
     vx_Zqof (hts (.laysStatic Bundle.tN "SUPPRESSED_SENTINEL" Bundle.listD) (by decide +kernel)) (hts (.initialized Bundle.tN) (by decide +kernel)) (hg (.isRef (.static Bundle.tN "SUPPRESSED_SENTINEL" Bundle.listD)) (by decide +kernel)) (fun a h => Nat.not_le.mpr h)⟩
  exact ⟨(dC, dI), _, ⟨hx, hb, hml, hlf, hown, htl, hX, hbl, hL, hE, hz, hK⟩, va_AO.of hO, hI⟩
end
section
/-! THE CLAIM OUT OF ONE WALK OF THE LAW'S BODY. Your part is whole_start (and what it stands on); all else here is the same for every law, but numbers. -/
def R_law : String := "ChecksumLabLaw"
def lw_P (b : Addr) (xs : List Int32) (args : Array Value) (s : State) : Prop := args = #[.ref b] ∧ s.IntsAt b xs ∧ xs.length ≤ 260 ∧ (Jvm.Cond.and given_1 narrow_1).before args s = true
def lw_Q (_ : Array Value) (s : State) (o : Outcome) (t : State) : Prop := o = .returned (some (.int 1)) ∧ Framed s o t [] 600074 7301550
def lw_Z (below : List Frame) (a : Array Value) (s : State) : State → Prop := fun t => ∃ o, t.status = .running ∧ Ended t below o ∧ lw_Q a s o t
/-- the law's own end, with 1 on the stack, nothing written that was there before, its room as the claim has it -/
theorem lw_ret {p : Program} {l : Launch} {e : Env} {s : State} {m : MethodId} {below : List Frame} {meth : Method} {c : Code} {b : Nat} (hx : p.tables.exec = Jvm.exec) (hb : c.code = code) (hr : meth.sig.returnType = ret) (hlocks : meth.locks = false) {pc : Nat} {H : Heap} {ls : Array Slot} (hdg : decode code pc = .ok (.ireturn, 1)) : W p l e room_1 s m #[Value.ref b] below meth c H [] 600074 7301550 (lw_Z below #[Value.ref b] s) (F0 m pc ls [.int 1]) := by
  intro T hT X
  obtain ⟨fs, hret, hrun, hended, hW, hframe⟩ := X.leave (v := some (.int 1)) (hlocks := hlocks) (fun h => by rw [hr] at h; cases h)
  have hmeth' : T.vm.method? m = some meth := X.method'
  refine ⟨T.setFrames fs, ?_, .returned (some (.int 1)), hrun, hended, rfl, ⟨_, rfl⟩, hW, hframe⟩
  jvm_step X.here [X.here.top, hx, hb, hdg, hmeth', hr, ret, narrow_b1]
  (try refine ⟨rfl, ?_⟩); (try refine ⟨rfl, ?_⟩)
  first | (intro acts; rw [hret _ acts rfl rfl rfl]) | rw [hret _ _ rfl rfl rfl]
  exact Steps.refl _
/-- what holds at the law's entry: the machine, the code, the tables' words (any of lw_tbl by 'hts w (by decide +kernel)'), the script of L ints xs at the cell b, what the Statement gives of the start (any of its parts by flat_of_before) -/
def lw_At (p : Program) (s : State) (m : MethodId) (meth : Method) (c : Code) (b L : Nat) (xs : Nat → Int32) : Prop :=
  p.tables.exec = Jvm.exec ∧ c.code = code ∧ meth.sig.returnType = ret ∧ c.maxLocals = 14 ∧ s.vm.findClass R_law = some m.cls ∧ (∀ w ∈ lw_tbl, w.before #[Value.ref b] s = true) ∧ va_X b L xs s s.heap ∧ b < s.heap.size ∧ meth.locks = false ∧ (Jvm.Cond.and given_1 narrow_1).before #[Value.ref b] s = true
end
section
set_option maxHeartbeats 4000000 in
set_option maxRecDepth 100000 in
/-- from the entry, for every script of at most 260 ints, the law comes to its end with true -/
theorem whole_start {p : Program} {e : Env} {s : State} {m : MethodId} {below : List Frame} {meth : Method} {c : Code} (l : Launch) (hflags : l.flags = flags0) {b L : Nat} {xs : Nat → Int32} (hL : L ≤ 260) (C0 : lw_At p s m meth c b L xs) : W p l e room_1 s m #[Value.ref b] below meth c s.heap [] 0 0 (lw_Z below #[Value.ref b] s) (entryFrame m ([Value.ref b] : List Value).toArray 14) := by
  obtain ⟨hx, hb, hr, hml, hown, hts, hX, hbl, hlocks, hgv⟩ := id C0
  obtain ⟨D, cy, hC, hao⟩ := cs_start hflags hL hx hb hml hown hts hX hbl hgv
  have hl := lv_entry ([.ref b]) (n := 14) (Nat.le_of_ble_eq_true rfl)
  rw [lg_entry_eq]
  generalize (lg_sl ([.ref b]) ++ List.replicate (14 - (lg_sl ([.ref b])).length) Slot.unset).toArray = ls at hl ⊢
  have hl : lv_has ls 14 [(0, .ref b)] := hl
  refine lw_begin hC hao hl (fun H locs ls hS => ?_)
  exact W.forget (locs := []) (L := locs) hS.2.2 (lw_ret hx hb hr hlocks dL_law_472)
end
section
set_option maxHeartbeats 4000000 in
theorem lw_walk (l : Launch) (hflags : l.flags = flags0) (b : Addr) (xs : List Int32) : MetFree l x (headSpec (Jvm.Cond.code x code maxLocals ret :: tables_1) room_1) (lw_P b xs) (fun _ _ _ _ _ => True) lw_Q := by
  refine MetFree.of_bodyS (code := code) (maxLocals := maxLocals) (ret := ret) (by decide) ?_ ?_
  · intro args s m h hn
    obtain ⟨meth, c, h1, h2, h3, h4, h5, h6, -, -⟩ := Cond.code_spec hn (atoms_spec (ws := Jvm.Cond.code x code maxLocals ret :: tables_1) h _ List.mem_cons_self)
    exact ⟨meth, c, h1, h2, h3, h4, h5, h6⟩
  · intro p e s m args below meth c s₁ B hml0 hP _
    obtain ⟨rfl, hx, hbd, hgv⟩ := hP
    obtain ⟨scr, harrAt, hlist, hof, hsmall⟩ := hx
    obtain ⟨hcb, hkn, -, -⟩ := State.arrayAt?_spec harrAt
    have hown : s.vm.findClass R_law = some m.cls := findClass_of_methodNamed B.named
    have hts0 : ∀ c ∈ (Jvm.Cond.code x code maxLocals ret :: tables_1), c.before #[Value.ref b] s = true := atoms_spec (ws := Jvm.Cond.code x code maxLocals ret :: tables_1) B.pre
    have hts : ∀ w ∈ lw_tbl, w.before #[Value.ref b] s = true := k2_hts_sels lw_privs (fun w hw => hts0 w (List.mem_cons_of_mem _ hw)) lw_privs_ok
    have hml : c.maxLocals = 14 := B.maxLocals_eq (hts0 _ List.mem_cons_self)
    have X₀ : Stand p l e room_1 s m #[Value.ref b] below meth c s₁ [] 0 0 := Stand.of_body B
    have hh0 : s₁.heap = s.heap := by rw [B.state]; rfl
    have hsz : scr.slots.size = xs.length := by rw [← Array.length_toList, hlist, List.length_map]
    have hval : ∀ j : Nat, j < xs.length → scr.slots[j]? = some (.int (xs.getD j 0)) := fun j hj => by
      rw [← Array.getElem?_toList, hlist]
      simp [hj]
    have hbl : b < s.heap.size := (Array.getElem?_eq_some_iff.mp hcb).1
    have hX : va_X b xs.length (fun j => xs.getD j 0) s s.heap := ⟨scr, hcb, hof, hkn, hsz, hval⟩
    have K : W p l e room_1 s m #[Value.ref b] below meth c s₁.heap [] 0 0 (lw_Z below #[Value.ref b] s) (entryFrame m ([Value.ref b] : List Value).toArray 14) := by
      rw [hh0]
      exact whole_start l hflags hbd ⟨B.exec, B.bytes, B.returns, hml, hown, hts, hX, hbl, B.notSynchronized, hgv⟩
    obtain ⟨t, a1, o, b1, b2, b3⟩ := K s₁ rfl X₀
    exact ⟨t, o, a1, b1, b2, b3⟩
theorem lw_pre_spec {args : Array Value} {s : State} (h : (Jvm.Cond.and given_1 narrow_1).before args s = true) (hr : rest_1_c.before args s = true) : ∃ (b : Addr) (xs : List Int32), lw_P b xs args s := by
  have hs := flat_of_before _ h
  have hq := flat_of_before _ hr
  have hc : (Cond.count 1).before args s = true := hs _ (by decide +kernel)
  have harr : (Cond.arrayOf (.arg 0) .int).before args s = true := hs _ (by decide +kernel)
  have hle : (Cond.le (.length (.arg 0)) (.int 260)).before args s = true := hs _ (by decide +kernel)
  have hlen : (Cond.isInt (.length (.arg 0))).before args s = true := hq _ (by decide +kernel)
  have hall : (Cond.all (.arg 0) (.isInt (.elem (.arg 0) (.index 0)))).before args s = true := hq _ (by decide +kernel)
  obtain ⟨b, xs, hb, hx⟩ := State.ints_of_pre rfl harr hlen hall
  have hsm : xs.length < 2 ^ 31 := hx.choose_spec.2.2.2
  have hev : (Term.length (.arg 0)).eval args s none [] s = some (.int xs.length.toInt32) := hx.length_eval hb
  have hv := Cond.le_ints hev (show (Term.int 260).eval args s none [] s = some (.int 260) from rfl)
  have hd : xs.length.toInt32 ≤ 260 := by
    simpa [Cond.before, Cond.holds, hv] using hle
  have hN : xs.length ≤ 260 := (Int32.ofNat_le_ofNat hsm (by decide)).mp (show Int32.ofNat xs.length ≤ Int32.ofNat 260 from hd)
  exact ⟨b, xs, Cond.one_arg hc (show args[0]? = some (.ref b) from hb), hx, hN, h⟩
theorem lw_comes (l : Launch) (hflags : l.flags = flags0) : Comes l x (Jvm.Cond.code x code maxLocals ret :: tables_1) room_1 (fun tb e args s => Calls_1 tb e args s ∧ rest_1 tb e args s ∧ Pre_1 tb e args s)
    (fun _ _ args s o t => lw_Q args s o t) := by
  intro p e ha hc hk s m args below hf hfit hheap happ hpre
  obtain ⟨b, xs, hP⟩ := lw_pre_spec hpre.2.2 hpre.2.1
  obtain ⟨k, o, h1, h2, h3, hQ⟩ := lw_walk l hflags b xs p e ha hc hk s m args below hf ((Spec.applies_iff_loose hf).mp happ).1 hP trivial
  exact ⟨k, o, h1, h2, h3, hQ⟩
theorem lw_frame {s t : State} {o : Outcome} {args : Array Value} (h : Framed s o t [] 600074 7301550) :
    Framed s o t (fieldLocs frame_1_writes args s ++ arrayLocs frame_1_arrays args s ++ staticLocs frame_1_statics s) 600074 7301550 := h
theorem lw_limb (L : Cond) (hL : ∀ (args : Array Value) (s t : State), L.after args s (.returned (some (.int 1))) t = true) :
    ArmFor flags0 classFile x code maxLocals ret World_1 tables_1 room_1 Calls_1 rest_1 Pre_1
      (fun tb e a s o t => postC L tb e a s o t ∧ Framed s o t (fieldLocs frame_1_writes a s ++ arrayLocs frame_1_arrays a s ++ staticLocs frame_1_statics s) 600074 7301550) := by
  intro l hflags _ _ p e ha hc hk s m args below hf hfit hheap happ hpre
  obtain ⟨k, o, h1, h2, h3, rfl, hF⟩ := lw_comes l hflags p e ha hc hk s m args below hf hfit hheap happ hpre
  exact ⟨k, _, h1, h2, h3, hL args s _, lw_frame hF⟩
theorem i_vc : Claimed_1_1 ∧ Claimed_1_2 := ⟨lw_limb limb_1_1 (fun args s t => by simp [limb_1_1, Cond.after, Cond.holds, Cond.value]), lw_limb limb_1_2 (fun args s t => Cond.after_iff.mpr (by
  first | (rw [show limb_1_2 = Cond.eq .result (.int 1) from rfl, Cond.eq_ints (x := 1) (y := 1) rfl rfl]; simp; done) | (simp [limb_1_2, Cond.value, Term.eval]; done)))⟩
end
