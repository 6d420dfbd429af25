/-! the base layer: booleans, the launch's facts that are no table words, short forms of contracts and calls -/
/-- a boolean as the machine holds it -/
def cs_z (b : Bool) : Int32 := if b then 1 else 0
theorem cs_z_t : cs_z true = 1 := rfl
theorem cs_z_f : cs_z false = 0 := rfl
theorem cs_z_0 {b : Bool} : cs_z b = 0 ↔ b = false := by cases b <;> decide
theorem cs_z_1 {b : Bool} : cs_z b = 1 ↔ b = true := by cases b <;> decide
theorem cs_z_nar (b : Bool) : narrow .boolean (.int (cs_z b)) = .int (cs_z b) := by cases b <;> rfl
theorem cs_z_fit (b : Bool) : fits .boolean (.int (cs_z b)) = true := by cases b <;> rfl
theorem cs_z_vn (b : Bool) : vp_nar .boolean (cs_z b) = cs_z b := by cases b <;> rfl
theorem cs_tt {b : Bool} (h : ¬ b = false) : b = true := by cases b; exact absurd rfl h; rfl
theorem cs_ff {b : Bool} (h : ¬ b = true) : b = false := by cases b; rfl; exact absurd rfl h
section CSR
variable {p : Program} {l : Launch} {e : Env} {R : Room} {s : State} {m : MethodId} {args : Array Value} {below : List Frame} {meth : Method} {c : Code} {H : Heap} {locs : List Loc} {cells slots : Nat} {Q : State → Prop} {cc : ByteArray} {pc : Nat} {ls : Array Slot} {rest : List Value}
theorem cs_ifeq (hexec : p.tables.exec = Jvm.exec) (hb : c.code = cc) {x : Bool} {off : Int} {tgt : Nat} (hdg : decode cc pc = .ok (.ifCond .eq off, 3)) (ht : (pc : Int) + off = (tgt : Int))
    (kt : x = false → W p l e R s m args below meth c H locs cells slots Q (F0 m tgt ls rest)) (kf : x = true → W p l e R s m args below meth c H locs cells slots Q (F0 m (pc + 3) ls rest)) : W p l e R s m args below meth c H locs cells slots Q (F0 m pc ls (.int (cs_z x) :: rest)) :=
  lv_if_eq hexec hb hdg ht (fun h => kt (cs_z_0.mp h)) (fun h => kf (cs_tt (fun q => h (cs_z_0.mpr q))))
theorem cs_ifne (hexec : p.tables.exec = Jvm.exec) (hb : c.code = cc) {x : Bool} {off : Int} {tgt : Nat} (hdg : decode cc pc = .ok (.ifCond .ne off, 3)) (ht : (pc : Int) + off = (tgt : Int))
    (kt : x = true → W p l e R s m args below meth c H locs cells slots Q (F0 m tgt ls rest)) (kf : x = false → W p l e R s m args below meth c H locs cells slots Q (F0 m (pc + 3) ls rest)) : W p l e R s m args below meth c H locs cells slots Q (F0 m pc ls (.int (cs_z x) :: rest)) :=
  lv_if_ne hexec hb hdg ht (fun h => kt (cs_tt (fun q => h (cs_z_0.mpr q)))) (fun h => kf (cs_z_0.mp h))
/-- the same value under another name -/
theorem cs_top {x y : Int32} (h : x = y) (k : W p l e R s m args below meth c H locs cells slots Q (F0 m pc ls (.int y :: rest))) : W p l e R s m args below meth c H locs cells slots Q (F0 m pc ls (.int x :: rest)) := by subst h; exact k
theorem cs_topl {x y : Int64} (h : x = y) (k : W p l e R s m args below meth c H locs cells slots Q (F0 m pc ls (.long y :: rest))) : W p l e R s m args below meth c H locs cells slots Q (F0 m pc ls (.long x :: rest)) := by subst h; exact k
end CSR
/-! the facts of a launch that calls carry on: the nest call, the texts of the exceptions, the classes that a catch asks for -/
def cs_str (k : Nat) (tx : String) (U : State) : Prop := ∃ a : Nat, vk_R RX1 k tx a U
theorem cs_str.warm {k : Nat} {tx : String} {s U : State} (hW : s.WarmedH U.vm) (h : cs_str k tx s) : cs_str k tx U := by
  obtain ⟨a, h⟩ := h
  exact ⟨a, vk_R.warm hW h⟩
def cs_IAE : String := "java/lang/IllegalArgumentException"
def cs_ISE : String := "java/lang/IllegalStateException"
def cs_IOB : String := "java/lang/IndexOutOfBoundsException"
def cs_en (U : State) : Prop :=
  va_Nw (.methodLinkNest RX0 51 yX1_reversed RX1) U ∧ (va_Nw (.castable cs_IAE cs_IAE) U ∧ va_Nw (.castable cs_ISE cs_ISE) U ∧ va_Nw (.castable cs_IOB cs_IOB) U ∧ va_Nw (.declares (Bundle.initS "java/lang/RuntimeException")) U ∧ va_Nw (.declares (Bundle.initS "java/lang/Exception")) U ∧ va_Nw (.declares (Bundle.initS Bundle.tN)) U) ∧
  (∀ q ∈ [(30, "width is out of range"), (159, "not a number with w bits"), (41, "there are 6 models already"), (147, "no such model"), (149, "no such row"), (155, "not a byte"), (153, "the row would have more than 256 bytes"), (151, "no such index"), (103, "from or to is out of range")], cs_str q.1 q.2 U)
theorem cs_en.warm {s U : State} (hW : s.WarmedH U.vm) (h : cs_en s) : cs_en U :=
  ⟨va_Nw.warmM hW h.1, ⟨va_Nw.warmC hW h.2.1.1, va_Nw.warmC hW h.2.1.2.1, va_Nw.warmC hW h.2.1.2.2.1, va_Nw.warmD hW h.2.1.2.2.2.1, va_Nw.warmD hW h.2.1.2.2.2.2.1, va_Nw.warmD hW h.2.1.2.2.2.2.2⟩, fun q hq => (h.2.2 q hq).warm hW⟩
/-- a start without writing: the world, the classes, the launch's facts -/
def cs_B (D : va_G) (tys : List (ClassId × FieldType)) (ws : va_W) (U : State) : Prop := cs_en U ∧ va_P D vwCl ws U.heap ∧ va_K D vwCl tys U
theorem cs_B.blind {D : va_G} {tys : List (ClassId × FieldType)} {ws : va_W} {av : List Value} : FrameBlind (va_Pc av (cs_B D tys ws)) := fun a U g mk q =>
  ⟨q.1, cs_en.warm (s := U) (U := U.calling g mk a) (State.WarmedH.refl U) q.2.1, q.2.2.1, va_K.moved (u := U) (U := U.calling g mk a) (Vm.Alike.refl U.vm) q.2.2.2⟩
theorem cs_B.at {D : va_G} {tys : List (ClassId × FieldType)} {ws : va_W} {av : List Value} {s : State} {H : Heap} (hE : cs_en s) (hP : va_P D vwCl ws H) (hK : va_K D vwCl tys s) : ∀ U : State, U.heap = H → s.WarmedH U.vm → va_Pc av (cs_B D tys ws) av.toArray U := fun U hU hW =>
  ⟨rfl, hE.warm hW, by rw [hU]; exact hP, va_K.moved hW.alike hK⟩
/-- an int out of a heap that stays as it is -/
abbrev cs_Mi (l : Launch) (y : MethodName) (ws : List Cond) (rm : Room) (D : va_G) (tys : List (ClassId × FieldType)) (w : va_W) (av : List Value) (v : Int32) : Prop := Met l y ws rm (va_Pc av (cs_B D tys w)) (vp_Si (fun r => r = v)) 0 0 (fun _ => False)
abbrev cs_Ml (l : Launch) (y : MethodName) (ws : List Cond) (rm : Room) (D : va_G) (tys : List (ClassId × FieldType)) (w : va_W) (av : List Value) (v : Int64) : Prop := Met l y ws rm (va_Pc av (cs_B D tys w)) (vp_Sl (fun r => r = v)) 0 0 (fun _ => False)
theorem cs_one {D : va_G} {ws : va_W} {H : Heap} (hP : va_P D vwCl ws H) {k : Nat} {q : Nat × va_E} (h : ws[k]? = some q) : va_P D vwCl [q] H := fun j x hx => by
  have h0 : j < 1 := (List.getElem?_eq_some_iff.mp hx).1
  have h1 : j = 0 := by omega
  subst h1
  cases hx
  exact hP k q h
theorem cs_none {D : va_G} {H : Heap} : va_P D vwCl [] H := fun j x hx => by simp at hx
/-- the statics of Throwable -/
def cs_zz (A : Nat → Prop) (U : State) (H : Heap) : Prop := vx_Zq Bundle.tN "UNASSIGNED_STACK" Bundle.steD A U H ∧ vx_Zq Bundle.tN "SUPPRESSED_SENTINEL" Bundle.listD A U H
theorem cs_zz.moved {A : Nat → Prop} {u U : State} {H : Heap} (hvm : u.vm.Alike U.vm) (h : cs_zz A u H) : cs_zz A U H := ⟨h.1.moved hvm, h.2.moved hvm⟩
theorem cs_zz.kept {A : Nat → Prop} {U : State} {H H1 : Heap} (h : cs_zz A U H) (hq : ∀ a : Nat, a < H.size → ¬ A a → H1[a]? = H[a]?) : cs_zz A U H1 := ⟨h.1.kept hq, h.2.kept hq⟩
theorem cs_zz.narrow {A B : Nat → Prop} {U : State} {H : Heap} (h : cs_zz A U H) (hAB : ∀ q, B q → A q) : cs_zz B U H := ⟨h.1.narrow hAB, h.2.narrow hAB⟩
theorem cs_at1 : (vx_atS RX1 32 cs_IAE ["java/lang/RuntimeException", "java/lang/Exception"]).filter (fun w => !goodWord w) = [.declares (Bundle.initS "java/lang/RuntimeException"), .declares (Bundle.initS "java/lang/Exception"), .declares (Bundle.initS Bundle.tN), .castable cs_IAE cs_IAE] := by decide +kernel
theorem cs_at2 : (vx_atS RX1 43 cs_ISE ["java/lang/RuntimeException", "java/lang/Exception"]).filter (fun w => !goodWord w) = [.declares (Bundle.initS "java/lang/RuntimeException"), .declares (Bundle.initS "java/lang/Exception"), .declares (Bundle.initS Bundle.tN), .castable cs_ISE cs_ISE] := by decide +kernel
theorem cs_at3 : (vx_atS RX1 105 cs_IOB ["java/lang/RuntimeException", "java/lang/Exception"]).filter (fun w => !goodWord w) = [.declares (Bundle.initS "java/lang/RuntimeException"), .declares (Bundle.initS "java/lang/Exception"), .declares (Bundle.initS Bundle.tN), .castable cs_IOB cs_IOB] := by decide +kernel
/-! calls: a callee that writes nothing and may throw; a callee that writes within its world -/
def cs_XC (bad : String → Prop) : String → State → State → Prop := fun E st t => bad E ∧ st.heap.size ≤ t.heap.size ∧ ∀ q : Nat, q < st.heap.size → t.heap[q]? = st.heap[q]?
def cs_Sv (ok : Prop) : Array Value → State → Outcome → State → Prop := fun _ st o t => o = .returned none ∧ ok ∧ t.heap = st.heap
def cs_Sr (r : Nat) (ok : Prop) : Array Value → State → Outcome → State → Prop := fun _ st o t => o = .returned (some (.ref r)) ∧ ok ∧ t.heap = st.heap
def cs_Wd {S : Type} (D : va_G) (w : va_W) (w' : S → va_W) (u : S) (st t : State) : Prop := va_P D vwCl (w' u) t.heap ∧ va_D (va_A w st.heap.size) (w' u) ∧ va_F (va_A w st.heap.size) st t
def cs_Qw {S : Type} (D : va_G) (w : va_W) (w' : S → va_W) (post : Int32 → S → Prop) : Array Value → State → Outcome → State → Prop := fun _ st o t => ∃ (r : Int32) (u : S), o = .returned (some (.int r)) ∧ post r u ∧ cs_Wd D w w' u st t
def cs_Qv {S : Type} (D : va_G) (w : va_W) (w' : S → va_W) (post : S → Prop) : Array Value → State → Outcome → State → Prop := fun _ st o t => ∃ u : S, o = .returned none ∧ post u ∧ cs_Wd D w w' u st t
section CSC
variable {p : Program} {l : Launch} {e : Env} {R : Room} {s : State} {m : MethodId} {args : Array Value} {below : List Frame} {meth : Method} {c : Code} {H : Heap} {locs : List Loc} {cells slots : Nat} {Q : State → Prop}
variable {pc : Nat} {ls : Array Slot} {rest st0 : List Value} {a : Array Value} {A0 : Nat → Prop} {H0 : Heap} {mc ms : Nat}
theorem cs_xcalli {post : Int32 → Prop} {bad : String → Prop} (hr : vx_Run p l e R s m args below meth c H locs cells slots mc ms (F0 m pc ls st0) rest (vp_Si post a) (cs_XC bad) (fun _ => False))
    (kx : ∀ (E : String) (ce : Cell) (q9 : Addr) (H1 : Heap), bad E → H.size ≤ H1.size → (∀ q : Nat, q < H.size → H1[q]? = H[q]?) → H1[q9]? = some ce → ce.vm = .none → s.vm.findClass E = some ce.cls → vx_W p l e R s m args below meth c H1 locs (cells + mc) (slots + ms) Q (F0 m pc ls rest) q9)
    (kk : ∀ r : Int32, post r → W p l e R s m args below meth c H locs (cells + mc) (slots + ms) Q (F0 m (pc + 3) ls (.int r :: rest))) : W p l e R s m args below meth c H locs cells slots Q (F0 m pc ls st0) := by
  intro T hT X
  rcases hr T hT X with ⟨v, st₀, t, T', L, h0, X', hL, e1, e2, ⟨r, hv, hp, hh⟩, st⟩ | ⟨q, st₀, t, T', L, E, ce, h0, X', hL, e1, e2, ⟨hbad, hz, hk⟩, hce, hcv, hcl, st⟩
  · cases hv
    have hL0 : L = [] := List.eq_nil_iff_forall_not_mem.mpr (fun q h => hL q h)
    subst hL0
    rw [List.append_nil] at X'
    obtain ⟨t2, a1, b1⟩ := kk r hp T' (by rw [e1, hh, h0]) X'
    exact ⟨t2, st t2 a1, b1⟩
  · have hL0 : L = [] := List.eq_nil_iff_forall_not_mem.mpr (fun q h => hL q h)
    subst hL0
    rw [List.append_nil] at X'
    rw [h0] at hz hk
    obtain ⟨t2, a1, b1⟩ := kx E ce q T'.heap hbad (by rw [e1]; exact hz) (fun x hx => by rw [e1]; exact hk x hx) (by rw [e1]; exact hce) hcv hcl T' rfl X'
    exact ⟨t2, st.trans a1, b1⟩
theorem cs_xcallv {ok : Prop} {bad : String → Prop} (hr : vx_Run p l e R s m args below meth c H locs cells slots mc ms (F0 m pc ls st0) rest (cs_Sv ok a) (cs_XC bad) (fun _ => False))
    (kx : ∀ (E : String) (ce : Cell) (q9 : Addr) (H1 : Heap), bad E → H.size ≤ H1.size → (∀ q : Nat, q < H.size → H1[q]? = H[q]?) → H1[q9]? = some ce → ce.vm = .none → s.vm.findClass E = some ce.cls → vx_W p l e R s m args below meth c H1 locs (cells + mc) (slots + ms) Q (F0 m pc ls rest) q9)
    (kk : ok → W p l e R s m args below meth c H locs (cells + mc) (slots + ms) Q (F0 m (pc + 3) ls rest)) : W p l e R s m args below meth c H locs cells slots Q (F0 m pc ls st0) := by
  intro T hT X
  rcases hr T hT X with ⟨v, st₀, t, T', L, h0, X', hL, e1, e2, ⟨hv, hp, hh⟩, st⟩ | ⟨q, st₀, t, T', L, E, ce, h0, X', hL, e1, e2, ⟨hbad, hz, hk⟩, hce, hcv, hcl, st⟩
  · cases hv
    have hL0 : L = [] := List.eq_nil_iff_forall_not_mem.mpr (fun q h => hL q h)
    subst hL0
    rw [List.append_nil] at X'
    obtain ⟨t2, a1, b1⟩ := kk hp T' (by rw [e1, hh, h0]) X'
    exact ⟨t2, st t2 a1, b1⟩
  · have hL0 : L = [] := List.eq_nil_iff_forall_not_mem.mpr (fun q h => hL q h)
    subst hL0
    rw [List.append_nil] at X'
    rw [h0] at hz hk
    obtain ⟨t2, a1, b1⟩ := kx E ce q T'.heap hbad (by rw [e1]; exact hz) (fun x hx => by rw [e1]; exact hk x hx) (by rw [e1]; exact hce) hcv hcl T' rfl X'
    exact ⟨t2, st.trans a1, b1⟩
theorem cs_xcallr {b : Nat} {ok : Prop} {bad : String → Prop} (hr : vx_Run p l e R s m args below meth c H locs cells slots mc ms (F0 m pc ls st0) rest (cs_Sr b ok a) (cs_XC bad) (fun _ => False))
    (kx : ∀ (E : String) (ce : Cell) (q9 : Addr) (H1 : Heap), bad E → H.size ≤ H1.size → (∀ q : Nat, q < H.size → H1[q]? = H[q]?) → H1[q9]? = some ce → ce.vm = .none → s.vm.findClass E = some ce.cls → vx_W p l e R s m args below meth c H1 locs (cells + mc) (slots + ms) Q (F0 m pc ls rest) q9)
    (kk : ok → W p l e R s m args below meth c H locs (cells + mc) (slots + ms) Q (F0 m (pc + 3) ls (.ref b :: rest))) : W p l e R s m args below meth c H locs cells slots Q (F0 m pc ls st0) := by
  intro T hT X
  rcases hr T hT X with ⟨v, st₀, t, T', L, h0, X', hL, e1, e2, ⟨hv, hp, hh⟩, st⟩ | ⟨q, st₀, t, T', L, E, ce, h0, X', hL, e1, e2, ⟨hbad, hz, hk⟩, hce, hcv, hcl, st⟩
  · cases hv
    have hL0 : L = [] := List.eq_nil_iff_forall_not_mem.mpr (fun q h => hL q h)
    subst hL0
    rw [List.append_nil] at X'
    obtain ⟨t2, a1, b1⟩ := kk hp T' (by rw [e1, hh, h0]) X'
    exact ⟨t2, st t2 a1, b1⟩
  · have hL0 : L = [] := List.eq_nil_iff_forall_not_mem.mpr (fun q h => hL q h)
    subst hL0
    rw [List.append_nil] at X'
    rw [h0] at hz hk
    obtain ⟨t2, a1, b1⟩ := kx E ce q T'.heap hbad (by rw [e1]; exact hz) (fun x hx => by rw [e1]; exact hk x hx) (by rw [e1]; exact hce) hcv hcl T' rfl X'
    exact ⟨t2, st.trans a1, b1⟩
/-- a callee that writes within its world w -/
theorem cs_wcalli {S : Type} {D : va_G} {w : va_W} {w' : S → va_W} {post : Int32 → S → Prop} (hr : va_Run p l e R s m args below meth c H locs cells slots mc ms (F0 m pc ls st0) rest (cs_Qw D w w' post a) (va_A w H.size)) (hS : va_S A0 H0 H locs) (hF : ∀ q, va_A w H.size q → A0 q)
    (kk : ∀ (r : Int32) (u : S) (H1 : Heap) (locs1 : List Loc), post r u → va_P D vwCl (w' u) H1 → va_D (va_A w H.size) (w' u) → H.size ≤ H1.size → (∀ q : Nat, q < H.size → ¬ va_A w H.size q → H1[q]? = H[q]?) → va_S A0 H0 H1 locs1 → W p l e R s m args below meth c H1 locs1 (cells + mc) (slots + ms) Q (F0 m (pc + 3) ls (.int r :: rest))) : W p l e R s m args below meth c H locs cells slots Q (F0 m pc ls st0) := by
  intro T hT X
  obtain ⟨v, st₀, t, T', L, h0, X', hL, e1, e2, ⟨r, u, hv, hp, hP, hD, hFr⟩, st⟩ := hr T hT X
  cases hv
  rw [h0] at hD hFr
  obtain ⟨k1, k2, k3⟩ := vx_keep h0 e1 hS (fun q _ h => hF q h) (fun q h => hF q h) hL hFr
  obtain ⟨t2, a1, b1⟩ := kk r u T'.heap (locs ++ L) hp (by rw [e1]; exact hP) hD k1 k2 k3 T' rfl X'
  exact ⟨t2, st t2 a1, b1⟩
theorem cs_wcallv {S : Type} {D : va_G} {w : va_W} {w' : S → va_W} {post : S → Prop} (hr : va_Run p l e R s m args below meth c H locs cells slots mc ms (F0 m pc ls st0) rest (cs_Qv D w w' post a) (va_A w H.size)) (hS : va_S A0 H0 H locs) (hF : ∀ q, va_A w H.size q → A0 q)
    (kk : ∀ (u : S) (H1 : Heap) (locs1 : List Loc), post u → va_P D vwCl (w' u) H1 → va_D (va_A w H.size) (w' u) → H.size ≤ H1.size → (∀ q : Nat, q < H.size → ¬ va_A w H.size q → H1[q]? = H[q]?) → va_S A0 H0 H1 locs1 → W p l e R s m args below meth c H1 locs1 (cells + mc) (slots + ms) Q (F0 m (pc + 3) ls rest)) : W p l e R s m args below meth c H locs cells slots Q (F0 m pc ls st0) := by
  intro T hT X
  obtain ⟨v, st₀, t, T', L, h0, X', hL, e1, e2, ⟨u, hv, hp, hP, hD, hFr⟩, st⟩ := hr T hT X
  cases hv
  rw [h0] at hD hFr
  obtain ⟨k1, k2, k3⟩ := vx_keep h0 e1 hS (fun q _ h => hF q h) (fun q h => hF q h) hL hFr
  obtain ⟨t2, a1, b1⟩ := kk u T'.heap (locs ++ L) hp (by rw [e1]; exact hP) hD k1 k2 k3 T' rfl X'
  exact ⟨t2, st t2 a1, b1⟩
/-- .. and may throw, nothing written then -/
theorem cs_wxcalli {S : Type} {D : va_G} {w : va_W} {w' : S → va_W} {post : Int32 → S → Prop} {bad : String → Prop} (hr : vx_Run p l e R s m args below meth c H locs cells slots mc ms (F0 m pc ls st0) rest (cs_Qw D w w' post a) (cs_XC bad) (va_A w H.size)) (hS : va_S A0 H0 H locs) (hF : ∀ q, va_A w H.size q → A0 q)
    (kx : ∀ (E : String) (ce : Cell) (q9 : Addr) (H1 : Heap) (locs1 : List Loc), bad E → H.size ≤ H1.size → (∀ q : Nat, q < H.size → H1[q]? = H[q]?) → va_S A0 H0 H1 locs1 → H1[q9]? = some ce → ce.vm = .none → s.vm.findClass E = some ce.cls → vx_W p l e R s m args below meth c H1 locs1 (cells + mc) (slots + ms) Q (F0 m pc ls rest) q9)
    (kk : ∀ (r : Int32) (u : S) (H1 : Heap) (locs1 : List Loc), post r u → va_P D vwCl (w' u) H1 → va_D (va_A w H.size) (w' u) → H.size ≤ H1.size → (∀ q : Nat, q < H.size → ¬ va_A w H.size q → H1[q]? = H[q]?) → va_S A0 H0 H1 locs1 → W p l e R s m args below meth c H1 locs1 (cells + mc) (slots + ms) Q (F0 m (pc + 3) ls (.int r :: rest))) : W p l e R s m args below meth c H locs cells slots Q (F0 m pc ls st0) := by
  intro T hT X
  rcases hr T hT X with ⟨v, st₀, t, T', L, h0, X', hL, e1, e2, ⟨r, u, hv, hp, hP, hD, hFr⟩, st⟩ | ⟨q, st₀, t, T', L, E, ce, h0, X', hL, e1, e2, ⟨hbad, hz, hk⟩, hce, hcv, hcl, st⟩
  · cases hv
    rw [h0] at hD hFr
    obtain ⟨k1, k2, k3⟩ := vx_keep h0 e1 hS (fun q _ h => hF q h) (fun q h => hF q h) hL hFr
    obtain ⟨t2, a1, b1⟩ := kk r u T'.heap (locs ++ L) hp (by rw [e1]; exact hP) hD k1 k2 k3 T' rfl X'
    exact ⟨t2, st t2 a1, b1⟩
  · have hFr : va_F (fun _ => False) st₀ t := ⟨hz, fun q hq _ => hk q hq⟩
    obtain ⟨k1, k2, k3⟩ := vx_keep h0 e1 hS (fun q _ h => h.elim) (fun q h => hF q h) hL hFr
    obtain ⟨t2, a1, b1⟩ := kx E ce q T'.heap (locs ++ L) hbad k1 (fun x hx => k2 x hx (fun z => z)) k3 (by rw [e1]; exact hce) hcv hcl T' rfl X'
    exact ⟨t2, st.trans a1, b1⟩
/-- a thrown exception leaves a method that has written nothing -/
theorem cs_xout {Qc : Array Value → State → Outcome → State → Prop} {bad bad' : String → Prop} {mc' ms' : Nat} {free : Addr → Prop} (hout : ∀ x ∈ c.exceptionTable.toList, False) (hlocks : meth.locks = false) (hbb : ∀ E, bad E → bad' E) (hc : cells ≤ mc') (hs : slots ≤ ms') (E : String) (ce : Cell) (q9 : Addr) (H1 : Heap) (h1 : bad E) (h2 : s.heap.size ≤ H1.size) (h3 : ∀ q : Nat, q < s.heap.size → H1[q]? = s.heap[q]?) (h4 : H1[q9]? = some ce) (h5 : ce.vm = .none) (h6 : s.vm.findClass E = some ce.cls) : vx_W p l e R s m args below meth c H1 [] cells slots (vx_MQ below Qc (cs_XC bad') args s mc' ms' free) (F0 m pc ls rest) q9 :=
  vx_out (fun x hx => (hout x hx).elim) hlocks h4 h5 h6 (fun t ht _ => ⟨hbb E h1, by rw [ht]; exact h2, fun q hq => by rw [ht]; exact h3 q hq⟩) (fun z hz => by cases hz) hc hs
end CSC
/-- the throw of an exception of the class ChecksumLab, nothing written yet -/
theorem cs_throw {p : Program} {l : Launch} {e : Env} {R : Room} {s : State} {m : MethodId} {args : Array Value} {below : List Frame} {meth : Method} {c : Code} {cells slots : Nat} {pc : Nat} {ls : Array Slot} {rest : List Value} {Qc : Array Value → State → Outcome → State → Prop} {bad : String → Prop} {mc ms : Nat} {free : Addr → Prop} {cc : ByteArray} {Ts : List Cond} {cls text : String} {ik is ic : Nat}
    (hexec : p.tables.exec = Jvm.exec) (hb : c.code = cc) (hlf : l.stackTraces = false) (hown : s.vm.findClass RX1 = some m.cls) (hts : ∀ w ∈ Ts, w.before args s = true) (hcls : Bundle.fit cls = true)
    (hng : (vx_atS RX1 ic cls ["java/lang/RuntimeException", "java/lang/Exception"]).filter (fun w => !goodWord w) = [.declares (Bundle.initS "java/lang/RuntimeException"), .declares (Bundle.initS "java/lang/Exception"), .declares (Bundle.initS Bundle.tN), .castable cls cls]) (hE : cs_en s) (hcast : va_Nw (.castable cls cls) s) (hot : (vx_atS RX1 ic cls ["java/lang/RuntimeException", "java/lang/Exception"]).all vx_ot = true)
    (hin : ∀ w ∈ (vx_atS RX1 ic cls ["java/lang/RuntimeException", "java/lang/Exception"]).filter goodWord, w ∈ Ts) (hk : Cond.classLink RX1 ik cls ∈ Ts) (hini : Cond.initialized cls ∈ Ts) (hstr : cs_str is text s) (hz : cs_zz (fun q => s.heap.size ≤ q) s s.heap) (hsize : ls.size = c.maxLocals)
    (d0 : decode cc pc = .ok (.new ik, 3)) (d3 : decode cc (pc + 3) = .ok (.dup, 1)) (d4 : decode cc (pc + 4) = .ok (.ldc is, 2)) (d6 : decode cc (pc + 6) = .ok (.invokespecial ic, 3)) (d9 : decode cc (pc + 9) = .ok (.athrow, 1))
    (hout : ∀ x ∈ c.exceptionTable.toList, False) (hRf : 5 < R.frames) (hRl : (rest.map fun v => v.category).sum + 82 ≤ R.locals) (hRc : cells + 1 ≤ R.cells) (hRs : slots + 6 ≤ R.slots) (hlocks : meth.locks = false) (hbad : bad cls) (hc : cells + 1 ≤ mc) (hs : slots + 6 ≤ ms) :
    W p l e R s m args below meth c s.heap [] cells slots (vx_MQ below Qc (cs_XC bad) args s mc ms free) (F0 m pc ls rest) := by
  obtain ⟨sa, hsa⟩ := hstr
  have hat : ∀ w ∈ vx_atS RX1 ic cls ["java/lang/RuntimeException", "java/lang/Exception"], w.before args s = true := vx_hat (B := [.declares (Bundle.initS "java/lang/RuntimeException"), .declares (Bundle.initS "java/lang/Exception"), .declares (Bundle.initS Bundle.tN), .castable cls cls]) (fun w hw => hts w (hin w hw)) (fun w hw => by rw [hng] at hw; exact hw) (vx_c (va_Nw.use rfl hE.2.1.2.2.2.1) (vx_c (va_Nw.use rfl hE.2.1.2.2.2.2.1) (vx_c (va_Nw.use rfl hE.2.1.2.2.2.2.2) (vx_c (va_Nw.use rfl hcast) vx_n))))
  refine vx_throwS (names := ["java/lang/RuntimeException", "java/lang/Exception"]) (A := fun q => s.heap.size ≤ q) hexec hb hlf hown hcls (by decide +kernel) (hts _ hk) (hts _ hini) hsa hat ?_ hz.1 hz.2 va_S.rf hsize d0 d3 d4 d6 d9 (fun x hx => (hout x hx).elim) hRf hRl hRc hRs hlocks (fun t _ h1 h2 => ⟨hbad, h1, h2⟩) (fun z hz => by cases hz) hc hs
  intro w hw
  rcases List.mem_cons.mp hw with h | h
  · rw [h]; rfl
  · rcases List.mem_cons.mp h with h | h
    · rw [h]; rfl
    · exact List.all_eq_true.mp hot w h
theorem cs_ot1 : (vx_atS RX1 32 cs_IAE ["java/lang/RuntimeException", "java/lang/Exception"]).all vx_ot = true := by decide +kernel
theorem cs_ot2 : (vx_atS RX1 43 cs_ISE ["java/lang/RuntimeException", "java/lang/Exception"]).all vx_ot = true := by decide +kernel
theorem cs_ot3 : (vx_atS RX1 105 cs_IOB ["java/lang/RuntimeException", "java/lang/Exception"]).all vx_ot = true := by decide +kernel
/-! starts and contracts of methods that write, or throw -/
def cs_Bw (D : va_G) (tys : List (ClassId × FieldType)) (ws : va_W) (sz : Nat) (U : State) : Prop := U.heap.size = sz ∧ cs_en U ∧ va_P D vwCl ws U.heap ∧ va_K D vwCl tys U ∧ va_D (fun _ => True) ws
theorem cs_Bw.blind {D : va_G} {tys : List (ClassId × FieldType)} {ws : va_W} {sz : Nat} {av : List Value} : FrameBlind (va_Pc av (cs_Bw D tys ws sz)) := fun a U g mk q =>
  ⟨q.1, q.2.1, cs_en.warm (s := U) (U := U.calling g mk a) (State.WarmedH.refl U) q.2.2.1, q.2.2.2.1, va_K.moved (u := U) (U := U.calling g mk a) (Vm.Alike.refl U.vm) q.2.2.2.2.1, q.2.2.2.2.2⟩
theorem cs_Bw.at {D : va_G} {tys : List (ClassId × FieldType)} {ws : va_W} {av : List Value} {s : State} {H : Heap} {A : Nat → Prop} (hE : cs_en s) (hP : va_P D vwCl ws H) (hK : va_K D vwCl tys s) (hD : va_D A ws) : ∀ U : State, U.heap = H → s.WarmedH U.vm → va_Pc av (cs_Bw D tys ws H.size) av.toArray U := fun U hU hW =>
  ⟨rfl, by rw [hU], hE.warm hW, by rw [hU]; exact hP, va_K.moved hW.alike hK, hD.weaken (fun _ _ _ _ => trivial)⟩
abbrev cs_Mw {S : Type} (l : Launch) (y : MethodName) (ws : List Cond) (rm : Room) (D : va_G) (tys : List (ClassId × FieldType)) (w : va_W) (sz : Nat) (av : List Value) (w' : S → va_W) (post : Int32 → S → Prop) : Prop := Met l y ws rm (va_Pc av (cs_Bw D tys w sz)) (cs_Qw D w w' post) 0 0 (va_A w sz)
abbrev cs_Mv {S : Type} (l : Launch) (y : MethodName) (ws : List Cond) (rm : Room) (D : va_G) (tys : List (ClassId × FieldType)) (w : va_W) (sz : Nat) (av : List Value) (w' : S → va_W) (post : S → Prop) : Prop := Met l y ws rm (va_Pc av (cs_Bw D tys w sz)) (cs_Qv D w w' post) 0 0 (va_A w sz)
/-- with the statics of Throwable: of a method that may throw and writes nothing -/
def cs_Bx (D : va_G) (tys : List (ClassId × FieldType)) (ws : va_W) (U : State) : Prop := cs_en U ∧ cs_zz (fun q => U.heap.size ≤ q) U U.heap ∧ va_P D vwCl ws U.heap ∧ va_K D vwCl tys U
theorem cs_Bx.blind {D : va_G} {tys : List (ClassId × FieldType)} {ws : va_W} {av : List Value} : FrameBlind (va_Pc av (cs_Bx D tys ws)) := fun a U g mk q =>
  ⟨q.1, cs_en.warm (s := U) (U := U.calling g mk a) (State.WarmedH.refl U) q.2.1, cs_zz.moved (u := U) (U := U.calling g mk a) (Vm.Alike.refl U.vm) q.2.2.1, q.2.2.2.1, va_K.moved (u := U) (U := U.calling g mk a) (Vm.Alike.refl U.vm) q.2.2.2.2⟩
theorem cs_Bx.at {D : va_G} {tys : List (ClassId × FieldType)} {ws : va_W} {av : List Value} {s : State} {H : Heap} (hE : cs_en s) (hz : cs_zz (fun q => H.size ≤ q) s H) (hP : va_P D vwCl ws H) (hK : va_K D vwCl tys s) : ∀ U : State, U.heap = H → s.WarmedH U.vm → va_Pc av (cs_Bx D tys ws) av.toArray U := fun U hU hW =>
  ⟨rfl, hE.warm hW, by rw [hU]; exact hz.moved hW.alike, by rw [hU]; exact hP, va_K.moved hW.alike hK⟩
/-- .. and of one that may throw, and writes -/
def cs_By (D : va_G) (tys : List (ClassId × FieldType)) (ws : va_W) (sz : Nat) (U : State) : Prop := U.heap.size = sz ∧ cs_en U ∧ cs_zz (va_A ws sz) U U.heap ∧ va_P D vwCl ws U.heap ∧ va_K D vwCl tys U ∧ va_D (fun _ => True) ws
theorem cs_By.blind {D : va_G} {tys : List (ClassId × FieldType)} {ws : va_W} {sz : Nat} {av : List Value} : FrameBlind (va_Pc av (cs_By D tys ws sz)) := fun a U g mk q =>
  ⟨q.1, q.2.1, cs_en.warm (s := U) (U := U.calling g mk a) (State.WarmedH.refl U) q.2.2.1, cs_zz.moved (u := U) (U := U.calling g mk a) (Vm.Alike.refl U.vm) q.2.2.2.1, q.2.2.2.2.1, va_K.moved (u := U) (U := U.calling g mk a) (Vm.Alike.refl U.vm) q.2.2.2.2.2.1, q.2.2.2.2.2.2⟩
theorem cs_By.at {D : va_G} {tys : List (ClassId × FieldType)} {ws : va_W} {av : List Value} {s : State} {H : Heap} {A : Nat → Prop} (hE : cs_en s) (hz : cs_zz (va_A ws H.size) s H) (hP : va_P D vwCl ws H) (hK : va_K D vwCl tys s) (hD : va_D A ws) : ∀ U : State, U.heap = H → s.WarmedH U.vm → va_Pc av (cs_By D tys ws H.size) av.toArray U := fun U hU hW =>
  ⟨rfl, by rw [hU], hE.warm hW, by rw [hU]; exact hz.moved hW.alike, by rw [hU]; exact hP, va_K.moved hW.alike hK, hD.weaken (fun _ _ _ _ => trivial)⟩
abbrev cs_Xi (l : Launch) (y : MethodName) (ws : List Cond) (rm : Room) (D : va_G) (tys : List (ClassId × FieldType)) (w : va_W) (av : List Value) (post : Int32 → Prop) (bad : String → Prop) (mc ms : Nat) : Prop := vx_Met l y ws rm (va_Pc av (cs_Bx D tys w)) (vp_Si post) (cs_XC bad) mc ms (fun _ => False)
abbrev cs_Xv (l : Launch) (y : MethodName) (ws : List Cond) (rm : Room) (D : va_G) (tys : List (ClassId × FieldType)) (w : va_W) (av : List Value) (ok : Prop) (bad : String → Prop) (mc ms : Nat) : Prop := vx_Met l y ws rm (va_Pc av (cs_Bx D tys w)) (cs_Sv ok) (cs_XC bad) mc ms (fun _ => False)
abbrev cs_Xr (l : Launch) (y : MethodName) (ws : List Cond) (rm : Room) (D : va_G) (tys : List (ClassId × FieldType)) (w : va_W) (av : List Value) (r : Nat) (ok : Prop) (bad : String → Prop) (mc ms : Nat) : Prop := vx_Met l y ws rm (va_Pc av (cs_Bx D tys w)) (cs_Sr r ok) (cs_XC bad) mc ms (fun _ => False)
abbrev cs_Xw {S : Type} (l : Launch) (y : MethodName) (ws : List Cond) (rm : Room) (D : va_G) (tys : List (ClassId × FieldType)) (w : va_W) (sz : Nat) (av : List Value) (w' : S → va_W) (post : Int32 → S → Prop) (bad : String → Prop) (mc ms : Nat) : Prop := vx_Met l y ws rm (va_Pc av (cs_By D tys w sz)) (cs_Qw D w w' post) (cs_XC bad) mc ms (va_A w sz)
/-! array rows at an index that is a number -/
section CSA
variable {p : Program} {l : Launch} {e : Env} {R : Room} {s : State} {m : MethodId} {args : Array Value} {below : List Frame} {meth : Method} {c : Code} {H : Heap} {locs : List Loc} {cells slots : Nat} {Q : State → Prop}
variable {cc : ByteArray} {pc : Nat} {ls : Array Slot} {rest : List Value} {D : va_G} {cl : List vw_C} {A : Nat → Prop} {a : Nat} {tys : List (ClassId × FieldType)} {ws : va_W} {H0 : Heap}
theorem cs_iald (hexec : p.tables.exec = Jvm.exec) (hb : c.code = cc) (hK : va_K D cl tys s) (hP : va_P D cl ws H) (q0 t0 : Nat) {cA : ClassId} {n k : Nat} {f : Nat → Int32} (ha : ws[q0]? = some (a, .inl (cA, n, .inl f))) (ht : tys[t0]? = some (cA, .int)) (hk : k < n) (hn : n ≤ 1024) (hdg : decode cc pc = .ok (.iaload, 1))
    (kk : W p l e R s m args below meth c H locs cells slots Q (F0 m (pc + 1) ls (.int (f k) :: rest))) : W p l e R s m args below meth c H locs cells slots Q (F0 m pc ls (.int (nI k) :: .ref a :: rest)) :=
  va_iald hexec hb hK hP q0 t0 ha ht (vp_in_nI hk (by omega)) hdg (by rw [nI_clamp (by omega)]; exact kk)
theorem cs_zald (hexec : p.tables.exec = Jvm.exec) (hb : c.code = cc) (hK : va_K D cl tys s) (hP : va_P D cl ws H) (q0 t0 : Nat) {cA : ClassId} {n k : Nat} {f : Nat → Int32} (ha : ws[q0]? = some (a, .inl (cA, n, .inl f))) (ht : tys[t0]? = some (cA, .boolean)) (hk : k < n) (hn : n ≤ 1024) (hdg : decode cc pc = .ok (.baload, 1))
    (kk : W p l e R s m args below meth c H locs cells slots Q (F0 m (pc + 1) ls (.int (f k) :: rest))) : W p l e R s m args below meth c H locs cells slots Q (F0 m pc ls (.int (nI k) :: .ref a :: rest)) :=
  va_zald hexec hb hK hP q0 t0 ha ht (vp_in_nI hk (by omega)) hdg (by rw [nI_clamp (by omega)]; exact kk)
theorem cs_lald (hexec : p.tables.exec = Jvm.exec) (hb : c.code = cc) (hK : va_K D cl tys s) (hP : va_P D cl ws H) (q0 t0 : Nat) {cA : ClassId} {n k : Nat} {f : Nat → Int64} (ha : ws[q0]? = some (a, .inl (cA, n, .inr (.inl f)))) (ht : tys[t0]? = some (cA, .long)) (hk : k < n) (hn : n ≤ 1024) (hdg : decode cc pc = .ok (.laload, 1))
    (kk : W p l e R s m args below meth c H locs cells slots Q (F0 m (pc + 1) ls (.long (f k) :: rest))) : W p l e R s m args below meth c H locs cells slots Q (F0 m pc ls (.int (nI k) :: .ref a :: rest)) :=
  va_lald hexec hb hK hP q0 t0 ha ht (vp_in_nI hk (by omega)) hdg (by rw [nI_clamp (by omega)]; exact kk)
theorem cs_aldq (hexec : p.tables.exec = Jvm.exec) (hb : c.code = cc) (hK : va_K D cl tys s) (hP : va_P D cl ws H) (q0 t0 : Nat) {cA : ClassId} {C : String} {n k : Nat} {f : Nat → Option Nat} (ha : ws[q0]? = some (a, .inl (cA, n, .inr (.inr (.inr (.inr f)))))) (ht : tys[t0]? = some (cA, .object C)) (hk : k < n) (hn : n ≤ 1024) (hdg : decode cc pc = .ok (.aaload, 1))
    (kk : W p l e R s m args below meth c H locs cells slots Q (F0 m (pc + 1) ls (va_rf (f k) :: rest))) : W p l e R s m args below meth c H locs cells slots Q (F0 m pc ls (.int (nI k) :: .ref a :: rest)) :=
  va_aldq hexec hb hK hP q0 t0 ha ht (vp_in_nI hk (by omega)) hdg (by rw [nI_clamp (by omega)]; exact kk)
theorem cs_aldA (hexec : p.tables.exec = Jvm.exec) (hb : c.code = cc) (hK : va_K D cl tys s) (hP : va_P D cl ws H) (q0 t0 : Nat) {cA : ClassId} {t : FieldType} {n k : Nat} {f : Nat → Option Nat} (ha : ws[q0]? = some (a, .inl (cA, n, .inr (.inr (.inr (.inr f)))))) (ht : tys[t0]? = some (cA, .array t)) (hk : k < n) (hn : n ≤ 1024) (hdg : decode cc pc = .ok (.aaload, 1))
    (kk : W p l e R s m args below meth c H locs cells slots Q (F0 m (pc + 1) ls (va_rf (f k) :: rest))) : W p l e R s m args below meth c H locs cells slots Q (F0 m pc ls (.int (nI k) :: .ref a :: rest)) := by
  have hc : (nI k).toNatClampNeg = k := nI_clamp (by omega)
  have hin : vp_in (nI k) n := vp_in_nI hk (by omega)
  exact W.aald (v := va_rf (f k)) (ty := .array t) hexec hb (hP q0 _ ha) ((hK.2 t0 _ ht).1 n (fun j => va_rf (f j))) rfl (fun q => by cases q) (by show ¬ (nI k < 0 ∨ (arrV _ _ _).slots.size ≤ _); rw [arrV_size]; exact hin) (by show (arrV _ _ _).slots[_]? = _; rw [hc, arrV_read _ _ hk]) rfl rfl hdg kk
theorem cs_iast (hexec : p.tables.exec = Jvm.exec) (hb : c.code = cc) (hK : va_K D cl tys s) (hP : va_P D cl ws H) (hD : va_D A ws) (hS : va_S A H0 H locs) (q0 t0 : Nat) {cA : ClassId} {n k : Nat} {f : Nat → Int32} (ha : ws[q0]? = some (a, .inl (cA, n, .inl f))) (ht : tys[t0]? = some (cA, .int)) {x : Int32} (hk : k < n) (hn : n ≤ 1024) (hdg : decode cc pc = .ok (.iastore, 1))
    (kk : ∀ (H1 : Heap) (locs1 : List Loc), va_P D cl (ws.set q0 (a, .inl (cA, n, .inl (upd f k x)))) H1 → va_D A (ws.set q0 (a, .inl (cA, n, .inl (upd f k x)))) → va_S A H0 H1 locs1 → W p l e R s m args below meth c H1 locs1 cells slots Q (F0 m (pc + 1) ls rest)) : W p l e R s m args below meth c H locs cells slots Q (F0 m pc ls (.int x :: .int (nI k) :: .ref a :: rest)) :=
  va_iast hexec hb hK hP hD hS q0 t0 ha ht (vp_in_nI hk (by omega)) hdg (by rw [nI_clamp (by omega)]; exact kk)
theorem cs_zast (hexec : p.tables.exec = Jvm.exec) (hb : c.code = cc) (hK : va_K D cl tys s) (hP : va_P D cl ws H) (hD : va_D A ws) (hS : va_S A H0 H locs) (q0 t0 : Nat) {cA : ClassId} {n k : Nat} {f : Nat → Int32} (ha : ws[q0]? = some (a, .inl (cA, n, .inl f))) (ht : tys[t0]? = some (cA, .boolean)) {x : Bool} (hk : k < n) (hn : n ≤ 1024) (hdg : decode cc pc = .ok (.bastore, 1))
    (kk : ∀ (H1 : Heap) (locs1 : List Loc), va_P D cl (ws.set q0 (a, .inl (cA, n, .inl (upd f k (cs_z x))))) H1 → va_D A (ws.set q0 (a, .inl (cA, n, .inl (upd f k (cs_z x))))) → va_S A H0 H1 locs1 → W p l e R s m args below meth c H1 locs1 cells slots Q (F0 m (pc + 1) ls rest)) : W p l e R s m args below meth c H locs cells slots Q (F0 m pc ls (.int (cs_z x) :: .int (nI k) :: .ref a :: rest)) :=
  va_zast hexec hb hK hP hD hS q0 t0 ha ht (vp_in_nI hk (by omega)) hdg (by rw [nI_clamp (by omega), cs_z_vn]; exact kk)
theorem cs_last (hexec : p.tables.exec = Jvm.exec) (hb : c.code = cc) (hK : va_K D cl tys s) (hP : va_P D cl ws H) (hD : va_D A ws) (hS : va_S A H0 H locs) (q0 t0 : Nat) {cA : ClassId} {n k : Nat} {f : Nat → Int64} (ha : ws[q0]? = some (a, .inl (cA, n, .inr (.inl f)))) (ht : tys[t0]? = some (cA, .long)) {x : Int64} (hk : k < n) (hn : n ≤ 1024) (hdg : decode cc pc = .ok (.lastore, 1))
    (kk : ∀ (H1 : Heap) (locs1 : List Loc), va_P D cl (ws.set q0 (a, .inl (cA, n, .inr (.inl (vp_updL f k x))))) H1 → va_D A (ws.set q0 (a, .inl (cA, n, .inr (.inl (vp_updL f k x))))) → va_S A H0 H1 locs1 → W p l e R s m args below meth c H1 locs1 cells slots Q (F0 m (pc + 1) ls rest)) : W p l e R s m args below meth c H locs cells slots Q (F0 m pc ls (.long x :: .int (nI k) :: .ref a :: rest)) :=
  va_last hexec hb hK hP hD hS q0 t0 ha ht (vp_in_nI hk (by omega)) hdg (by rw [nI_clamp (by omega)]; exact kk)
end CSA
/-! worlds side by side -/
theorem cs_off {A0 : Nat → Prop} {D : va_G} {w1 w2 : va_W} {H : Heap} (hP : va_P D vwCl (w1 ++ w2) H) (hD : va_D A0 (w1 ++ w2)) (k : Nat) (q : Nat × va_E) (h : w2[k]? = some q) : (w1 ++ w2)[w1.length + k]? = some q ∧ q.1 < H.size ∧ ¬ va_A w1 H.size q.1 := by
  have h2 : (w1 ++ w2)[w1.length + k]? = some q := by rw [List.getElem?_append_right (by omega), Nat.add_sub_cancel_left]; exact h
  have hl := (hP _ q h2).lt
  refine ⟨h2, hl, fun z => ?_⟩
  rcases z with ⟨i, e, z⟩ | z
  · have hi := (List.getElem?_eq_some_iff.mp z).1
    have h3 : (w1 ++ w2)[i]? = some (q.1, e) := by rw [List.getElem?_append_left hi]; exact z
    have := hD.1 _ _ q (q.1, e) h2 h3 rfl
    omega
  · omega
theorem cs_offR {A0 : Nat → Prop} {D : va_G} {w1 w2 : va_W} {H : Heap} (hP : va_P D vwCl (w1 ++ w2) H) (hD : va_D A0 (w1 ++ w2)) (k : Nat) (q : Nat × va_E) (h : w1[k]? = some q) : (w1 ++ w2)[k]? = some q ∧ q.1 < H.size ∧ ¬ va_A w2 H.size q.1 := by
  have hk := (List.getElem?_eq_some_iff.mp h).1
  have h2 : (w1 ++ w2)[k]? = some q := by rw [List.getElem?_append_left hk]; exact h
  have hl := (hP _ q h2).lt
  refine ⟨h2, hl, fun z => ?_⟩
  rcases z with ⟨i, e, z⟩ | z
  · have h3 : (w1 ++ w2)[w1.length + i]? = some (q.1, e) := by rw [List.getElem?_append_right (by omega), Nat.add_sub_cancel_left]; exact z
    have := hD.1 _ _ q (q.1, e) h2 h3 rfl
    omega
  · omega
theorem cs_PL {D : va_G} {w1 w2 : va_W} {H : Heap} (hP : va_P D vwCl (w1 ++ w2) H) : va_P D vwCl w1 H := fun k q h => hP k q (by rw [List.getElem?_append_left (List.getElem?_eq_some_iff.mp h).1]; exact h)
theorem cs_PR {D : va_G} {w1 w2 : va_W} {H : Heap} (hP : va_P D vwCl (w1 ++ w2) H) : va_P D vwCl w2 H := fun k q h => hP (w1.length + k) q (by rw [List.getElem?_append_right (by omega), Nat.add_sub_cancel_left]; exact h)
theorem cs_DL {A : Nat → Prop} {w1 w2 : va_W} (hD : va_D A (w1 ++ w2)) : va_D A w1 :=
  ⟨fun i j x y hx hy e => hD.1 i j x y (by rw [List.getElem?_append_left (List.getElem?_eq_some_iff.mp hx).1]; exact hx) (by rw [List.getElem?_append_left (List.getElem?_eq_some_iff.mp hy).1]; exact hy) e, fun k q h => hD.2 k q (by rw [List.getElem?_append_left (List.getElem?_eq_some_iff.mp h).1]; exact h)⟩
theorem cs_DR {A : Nat → Prop} {w1 w2 : va_W} (hD : va_D A (w1 ++ w2)) : va_D A w2 :=
  ⟨fun i j x y hx hy e => by
    have := hD.1 (w1.length + i) (w1.length + j) x y (by rw [List.getElem?_append_right (by omega), Nat.add_sub_cancel_left]; exact hx) (by rw [List.getElem?_append_right (by omega), Nat.add_sub_cancel_left]; exact hy) e
    omega, fun k q h => hD.2 (w1.length + k) q (by rw [List.getElem?_append_right (by omega), Nat.add_sub_cancel_left]; exact h)⟩
theorem cs_joinL {A0 : Nat → Prop} {D : va_G} {w1 w2 w1' : va_W} {H H1 : Heap} (hP : va_P D vwCl (w1 ++ w2) H) (hD : va_D A0 (w1 ++ w2)) (hk : ∀ q : Nat, q < H.size → ¬ va_A w1 H.size q → H1[q]? = H[q]?) (hF : ∀ q, va_A w1 H.size q → A0 q) (hP1 : va_P D vwCl w1' H1) (hD1 : va_D (va_A w1 H.size) w1') : va_P D vwCl (w1' ++ w2) H1 ∧ va_D A0 (w1' ++ w2) := by
  refine ⟨va_P.app hP1 (fun k q hq => ?_), va_D.app (hD1.weaken (fun k q _ h => hF q.1 h)) (cs_DR hD) (fun i j x y hx hy hxy => ?_)⟩
  · obtain ⟨h1, h2, h3⟩ := cs_off hP hD k q hq
    exact (hP _ q h1).kept (hk q.1 h2 h3)
  · obtain ⟨h1, h2, h3⟩ := cs_off hP hD j y hy
    exact h3 (by rw [← hxy]; exact hD1.2 i x hx)
theorem cs_joinR {A0 : Nat → Prop} {D : va_G} {w1 w2 w2' : va_W} {H H1 : Heap} (hP : va_P D vwCl (w1 ++ w2) H) (hD : va_D A0 (w1 ++ w2)) (hk : ∀ q : Nat, q < H.size → ¬ va_A w2 H.size q → H1[q]? = H[q]?) (hF : ∀ q, va_A w2 H.size q → A0 q) (hP1 : va_P D vwCl w2' H1) (hD1 : va_D (va_A w2 H.size) w2') : va_P D vwCl (w1 ++ w2') H1 ∧ va_D A0 (w1 ++ w2') := by
  refine ⟨va_P.app (fun k q hq => ?_) hP1, va_D.app (cs_DL hD) (hD1.weaken (fun k q _ h => hF q.1 h)) (fun i j x y hx hy hxy => ?_)⟩
  · obtain ⟨h1, h2, h3⟩ := cs_offR hP hD k q hq
    exact (hP _ q h1).kept (hk q.1 h2 h3)
  · obtain ⟨h1, h2, h3⟩ := cs_offR hP hD i x hx
    exact h3 (by rw [hxy]; exact hD1.2 j y hy)
theorem cs_keep {D : va_G} {w : va_W} {H H1 : Heap} (hP : va_P D vwCl w H) (h : ∀ q : Nat, q < H.size → H1[q]? = H[q]?) : va_P D vwCl w H1 := hP.kept (fun k q hq => h q.1 (hP k q hq).lt)
theorem cs_inL {A0 : Nat → Prop} {w1 w2 : va_W} {H0 H : Heap} {locs : List Loc} (hD : va_D A0 (w1 ++ w2)) (hS : va_S A0 H0 H locs) (hA : ∀ q, H0.size ≤ q → A0 q) : ∀ q, va_A w1 H.size q → A0 q := fun q h => by
  rcases h with ⟨k, e, h⟩ | h
  · exact (cs_DL hD).2 k (q, e) h
  · exact hA q (Nat.le_trans hS.1 h)
theorem cs_inR {A0 : Nat → Prop} {w1 w2 : va_W} {H0 H : Heap} {locs : List Loc} (hD : va_D A0 (w1 ++ w2)) (hS : va_S A0 H0 H locs) (hA : ∀ q, H0.size ≤ q → A0 q) : ∀ q, va_A w2 H.size q → A0 q := fun q h => by
  rcases h with ⟨k, e, h⟩ | h
  · exact (cs_DR hD).2 k (q, e) h
  · exact hA q (Nat.le_trans hS.1 h)

