/-! what the wrappers need beside: which exceptions a handler passes -/
def cs_nc (U : State) : Prop := va_Nc cs_IAE cs_ISE U ∧ va_Nc cs_IAE cs_IOB U ∧ va_Nc cs_ISE cs_IAE U ∧ va_Nc cs_ISE cs_IOB U ∧ va_Nc cs_IOB cs_IAE U ∧ va_Nc cs_IOB cs_ISE U
theorem cs_nc.moved {u U : State} (hvm : u.vm.Alike U.vm) (h : cs_nc u) : cs_nc U := ⟨va_Nc.moved hvm h.1, va_Nc.moved hvm h.2.1, va_Nc.moved hvm h.2.2.1, va_Nc.moved hvm h.2.2.2.1, va_Nc.moved hvm h.2.2.2.2.1, va_Nc.moved hvm h.2.2.2.2.2⟩
/-- the world of a wrapper: the array of one long, then the laboratory -/
def cs_O (o : Nat) (f : Nat → Int64) (S : cs_St) (ad : Nat → Nat) (cy : Nat → ClassId) : va_W := ([(o, .inl (cy 2, 1, .inr (.inl f)))] : va_W) ++ cs_L S ad cy
theorem cs_O0 {o : Nat} {f : Nat → Int64} {S : cs_St} {ad : Nat → Nat} {cy : Nat → ClassId} : (cs_O o f S ad cy)[0]? = some (o, .inl (cy 2, 1, .inr (.inl f))) := rfl
theorem cs_Oset {o : Nat} {f : Nat → Int64} {S : cs_St} {ad : Nat → Nat} {cy : Nat → ClassId} {x : Int64} : (cs_O o f S ad cy).set 0 (o, .inl (cy 2, 1, .inr (.inl (vp_updL f 0 x)))) = cs_O o (vp_updL f 0 x) S ad cy := rfl
theorem cs_up0 {f : Nat → Int64} {x : Int64} : vp_updL f 0 x 0 = x := by unfold vp_updL; exact if_pos rfl
/-- the start of a wrapper -/
def cs_Bl (D : va_G) (tys : List (ClassId × FieldType)) (ws : va_W) (sz : Nat) (U : State) : Prop := cs_nc U ∧ cs_By D tys ws sz U
theorem cs_Bl.blind {D : va_G} {tys : List (ClassId × FieldType)} {ws : va_W} {sz : Nat} {av : List Value} : FrameBlind (va_Pc av (cs_Bl D tys ws sz)) := fun a U g mk q =>
  ⟨q.1, cs_nc.moved (u := U) (U := U.calling g mk a) (Vm.Alike.refl U.vm) q.2.1, (cs_By.blind (av := av) a U g mk ⟨q.1, q.2.2⟩).2⟩
theorem cs_Bl.at {D : va_G} {tys : List (ClassId × FieldType)} {ws : va_W} {av : List Value} {s : State} {H : Heap} {A : Nat → Prop} (hn : cs_nc s) (hE : cs_en s) (hz : cs_zz (va_A ws H.size) s H) (hP : va_P D vwCl ws H) (hK : va_K D vwCl tys s) (hD : va_D A ws) : ∀ U : State, U.heap = H → s.WarmedH U.vm → va_Pc av (cs_Bl D tys ws H.size) av.toArray U := fun U hU hW =>
  ⟨rfl, hn.moved hW.alike, (cs_By.at (av := av) hE hz hP hK hD U hU hW).2⟩
/-- a method with handlers that always returns -/
theorem cs_ofWH {l : Launch} {y : MethodName} {ws ws' : List Cond} {rm : Room} {Pc : Array Value → State → Prop} {Qc : Array Value → State → Outcome → State → Prop} {mc ms : Nat} {free : Addr → Prop} {cc : ByteArray} {maxL : Nat} {ret : Option FieldType} {hh : List (Nat × Nat × Nat × Nat)}
    (hy : plainName y.cls = true) (hw : ws = Cond.codeWith y cc maxL ret hh :: ws')
    (body : ∀ p e s m args below meth c s₁, BodyLoose p l y (headSpec ws rm) cc maxL ret e s m args below meth c s₁ → c.maxLocals = maxL → Pc args s →
      W p l e (headSpec ws rm).room s m args below meth c s.heap [] 0 0 (MQ below Qc args s mc ms free) (entryFrame m args maxL)) : Met l y ws rm Pc Qc mc ms free := by
  refine MetFree.of_bodyS (code := cc) (maxLocals := maxL) (ret := ret) hy ?_ ?_
  · intro args s m h hn
    obtain ⟨m9, meth, c, hn9, h1, h2, h3, h4, -, h5, h6, -⟩ := Cond.codeWith_spec (atoms_spec (ws := ws) h _ (by rw [hw]; exact List.mem_cons_self))
    cases hn.symm.trans hn9
    exact ⟨meth, c, h1, h2, h3, h4, h5, h6⟩
  · intro p e s m args below meth c s₁ B hml hP _
    have hh0 : s₁.heap = s.heap := by rw [B.state]; rfl
    obtain ⟨t, a1, o, b1, b2, b3⟩ := body p e s m args below meth c s₁ B hml hP s₁ hh0 (Stand.of_body B)
    exact ⟨t, o, a1, b1, b2, b3⟩
theorem cs_k1n2 {b : Bool} : ¬ cs_k1 b = 2 := by cases b <;> decide
theorem cs_k1n3 {b : Bool} : ¬ cs_k1 b = 3 := by cases b <;> decide
theorem cs_k2n3 {b c : Bool} : ¬ cs_k2 b c = 3 := by cases b <;> cases c <;> decide
/-- a wrapper's end by a handler -/
theorem cs_wend {D : va_G} {w : va_W} {s : State} {H : Heap} {locs : List Loc} {K : Int32} {S : Type} {w' : S → va_W} {post : Int32 → S → Prop} {args : Array Value} (k : Int32) (u : S) (h1 : post k u) (hP : va_P D vwCl (w' u) H) (hD : va_D (va_A w s.heap.size) (w' u)) (hS : va_S (va_A w s.heap.size) s.heap H locs) (t : State) (ht : t.heap = H) : cs_Qw D w w' post args s (.returned (some (.int k))) t :=
  ⟨k, u, rfl, h1, by rw [ht]; exact hP, hD, hS.F ht⟩
theorem cs_Sx {A : Nat → Prop} {H H1 : Heap} (h2 : H.size ≤ H1.size) (h3 : ∀ q : Nat, q < H.size → H1[q]? = H[q]?) : va_S A H H1 [] := ⟨h2, fun q h _ => h3 q h, fun _ h => by cases h⟩

