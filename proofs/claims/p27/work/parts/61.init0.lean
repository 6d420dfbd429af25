/-! starts of objects: class ids of arrays -/
theorem cs_RAu {U : State} {a b : ClassId} {ty : FieldType} (h1 : va_RA U a ty) (h2 : va_RA U b ty) : a = b := by
  cases ty with
  | object C =>
    obtain ⟨_, _, _, _, _, e1⟩ := h1
    obtain ⟨_, _, _, _, _, e2⟩ := h2
    exact Option.some.inj (e1.symm.trans e2)
  | _ => exact Option.some.inj (Eq.trans (Eq.symm h1) h2)
theorem cs_aoa {A : Array Value} {U : State} {t : FieldType} (h : (Cond.arrayOver (.array t)).before A U = true) : ∃ comp c k, U.vm.findClass (FieldType.array t).toString = some comp ∧ (U.vm.classes.findIdx? fun x => match x.kind with | .array component _ => component == comp | _ => false) = some c ∧ U.vm.classes[c]? = some k ∧ k.kind = .array comp (.array t) ∧ U.vm.findClass ("[" ++ (FieldType.array t).toString) = some c := by
  simp only [Cond.before, Cond.holds, Cond.value, beq_iff_eq] at h
  cases hc : U.vm.findClass (FieldType.array t).toString with
  | none => simp [hc] at h
  | some comp =>
    simp only [hc, Option.bind_some, Option.bind_eq_some_iff, Option.map_eq_some_iff] at h
    obtain ⟨c, hi, k, hk, hb⟩ := h
    obtain ⟨hlt, hp, -⟩ := Array.findIdx?_eq_some_iff_getElem.mp hi
    have hkc : U.vm.classes[c] = k := Option.some.inj ((Array.getElem?_eq_getElem hlt).symm.trans hk)
    rw [hkc] at hp
    cases hkk : k.kind with
    | array component ty =>
      rw [hkk] at hp hb
      simp at hp hb
      exact ⟨comp, c, k, rfl, hi, hk, by rw [hkk, hp, hb.1], hb.2⟩
    | _ => rw [hkk] at hp; simp at hp
theorem cs_AOA_moved {t : FieldType} {u U : State} (hvm : u.vm.Alike U.vm) (h : va_AOA t u) : va_AOA t U := by
  obtain ⟨comp, c, k, h1, h2, h3, h4, h5⟩ := cs_aoa h
  obtain ⟨k', hk', he⟩ := hvm.2.2 _ _ h3
  have hi : (U.vm.classes.findIdx? fun (x : Class) => match x.kind with | .array component _ => component == comp | _ => false) = some c := by
    have hb : U.vm.bare = u.vm.bare := by first | exact hvm.bare_eq | exact hvm.bare_eq.symm
    exact (va_idx_bare U.vm comp).symm.trans ((congrArg (fun v : Vm => v.classes.findIdx? fun (x : Class) => match x.kind with | .array component _ => component == comp | _ => false) hb).trans ((va_idx_bare u.vm comp).trans h2))
  have hkind : k'.kind = .array comp (.array t) := by rw [he]; exact h4
  have f1 : U.vm.findClass (FieldType.array t).toString = some comp := by rw [hvm.findClass]; exact h1
  have f2 : U.vm.findClass ("[" ++ (FieldType.array t).toString) = some c := by rw [hvm.findClass]; exact h5
  unfold va_AOA Cond.before Cond.holds
  simp only [Cond.value]
  rw [f1, Option.bind_some]
  refine (congrArg (fun o : Option Nat => (o.bind (fun c => (U.vm.classes[c]?).map fun (k : Class) => match k.kind with | .array _ ty => decide (ty = FieldType.array t) && decide (U.vm.findClass ("[" ++ (FieldType.array t).toString) = some c) | _ => false) == some true)) hi).trans ?_
  simp [hk', hkind, f2]
/-- the start of an object that makes arrays of references -/
def cs_Bo (D : va_G) (tys : List (ClassId × FieldType)) (ws : va_W) (sz : Nat) (U : State) : Prop := (va_AO RX0 U ∧ va_AOA .int U) ∧ cs_Bw D tys ws sz U
theorem cs_Bo.blind {D : va_G} {tys : List (ClassId × FieldType)} {ws : va_W} {sz : Nat} {av : List Value} : FrameBlind (va_Pc av (cs_Bo D tys ws sz)) := fun a U g mk q =>
  ⟨q.1, ⟨va_AO.moved (u := U) (U := U.calling g mk a) (Vm.Alike.refl U.vm) q.2.1.1, cs_AOA_moved (u := U) (U := U.calling g mk a) (Vm.Alike.refl U.vm) q.2.1.2⟩, (cs_Bw.blind (av := av) a U g mk ⟨q.1, q.2.2⟩).2⟩
theorem cs_Bo.at {D : va_G} {tys : List (ClassId × FieldType)} {ws : va_W} {av : List Value} {s : State} {H : Heap} {A : Nat → Prop} (hO : va_AO RX0 s ∧ va_AOA .int s) (hE : cs_en s) (hP : va_P D vwCl ws H) (hK : va_K D vwCl tys s) (hD : va_D A ws) : ∀ U : State, U.heap = H → s.WarmedH U.vm → va_Pc av (cs_Bo D tys ws H.size) av.toArray U := fun U hU hW =>
  ⟨rfl, ⟨va_AO.moved hW.alike hO.1, cs_AOA_moved hW.alike hO.2⟩, (cs_Bw.at (av := av) hE hP hK hD U hU hW).2⟩
/-- the laboratory's world at its start -/
def cs_LW (a q1 q2 q3 : Nat) (r : Nat → Nat) (cy : Nat → ClassId) (d rw9 : Nat → Option Nat) : va_W := [
  (a, .inr (1, [.ref q1, .int (nI 0), .ref q2, .ref q3])),
  (q1, .inl (cy 3, 6, .inr (.inr (.inr (.inr d))))),
  (q2, .inl (cy 4, 4, .inr (.inr (.inr (.inr rw9))))),
  (q3, .inl (cy 0, 4, .inl (fun _ => nI 0))),
  (r 0, .inl (cy 0, 256, .inl (fun _ => nI 0))),
  (r 1, .inl (cy 0, 256, .inl (fun _ => nI 0))),
  (r 2, .inl (cy 0, 256, .inl (fun _ => nI 0))),
  (r 3, .inl (cy 0, 256, .inl (fun _ => nI 0)))]
def cs_ad0 (a q1 q2 q3 : Nat) (r : Nat → Nat) : Nat → Nat
  | 0 => a
  | 1 => q1
  | 2 => q2
  | 3 => q3
  | n + 4 => r n
theorem cs_LW_eq (a q1 q2 q3 : Nat) (r : Nat → Nat) (cy : Nat → ClassId) : cs_L cs_0 (cs_ad0 a q1 q2 q3 r) cy = cs_LW a q1 q2 q3 r cy (fun _ => none) (fun i => if i < 4 then some (r i) else none) :=
  (show cs_L cs_0 (cs_ad0 a q1 q2 q3 r) cy = cs_LW a q1 q2 q3 r cy (fun j => if j < cs_n cs_0 then some (cs_ad0 a q1 q2 q3 r (8 + j)) else none) (fun j => if j < 4 then some (cs_ad0 a q1 q2 q3 r (4 + j)) else none) from rfl).trans
    (congr (congrArg (cs_LW a q1 q2 q3 r cy) (funext fun j => if_neg (Nat.not_lt_zero j))) (funext fun j => by rw [Nat.add_comm 4 j]; rfl))
theorem cs_pl4 (r : Nat → Nat) (f : Nat → va_E) (e : va_E) : va_pl ([] ++ (List.range 4).map r) (vr_up f ((List.range 4).map r) e) = [(r 0, e), (r 1, e), (r 2, e), (r 3, e)] := by
  have h : ∀ i, i < 4 → vr_up f ((List.range 4).map r) e (r i) = e := fun i hi => vr_up_in (List.mem_map.mpr ⟨i, List.mem_range.mpr hi, rfl⟩)
  show [(r 0, vr_up f ((List.range 4).map r) e (r 0)), (r 1, vr_up f ((List.range 4).map r) e (r 1)), (r 2, vr_up f ((List.range 4).map r) e (r 2)), (r 3, vr_up f ((List.range 4).map r) e (r 3))] = _
  rw [h 0 (by decide), h 1 (by decide), h 2 (by decide), h 3 (by decide)]

