/-! the laboratory's world -/
def cs_L (S : cs_St) (ad : Nat → Nat) (cy : Nat → ClassId) : va_W := [
  (ad 0, .inr (1, [.ref (ad 1), .int (nI (cs_n S)), .ref (ad 2), .ref (ad 3)])),
  (ad 1, .inl (cy 3, 6, .inr (.inr (.inr (.inr (fun j => if j < cs_n S then some (ad (8 + j)) else none)))))),
  (ad 2, .inl (cy 4, 4, .inr (.inr (.inr (.inr (fun j => if j < 4 then some (ad (4 + j)) else none)))))),
  (ad 3, .inl (cy 0, 4, .inl (fun j => nI (cs_ln S j)))),
  (ad 4, .inl (cy 0, 256, .inl (fun j => nI (cs_by S 0 j)))),
  (ad 5, .inl (cy 0, 256, .inl (fun j => nI (cs_by S 1 j)))),
  (ad 6, .inl (cy 0, 256, .inl (fun j => nI (cs_by S 2 j)))),
  (ad 7, .inl (cy 0, 256, .inl (fun j => nI (cs_by S 3 j))))] ++
  (List.range (cs_n S)).map (fun k => (ad (8 + k), .inr (0, cs_F (cs_w S k) (cs_p S k) (cs_i S k) (cs_ri S k) (cs_ro S k) (cs_x S k))))
section CSL
variable {S : cs_St} {ad : Nat → Nat} {cy : Nat → ClassId} {r k : Nat}
theorem cs_L0 : (cs_L S ad cy)[0]? = some (ad 0, .inr (1, [.ref (ad 1), .int (nI (cs_n S)), .ref (ad 2), .ref (ad 3)])) := rfl
theorem cs_L1 : (cs_L S ad cy)[1]? = some (ad 1, .inl (cy 3, 6, .inr (.inr (.inr (.inr (fun j => if j < cs_n S then some (ad (8 + j)) else none)))))) := rfl
theorem cs_L2 : (cs_L S ad cy)[2]? = some (ad 2, .inl (cy 4, 4, .inr (.inr (.inr (.inr (fun j => if j < 4 then some (ad (4 + j)) else none)))))) := rfl
theorem cs_L3 : (cs_L S ad cy)[3]? = some (ad 3, .inl (cy 0, 4, .inl (fun j => nI (cs_ln S j)))) := rfl
theorem cs_Lr (hr : r < 4) : (cs_L S ad cy)[4 + r]? = some (ad (4 + r), .inl (cy 0, 256, .inl (fun j => nI (cs_by S r j)))) := by
  rcases (show r = 0 ∨ r = 1 ∨ r = 2 ∨ r = 3 by omega) with rfl | rfl | rfl | rfl <;> rfl
theorem cs_Lm (hk : k < cs_n S) : (cs_L S ad cy)[8 + k]? = some (ad (8 + k), .inr (0, cs_F (cs_w S k) (cs_p S k) (cs_i S k) (cs_ri S k) (cs_ro S k) (cs_x S k))) := by
  unfold cs_L
  rw [List.getElem?_append_right (by simp), List.getElem?_map]
  have e : 8 + k - ([
    (ad 0, .inr (1, [.ref (ad 1), .int (nI (cs_n S)), .ref (ad 2), .ref (ad 3)])),
    (ad 1, .inl (cy 3, 6, .inr (.inr (.inr (.inr (fun j => if j < cs_n S then some (ad (8 + j)) else none)))))),
    (ad 2, .inl (cy 4, 4, .inr (.inr (.inr (.inr (fun j => if j < 4 then some (ad (4 + j)) else none)))))),
    (ad 3, .inl (cy 0, 4, .inl (fun j => nI (cs_ln S j)))),
    (ad 4, .inl (cy 0, 256, .inl (fun j => nI (cs_by S 0 j)))),
    (ad 5, .inl (cy 0, 256, .inl (fun j => nI (cs_by S 1 j)))),
    (ad 6, .inl (cy 0, 256, .inl (fun j => nI (cs_by S 2 j)))),
    (ad 7, .inl (cy 0, 256, .inl (fun j => nI (cs_by S 3 j))))] : va_W).length = k := by
    show 8 + k - 8 = k
    omega
  rw [e, List.getElem?_range hk]
  rfl
theorem cs_LsetR {j0 b : Nat} (hr : r < 4) : (cs_L S ad cy).set (4 + r) (ad (4 + r), .inl (cy 0, 256, .inl (upd (fun j => nI (cs_by S r j)) j0 (nI b)))) = cs_L (cs_put S r (cs_ln S r) (va_up (cs_by S r) j0 b)) ad cy := by
  have e2 : cs_ln (cs_put S r (cs_ln S r) (va_up (cs_by S r) j0 b)) = cs_ln S := cs_upid _ _
  rw [cs_upN]
  unfold cs_L
  rw [e2]
  rcases (show r = 0 ∨ r = 1 ∨ r = 2 ∨ r = 3 by omega) with rfl | rfl | rfl | rfl <;> rfl
theorem cs_LsetL {l : Nat} : (cs_L S ad cy).set 3 (ad 3, .inl (cy 0, 4, .inl (upd (fun j => nI (cs_ln S j)) r (nI l)))) = cs_L (cs_put S r l (cs_by S r)) ad cy := by
  have e2 : cs_by (cs_put S r l (cs_by S r)) = cs_by S := cs_upid _ _
  rw [cs_upN]
  unfold cs_L
  rw [e2]
  rfl
end CSL
section CSV
variable {p : Program} {l : Launch} {e : Env} {R : Room} {s : State} {m : MethodId} {args : Array Value} {below : List Frame} {meth : Method} {c : Code} {H : Heap} {locs : List Loc} {cells slots : Nat} {Q : State → Prop} {pc : Nat} {ls : Array Slot} {rest : List Value}
theorem cs_topv {x y : Value} (h : x = y) (k : W p l e R s m args below meth c H locs cells slots Q (F0 m pc ls (y :: rest))) : W p l e R s m args below meth c H locs cells slots Q (F0 m pc ls (x :: rest)) := by subst h; exact k
end CSV
def cs_bad (E0 : String) (b : Bool) : String → Prop := fun E => E = E0 ∧ b = false
/-- the exception that goes with its number -/
def cs_E (k : Int32) (a b c : String) : String → Prop := fun E => (k = 1 ∧ E = a) ∨ (k = 2 ∧ E = b) ∨ (k = 3 ∧ E = c)
theorem cs_serA {a b i : Nat} (ha : a < 256) (hb : b < 256) (hi : i < 256) : (nI a + nI i * nI b) &&& 255 = nI ((a + b * i) % 256) := by
  have h : i * b ≤ 255 * 255 := Nat.mul_le_mul (by omega) (by omega)
  rw [pk_mul, nI_add, Nat.mul_comm b i]
  exact pk_andN (n := a + i * b) (by omega) 8 (by decide)
theorem cs_room {l c : Nat} (hl : l ≤ 256) (hc : c ≤ 256) : nI c ≤ 256 - nI l ↔ l + c ≤ 256 := by
  have e : (256 : Int32) - nI l = nI (256 - l) := pk_sub hl
  rw [e, nI_leI (by omega) (by omega)]
  omega

