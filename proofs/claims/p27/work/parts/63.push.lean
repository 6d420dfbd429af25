/-! a model more -/
theorem cs_Llen {S : cs_St} {ad : Nat → Nat} {cy : Nat → ClassId} : (cs_L S ad cy).length = 8 + cs_n S := by
  unfold cs_L
  rw [List.length_append, List.length_map, List.length_range]
  rfl
theorem cs_Lq {S : cs_St} {ad : Nat → Nat} {cy : Nat → ClassId} {x : Nat × va_E} : (cs_L S ad cy ++ [x])[8 + cs_n S]? = some x := by
  rw [List.getElem?_append_right (by rw [cs_Llen]; exact Nat.le_refl _), cs_Llen, Nat.sub_self]
  rfl
theorem cs_Lpush {S : cs_St} {ad : Nat → Nat} {cy : Nat → ClassId} {q wd : Nat} {po ini xo : Int32} {ri ro : Bool} : ((cs_L S ad cy ++ ([(q, .inr (0, cs_F wd po ini ri ro xo))] : va_W)).set 1 (ad 1, .inl (cy 3, 6, .inr (.inr (.inr (.inr (va_up (fun j => if j < cs_n S then some (ad (8 + j)) else none) (cs_n S) (some q)))))))).set 0 (ad 0, .inr (1, [.ref (ad 1), .int (nI (cs_n S + 1)), .ref (ad 2), .ref (ad 3)])) = cs_L (cs_def S wd po ini ri ro xo) (va_up ad (8 + cs_n S) q) cy := by
  have hA : ∀ i, i < 8 + cs_n S → va_up ad (8 + cs_n S) q i = ad i := fun i hi => va_up_ne _ _ (by omega)
  have hd : va_up (fun j => if j < cs_n S then some (ad (8 + j)) else none) (cs_n S) (some q) = (fun j => if j < cs_n S + 1 then some (va_up ad (8 + cs_n S) q (8 + j)) else none) := funext fun j => by
    rcases Nat.lt_trichotomy j (cs_n S) with h | h | h
    · rw [va_up_ne _ _ (by omega), if_pos h, if_pos (by omega), hA _ (by omega)]
    · rw [h, va_up_self, if_pos (by omega), va_up_self]
    · rw [va_up_ne _ _ (by omega), if_neg (by omega), if_neg (by omega)]
  have hm : (List.range (cs_n S + 1)).map (fun k => ((va_up ad (8 + cs_n S) q (8 + k), .inr (0, cs_F (va_up (cs_w S) (cs_n S) wd k) (va_up (cs_p S) (cs_n S) po k) (va_up (cs_i S) (cs_n S) ini k) (va_up (cs_ri S) (cs_n S) ri k) (va_up (cs_ro S) (cs_n S) ro k) (va_up (cs_x S) (cs_n S) xo k))) : Nat × va_E)) = (List.range (cs_n S)).map (fun k => (ad (8 + k), .inr (0, cs_F (cs_w S k) (cs_p S k) (cs_i S k) (cs_ri S k) (cs_ro S k) (cs_x S k)))) ++ [(q, .inr (0, cs_F wd po ini ri ro xo))] := by
    rw [List.range_succ, List.map_append]
    congr 1
    · exact List.map_congr_left (fun k hk => by
        have := List.mem_range.mp hk
        rw [hA _ (by omega), va_up_ne (cs_w S) _ (by omega), va_up_ne (cs_p S) _ (by omega), va_up_ne (cs_i S) _ (by omega), va_up_ne (cs_ri S) _ (by omega), va_up_ne (cs_ro S) _ (by omega), va_up_ne (cs_x S) _ (by omega)])
    · show [((va_up ad (8 + cs_n S) q (8 + cs_n S), .inr (0, cs_F (va_up (cs_w S) (cs_n S) wd (cs_n S)) (va_up (cs_p S) (cs_n S) po (cs_n S)) (va_up (cs_i S) (cs_n S) ini (cs_n S)) (va_up (cs_ri S) (cs_n S) ri (cs_n S)) (va_up (cs_ro S) (cs_n S) ro (cs_n S)) (va_up (cs_x S) (cs_n S) xo (cs_n S)))) : Nat × va_E)] = _
      rw [va_up_self, va_up_self, va_up_self, va_up_self, va_up_self, va_up_self, va_up_self]
  have hR : cs_L (cs_def S wd po ini ri ro xo) (va_up ad (8 + cs_n S) q) cy = [
    (va_up ad (8 + cs_n S) q 0, .inr (1, [.ref (va_up ad (8 + cs_n S) q 1), .int (nI (cs_n S + 1)), .ref (va_up ad (8 + cs_n S) q 2), .ref (va_up ad (8 + cs_n S) q 3)])),
    (va_up ad (8 + cs_n S) q 1, .inl (cy 3, 6, .inr (.inr (.inr (.inr (fun j => if j < cs_n S + 1 then some (va_up ad (8 + cs_n S) q (8 + j)) else none)))))),
    (va_up ad (8 + cs_n S) q 2, .inl (cy 4, 4, .inr (.inr (.inr (.inr (fun j => if j < 4 then some (va_up ad (8 + cs_n S) q (4 + j)) else none)))))),
    (va_up ad (8 + cs_n S) q 3, .inl (cy 0, 4, .inl (fun j => nI (cs_ln S j)))),
    (va_up ad (8 + cs_n S) q 4, .inl (cy 0, 256, .inl (fun j => nI (cs_by S 0 j)))),
    (va_up ad (8 + cs_n S) q 5, .inl (cy 0, 256, .inl (fun j => nI (cs_by S 1 j)))),
    (va_up ad (8 + cs_n S) q 6, .inl (cy 0, 256, .inl (fun j => nI (cs_by S 2 j)))),
    (va_up ad (8 + cs_n S) q 7, .inl (cy 0, 256, .inl (fun j => nI (cs_by S 3 j))))] ++ (List.range (cs_n S + 1)).map (fun k => ((va_up ad (8 + cs_n S) q (8 + k), .inr (0, cs_F (va_up (cs_w S) (cs_n S) wd k) (va_up (cs_p S) (cs_n S) po k) (va_up (cs_i S) (cs_n S) ini k) (va_up (cs_ri S) (cs_n S) ri k) (va_up (cs_ro S) (cs_n S) ro k) (va_up (cs_x S) (cs_n S) xo k))) : Nat × va_E)) := rfl
  have h4 : (fun j => if j < 4 then some (va_up ad (8 + cs_n S) q (4 + j)) else none) = (fun j => if j < 4 then some (ad (4 + j)) else none) := funext fun j => by
    by_cases h : j < 4
    · rw [if_pos h, if_pos h, hA _ (by omega)]
    · rw [if_neg h, if_neg h]
  rw [hR, hm, h4, hA 0 (by omega), hA 1 (by omega), hA 2 (by omega), hA 3 (by omega), hA 4 (by omega), hA 5 (by omega), hA 6 (by omega), hA 7 (by omega), hd]
  rfl

