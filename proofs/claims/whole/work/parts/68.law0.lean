/-! what the wrappers need beside: which exceptions a handler passes -/
def cs_nc (U : State) : Prop := va_Nc cs_IAE cs_ISE U ∧ va_Nc cs_IAE cs_IOB U ∧ va_Nc cs_ISE cs_IAE U ∧ va_Nc cs_ISE cs_IOB U ∧ va_Nc cs_IOB cs_IAE U ∧ va_Nc cs_IOB cs_ISE U
theorem cs_nc.moved {u U : State} (hvm : u.vm.Alike U.vm) (h : cs_nc u) : cs_nc U := ⟨va_Nc.moved hvm h.1, va_Nc.moved hvm h.2.1, va_Nc.moved hvm h.2.2.1, va_Nc.moved hvm h.2.2.2.1, va_Nc.moved hvm h.2.2.2.2.1, va_Nc.moved hvm h.2.2.2.2.2⟩
/-- the world of a wrapper: the array of one long, then the laboratory -/
def cs_O (o : Nat) (x : Int64) (S : cs_St) (ad : Nat → Nat) (cy : Nat → ClassId) : va_W := ([(o, .inl (cy 2, 1, .inr (.inl (fun _ => x))))] : va_W) ++ cs_L S ad cy
theorem cs_O0 {o : Nat} {x : Int64} {S : cs_St} {ad : Nat → Nat} {cy : Nat → ClassId} : (cs_O o x S ad cy)[0]? = some (o, .inl (cy 2, 1, .inr (.inl (fun _ => x)))) := rfl
