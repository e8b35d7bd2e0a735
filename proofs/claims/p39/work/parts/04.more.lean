theorem ush0 (y : UInt32) : ((0 : Int32).toUInt32 >>> y).toInt32 = 0 := by
  have h : (0 : Int32).toUInt32 = 0 := rfl
  rw [h, UInt32.zero_shiftRight]
  rfl
theorem cpy0 (a b n : Nat) : (va_cpy (fun _ => (0 : Int32)) (fun _ => (0 : Int32)) a b n) = (fun (_ : Nat) => (0 : Int32)) := by
  funext j
  unfold va_cpy
  split <;> rfl
