/-! a row of rows made: the outer row -/
theorem x_outerE (cA : ClassId) (N h : Nat) : ∀ i, i ≤ N → x_mOut cA N h i = arrV cA N (fun j => va_rf (if j < i then some (h + 1 + j) else none)) := fun _ _ => rfl

