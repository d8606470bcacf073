/-! a row of rows made: the outer row -/
theorem x_outerE (cA : ClassId) (N h : Nat) : ∀ i, i ≤ N → Jvm.Free.Multi.outerC cA N h i = arrV cA N (fun j => va_rf (if j < i then some (h + 1 + j) else none)) := by
  intro i
  induction i with
  | zero =>
    intro _
    have e : (fun j => va_rf (if j < 0 then some (h + 1 + j) else none)) = fun _ => Value.null := funext fun j => by rw [if_neg (Nat.not_lt_zero j)]; rfl
    rw [e, ← arrV_new]; rfl
  | succ i ih =>
    intro hi
    show (Jvm.Free.Multi.outerC cA N h i).setSlot i (.ref (h + 1 + i)) = _
    rw [ih (by omega), arrV_store]
    congr 1
    funext q
    by_cases hq : q = i
    · subst hq
      simp [updV, va_rf]
    · simp only [updV, if_neg hq]
      by_cases c : q < i
      · rw [if_pos c, if_pos (by omega)]
      · rw [if_neg c, if_neg (by omega)]

