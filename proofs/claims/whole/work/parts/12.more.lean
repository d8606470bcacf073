/-! long comparisons -/
theorem zl_rg {x y : Int} : -2147483648 ≤ (if y < x then (1 : Int) else if x = y then 0 else -1) ∧ (if y < x then (1 : Int) else if x = y then 0 else -1) < 2147483648 := by
  by_cases h : y < x
  · rw [if_pos h]; omega
  · rw [if_neg h]
    by_cases h2 : x = y
    · rw [if_pos h2]; omega
    · rw [if_neg h2]; omega
theorem zl_tri (x y : Int) : (y < x ∧ (if y < x then (1 : Int) else if x = y then 0 else -1) = 1) ∨ (x = y ∧ (if y < x then (1 : Int) else if x = y then 0 else -1) = 0) ∨ (x < y ∧ (if y < x then (1 : Int) else if x = y then 0 else -1) = -1) := by
  by_cases h : y < x
  · exact Or.inl ⟨h, if_pos h⟩
  · by_cases h2 : x = y
    · exact Or.inr (Or.inl ⟨h2, by rw [if_neg h, if_pos h2]⟩)
    · exact Or.inr (Or.inr ⟨by omega, by rw [if_neg h, if_neg h2]⟩)
theorem zl_l {x y : Int} (h : (if y < x then (1 : Int) else if x = y then 0 else -1) < 0) : x < y := by rcases zl_tri x y with ⟨_, e⟩ | ⟨_, e⟩ | ⟨k, _⟩ <;> omega
theorem zl_g {x y : Int} (h : 0 < (if y < x then (1 : Int) else if x = y then 0 else -1)) : y < x := by rcases zl_tri x y with ⟨k, e⟩ | ⟨_, e⟩ | ⟨_, e⟩ <;> omega
theorem zl_le {x y : Int} (h : (if y < x then (1 : Int) else if x = y then 0 else -1) ≤ 0) : x ≤ y := by rcases zl_tri x y with ⟨_, e⟩ | ⟨_, e⟩ | ⟨k, _⟩ <;> omega
theorem zl_ge {x y : Int} (h : 0 ≤ (if y < x then (1 : Int) else if x = y then 0 else -1)) : y ≤ x := by rcases zl_tri x y with ⟨_, e⟩ | ⟨_, e⟩ | ⟨k, e⟩ <;> omega
theorem zl_e {x y : Int} (h : (if y < x then (1 : Int) else if x = y then 0 else -1) = 0) : x = y := by rcases zl_tri x y with ⟨_, e⟩ | ⟨_, e⟩ | ⟨k, e⟩ <;> omega
theorem zl_n {x y : Int} (h : (if y < x then (1 : Int) else if x = y then 0 else -1) ≠ 0) : x ≠ y := by rcases zl_tri x y with ⟨_, e⟩ | ⟨_, e⟩ | ⟨k, e⟩ <;> omega

