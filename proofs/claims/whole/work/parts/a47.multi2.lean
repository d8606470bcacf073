/-! a row of rows made: its rows come into the picture -/
def x_nwR (G : Nat → Nat → Int) (r i : Nat) : Nat → Nat → Int := fun a b => if r < a ∧ a ≤ r + i then 0 else G a b
theorem x_nwR_s (G : Nat → Nat → Int) (r i : Nat) : x_nwH (x_nwR G r i) (r + 1 + i) (fun _ => 0) = x_nwR G r (i + 1) := by
  funext a b
  unfold x_nwH x_nwR
  by_cases c : a = r + 1 + i
  · rw [if_pos c, if_pos (by omega)]
  · rw [if_neg c]
    by_cases c2 : r < a ∧ a ≤ r + i
    · rw [if_pos c2, if_pos (by omega)]
    · rw [if_neg c2, if_neg (by omega)]
theorem x_innerE (cA : ClassId) (M : Nat) : x_mIn cA M = arrV cA M (fun _ => .int (Int32.ofInt 0)) := by
  rfl
theorem x_inners {D : va_G} {cy : Nat → ClassId} {B : Nat} {ρ : Nat → Nat} {L : List Nat} {G : Nat → Nat → Int} {H : Heap} {r M N h : Nat} (hR : x_Rep D cy B ρ L G H) (hcells : ∀ j, j < N → H[h + 1 + j]? = some (x_mIn (cy 13) M)) (hB : B ≤ h) (hL : ∀ i, i ∈ L → ρ i < h) (hid : ∀ j, j < N → r + 1 + j ∉ L ∧ xK (r + 1 + j) = (13, M)) :
    ∀ i, i ≤ N → ∃ (ρi : Nat → Nat), x_Rep D cy B ρi (L ++ (List.range i).map fun j => r + 1 + j) (x_nwR G r i) H ∧ x_ext L ρ (L ++ (List.range i).map fun j => r + 1 + j) ρi ∧ (∀ j, j < i → ρi (r + 1 + j) = h + 1 + j) ∧ ∀ x, x ∈ (L ++ (List.range i).map fun j => r + 1 + j) → ρi x < h + 1 + i ∧ ρi x ≠ h := by
  intro i
  induction i with
  | zero =>
    intro _
    refine ⟨ρ, ?_, ?_, fun j hj => absurd hj (Nat.not_lt_zero j), fun x hx => ?_⟩
    · rw [List.range_zero, List.map_nil, List.append_nil, show x_nwR G r 0 = G from funext fun a => funext fun b => if_neg (by omega)]; exact hR
    · rw [List.range_zero, List.map_nil, List.append_nil]; exact x_ext.rf
    · rw [List.range_zero, List.map_nil, List.append_nil] at hx
      have := hL x hx
      omega
  | succ i ih =>
    intro hi
    obtain ⟨ρi, h1, h2, h3, h4⟩ := ih (by omega)
    obtain ⟨d1, d2⟩ := hid i (by omega)
    have hq : r + 1 + i ∉ (L ++ (List.range i).map fun j => r + 1 + j) ∧ r + 1 + i ≠ 0 := ⟨fun w => by
      rcases List.mem_append.mp w with w | w
      · exact d1 w
      · obtain ⟨j, hj, e⟩ := List.mem_map.mp w
        have := List.mem_range.mp hj
        omega, by omega⟩
    obtain ⟨k1, k2⟩ := h1.one (a := h + 1 + i) hq (g := fun _ => 0) (fun j hj => Or.inr (Or.inl rfl)) (fun x hx => by have := (h4 x hx).1; omega) (by omega) (by
      rw [x_ceI d2]
      show H[h + 1 + i]? = some _
      rw [hcells i (by omega), x_innerE]
      rfl)
    have hl : (L ++ (List.range i).map fun j => r + 1 + j) ++ [r + 1 + i] = L ++ (List.range (i + 1)).map fun j => r + 1 + j := by
      rw [List.range_succ, List.map_append, List.append_assoc]; rfl
    rw [x_nwR_s, hl] at k1
    rw [hl] at k2
    refine ⟨_, k1, h2.tr k2, fun j hj => ?_, fun x hx => ?_⟩
    · unfold x_rn
      by_cases c : j = i
      · rw [if_pos (by omega), c]
      · rw [if_neg (by omega)]; exact h3 j (by omega)
    · unfold x_rn
      by_cases c : x = r + 1 + i
      · rw [if_pos c]; omega
      · rw [if_neg c]
        rw [← hl] at hx
        rcases List.mem_append.mp hx with w | w
        · have := h4 x w; omega
        · exact absurd (List.mem_singleton.mp w) c

