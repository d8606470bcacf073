/-! a cell that lies on the heap already comes into the picture -/
theorem va_D.push2 {A : Nat → Prop} {ws : va_W} {a : Nat} {e : va_E} (hD : va_D A ws) (ha : ∀ (k : Nat) (q : Nat × va_E), ws[k]? = some q → q.1 ≠ a) (hA : A a) : va_D A (ws ++ [(a, e)]) := by
  have key : ∀ (k : Nat) (q : Nat × va_E), (ws ++ [(a, e)])[k]? = some q → (ws[k]? = some q ∧ q.1 ≠ a) ∨ (k = ws.length ∧ q.1 = a) := by
    intro k q hk
    by_cases hl : k < ws.length
    · rw [List.getElem?_append_left hl] at hk
      exact Or.inl ⟨hk, ha k q hk⟩
    · rw [List.getElem?_append_right (by omega)] at hk
      cases hz : k - ws.length with
      | zero => rw [hz] at hk; exact Or.inr ⟨by omega, by have := Option.some.inj hk; rw [← this]⟩
      | succ n => rw [hz] at hk; cases hk
  refine ⟨fun i j p q h1 h2 h3 => ?_, fun k q hk => ?_⟩
  · rcases key i p h1 with ⟨a1, a2⟩ | ⟨a1, a2⟩ <;> rcases key j q h2 with ⟨b1, b2⟩ | ⟨b1, b2⟩
    · exact hD.1 i j p q a1 b1 h3
    · exact absurd (h3.trans b2) a2
    · exact absurd (h3.symm.trans a2) b2
    · omega
  · rcases key k q hk with ⟨a1, _⟩ | ⟨_, a2⟩
    · exact hD.2 k q a1
    · rw [a2]; exact hA
theorem x_Rep.one {D : va_G} {cy : Nat → ClassId} {B : Nat} {ρ : Nat → Nat} {L : List Nat} {G : Nat → Nat → Int} {H : Heap} {q a : Nat} (h : x_Rep D cy B ρ L G H) (hq : q ∉ L ∧ q ≠ 0) {g : Nat → Int} (hg : ∀ j, x_isR (xK q) j = true → x_okz L (g j)) (hnew : ∀ i, i ∈ L → ρ i ≠ a) (hB : B ≤ a) (hc : va_at D vwCl (a, x_ce cy ρ (xK q) g) H) : x_Rep D cy B (x_rn ρ q a) (L ++ [q]) (x_nwH G q g) H ∧ x_ext L ρ (L ++ [q]) (x_rn ρ q a) := by
  refine h.newG hq hg (h.1.app (fun k x hx => ?_)) (h.2.1.push2 (fun k x hx => ?_) hB) h.2.2.2.2.2
  · cases k with
    | zero => have := Option.some.inj hx; rw [← this]; exact hc
    | succ n => cases hx
  · unfold x_wl at hx
    rw [List.getElem?_map] at hx
    obtain ⟨i, hi, rfl⟩ := Option.map_eq_some_iff.mp hx
    exact hnew i (List.mem_of_getElem? hi)
/-- the heap is another, the picture's cells are the same -/
theorem x_Rep.kept {D : va_G} {cy : Nat → ClassId} {B : Nat} {ρ : Nat → Nat} {L : List Nat} {G : Nat → Nat → Int} {H H1 : Heap} (h : x_Rep D cy B ρ L G H) (hk : ∀ a, a < H.size → H1[a]? = H[a]?) (hB : H.size ≤ H1.size) : x_Rep D cy B ρ L G H1 :=
  ⟨h.1.kept (fun k x hx => hk x.1 ((h.1 k x hx).lt)), h.2.1, h.2.2.1, h.2.2.2.1, h.2.2.2.2.1, Nat.le_trans h.2.2.2.2.2 hB⟩
theorem x_Rep.adr {D : va_G} {cy : Nat → ClassId} {B : Nat} {ρ : Nat → Nat} {L : List Nat} {G : Nat → Nat → Int} {H : Heap} (h : x_Rep D cy B ρ L G H) : ∀ i, i ∈ L → ρ i < H.size := fun i hi => by
  obtain ⟨z, hz⟩ := x_mem hi
  exact (h.1 z _ (x_wl_at hz)).lt

