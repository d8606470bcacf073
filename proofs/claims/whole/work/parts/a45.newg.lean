/-! a cell with contents is new in the picture -/
def x_nwH (G : Nat → Nat → Int) (q : Nat) (g : Nat → Int) : Nat → Nat → Int := fun i j => if i = q then g j else G i j
theorem x_nwH_ne {G : Nat → Nat → Int} {q i : Nat} {g : Nat → Int} (h : i ≠ q) : x_nwH G q g i = G i := by
  funext j; unfold x_nwH; rw [if_neg h]
theorem x_Rep.newG {D : va_G} {cy : Nat → ClassId} {B : Nat} {ρ : Nat → Nat} {L : List Nat} {G : Nat → Nat → Int} {H H1 : Heap} {q a : Nat} (h : x_Rep D cy B ρ L G H) (hq : q ∉ L ∧ q ≠ 0) {g : Nat → Int} (hg : ∀ j, x_isR (xK q) j = true → x_okz L (g j)) (hP : va_P D vwCl (x_wl cy ρ L G ++ [(a, x_ce cy ρ (xK q) g)]) H1) (hD : va_D (x_A B) (x_wl cy ρ L G ++ [(a, x_ce cy ρ (xK q) g)])) (hB : B ≤ H1.size) : x_Rep D cy B (x_rn ρ q a) (L ++ [q]) (x_nwH G q g) H1 ∧ x_ext L ρ (L ++ [q]) (x_rn ρ q a) := by
  have hρ : ∀ i, i ≠ q → x_rn ρ q a i = ρ i := fun i hi => if_neg hi
  have hmem : ∀ i ∈ L, i ≠ q := fun i hi e => hq.1 (e ▸ hi)
  have hext : x_ext L ρ (L ++ [q]) (x_rn ρ q a) := ⟨fun i hi => ⟨List.mem_append_left _ hi, hρ i (hmem i hi)⟩, hρ 0 (fun e => hq.2 e.symm)⟩
  have hwl : x_wl cy (x_rn ρ q a) (L ++ [q]) (x_nwH G q g) = x_wl cy ρ L G ++ [(a, x_ce cy ρ (xK q) g)] := by
    unfold x_wl
    rw [List.map_append]
    congr 1
    · refine List.map_congr_left fun i hi => ?_
      have e1 : x_nwH G q g i = G i := x_nwH_ne (hmem i hi)
      rw [hρ i (hmem i hi), e1]
      exact congrArg (fun e => (ρ i, e)) (x_ce_cg (fun _ => rfl) (fun j hj => x_ref_ext hext (h.2.2.2.2.1 i hi j hj)))
    · show [(x_rn ρ q a q, x_ce cy (x_rn ρ q a) (xK q) (x_nwH G q g q))] = _
      have e2 : x_rn ρ q a q = a := if_pos rfl
      rw [e2]
      refine congrArg (fun e => [(a, e)]) (x_ce_cg (fun j => if_pos rfl) (fun j hj => ?_))
      exact x_ref_ext hext (hg j hj)
  refine ⟨⟨by rw [hwl]; exact hP, by rw [hwl]; exact hD, fun i j r h1 h2 => ?_, fun w => ?_, fun i hi j hj => ?_, hB⟩, hext⟩
  · by_cases ci : i < L.length
    · rw [List.getElem?_append_left ci] at h1
      by_cases cj : j < L.length
      · rw [List.getElem?_append_left cj] at h2
        exact h.2.2.1 i j r h1 h2
      · rw [List.getElem?_append_right (by omega)] at h2
        have hr : r = q := by
          cases e : j - L.length with
          | zero => rw [e] at h2; exact (Option.some.inj h2).symm
          | succ n => rw [e] at h2; cases h2
        exact absurd (hr ▸ List.mem_of_getElem? h1) hq.1
    · rw [List.getElem?_append_right (by omega)] at h1
      have hr : r = q ∧ i - L.length = 0 := by
        cases e : i - L.length with
        | zero => rw [e] at h1; exact ⟨(Option.some.inj h1).symm, rfl⟩
        | succ n => rw [e] at h1; cases h1
      by_cases cj : j < L.length
      · rw [List.getElem?_append_left cj] at h2
        exact absurd (hr.1 ▸ List.mem_of_getElem? h2) hq.1
      · rw [List.getElem?_append_right (by omega)] at h2
        have hj : j - L.length = 0 := by
          cases e : j - L.length with
          | zero => rfl
          | succ n => rw [e] at h2; cases h2
        omega
  · rcases List.mem_append.mp w with w | w
    · exact h.2.2.2.1 w
    · exact hq.2 (List.mem_singleton.mp w).symm
  · rcases List.mem_append.mp hi with hi | hi
    · rw [x_nwH_ne (hmem i hi)]
      exact (h.2.2.2.2.1 i hi j hj).ext hext
    · rw [List.mem_singleton.mp hi] at hj ⊢
      unfold x_nwH
      rw [if_pos rfl]
      exact (hg j hj).ext hext

