/-! constructors: kinds of fields; four places filled -/
theorem ftX0 : ∀ j, j < 3 → ∃ t, (xFT 0)[j]? = some t ∧ x_tyOK t (tyX0 j) := fun j hj => by
  rcases (show j = 0 ∨ j = 1 ∨ j = 2 by omega) with rfl | rfl | rfl
  · exact ⟨2, rfl, Or.inr (Or.inr (Or.inr ⟨rfl, Or.inr ⟨_, rfl⟩⟩))⟩
  · exact ⟨2, rfl, Or.inr (Or.inr (Or.inr ⟨rfl, Or.inr ⟨_, rfl⟩⟩))⟩
  · exact ⟨0, rfl, Or.inl ⟨rfl, rfl⟩⟩
theorem ftX1 : ∀ j, j < 14 → ∃ t, (xFT 1)[j]? = some t ∧ x_tyOK t (tyX1 j) := fun j hj => by
  rcases (show j = 0 ∨ j = 1 ∨ j = 2 ∨ j = 3 ∨ j = 4 ∨ j = 5 ∨ j = 6 ∨ j = 7 ∨ j = 8 ∨ j = 9 ∨ j = 10 ∨ j = 11 ∨ j = 12 ∨ j = 13 by omega) with rfl | rfl | rfl | rfl | rfl | rfl | rfl | rfl | rfl | rfl | rfl | rfl | rfl | rfl
  · exact ⟨2, rfl, Or.inr (Or.inr (Or.inr ⟨rfl, Or.inr ⟨_, rfl⟩⟩))⟩
  · exact ⟨2, rfl, Or.inr (Or.inr (Or.inr ⟨rfl, Or.inr ⟨_, rfl⟩⟩))⟩
  · exact ⟨2, rfl, Or.inr (Or.inr (Or.inr ⟨rfl, Or.inr ⟨_, rfl⟩⟩))⟩
  · exact ⟨2, rfl, Or.inr (Or.inr (Or.inr ⟨rfl, Or.inr ⟨_, rfl⟩⟩))⟩
  · exact ⟨2, rfl, Or.inr (Or.inr (Or.inr ⟨rfl, Or.inr ⟨_, rfl⟩⟩))⟩
  · exact ⟨2, rfl, Or.inr (Or.inr (Or.inr ⟨rfl, Or.inr ⟨_, rfl⟩⟩))⟩
  · exact ⟨2, rfl, Or.inr (Or.inr (Or.inr ⟨rfl, Or.inr ⟨_, rfl⟩⟩))⟩
  · exact ⟨2, rfl, Or.inr (Or.inr (Or.inr ⟨rfl, Or.inr ⟨_, rfl⟩⟩))⟩
  · exact ⟨2, rfl, Or.inr (Or.inr (Or.inr ⟨rfl, Or.inl ⟨_, rfl⟩⟩))⟩
  · exact ⟨2, rfl, Or.inr (Or.inr (Or.inr ⟨rfl, Or.inr ⟨_, rfl⟩⟩))⟩
  · exact ⟨2, rfl, Or.inr (Or.inr (Or.inr ⟨rfl, Or.inr ⟨_, rfl⟩⟩))⟩
  · exact ⟨0, rfl, Or.inl ⟨rfl, rfl⟩⟩
  · exact ⟨1, rfl, Or.inr (Or.inl ⟨rfl, rfl⟩)⟩
  · exact ⟨3, rfl, Or.inr (Or.inr (Or.inl ⟨rfl, rfl⟩))⟩
theorem ftX2 : ∀ j, j < 9 → ∃ t, (xFT 2)[j]? = some t ∧ x_tyOK t (tyX2 j) := fun j hj => by
  rcases (show j = 0 ∨ j = 1 ∨ j = 2 ∨ j = 3 ∨ j = 4 ∨ j = 5 ∨ j = 6 ∨ j = 7 ∨ j = 8 by omega) with rfl | rfl | rfl | rfl | rfl | rfl | rfl | rfl | rfl
  · exact ⟨2, rfl, Or.inr (Or.inr (Or.inr ⟨rfl, Or.inr ⟨_, rfl⟩⟩))⟩
  · exact ⟨2, rfl, Or.inr (Or.inr (Or.inr ⟨rfl, Or.inr ⟨_, rfl⟩⟩))⟩
  · exact ⟨2, rfl, Or.inr (Or.inr (Or.inr ⟨rfl, Or.inr ⟨_, rfl⟩⟩))⟩
  · exact ⟨2, rfl, Or.inr (Or.inr (Or.inr ⟨rfl, Or.inr ⟨_, rfl⟩⟩))⟩
  · exact ⟨2, rfl, Or.inr (Or.inr (Or.inr ⟨rfl, Or.inr ⟨_, rfl⟩⟩))⟩
  · exact ⟨2, rfl, Or.inr (Or.inr (Or.inr ⟨rfl, Or.inr ⟨_, rfl⟩⟩))⟩
  · exact ⟨2, rfl, Or.inr (Or.inr (Or.inr ⟨rfl, Or.inr ⟨_, rfl⟩⟩))⟩
  · exact ⟨2, rfl, Or.inr (Or.inr (Or.inr ⟨rfl, Or.inr ⟨_, rfl⟩⟩))⟩
  · exact ⟨2, rfl, Or.inr (Or.inr (Or.inr ⟨rfl, Or.inl ⟨_, rfl⟩⟩))⟩
theorem ftX3 : ∀ j, j < 2 → ∃ t, (xFT 3)[j]? = some t ∧ x_tyOK t (tyX3 j) := fun j hj => by
  rcases (show j = 0 ∨ j = 1 by omega) with rfl | rfl
  · exact ⟨2, rfl, Or.inr (Or.inr (Or.inr ⟨rfl, Or.inr ⟨_, rfl⟩⟩))⟩
  · exact ⟨0, rfl, Or.inl ⟨rfl, rfl⟩⟩
theorem ftX4 : ∀ j, j < 7 → ∃ t, (xFT 4)[j]? = some t ∧ x_tyOK t (tyX4 j) := fun j hj => by
  rcases (show j = 0 ∨ j = 1 ∨ j = 2 ∨ j = 3 ∨ j = 4 ∨ j = 5 ∨ j = 6 by omega) with rfl | rfl | rfl | rfl | rfl | rfl | rfl
  · exact ⟨2, rfl, Or.inr (Or.inr (Or.inr ⟨rfl, Or.inl ⟨_, rfl⟩⟩))⟩
  · exact ⟨2, rfl, Or.inr (Or.inr (Or.inr ⟨rfl, Or.inr ⟨_, rfl⟩⟩))⟩
  · exact ⟨2, rfl, Or.inr (Or.inr (Or.inr ⟨rfl, Or.inr ⟨_, rfl⟩⟩))⟩
  · exact ⟨2, rfl, Or.inr (Or.inr (Or.inr ⟨rfl, Or.inr ⟨_, rfl⟩⟩))⟩
  · exact ⟨2, rfl, Or.inr (Or.inr (Or.inr ⟨rfl, Or.inr ⟨_, rfl⟩⟩))⟩
  · exact ⟨2, rfl, Or.inr (Or.inr (Or.inr ⟨rfl, Or.inr ⟨_, rfl⟩⟩))⟩
  · exact ⟨0, rfl, Or.inl ⟨rfl, rfl⟩⟩
theorem ftX5 : ∀ j, j < 17 → ∃ t, (xFT 5)[j]? = some t ∧ x_tyOK t (tyX5 j) := fun j hj => by
  rcases (show j = 0 ∨ j = 1 ∨ j = 2 ∨ j = 3 ∨ j = 4 ∨ j = 5 ∨ j = 6 ∨ j = 7 ∨ j = 8 ∨ j = 9 ∨ j = 10 ∨ j = 11 ∨ j = 12 ∨ j = 13 ∨ j = 14 ∨ j = 15 ∨ j = 16 by omega) with rfl | rfl | rfl | rfl | rfl | rfl | rfl | rfl | rfl | rfl | rfl | rfl | rfl | rfl | rfl | rfl | rfl
  · exact ⟨2, rfl, Or.inr (Or.inr (Or.inr ⟨rfl, Or.inl ⟨_, rfl⟩⟩))⟩
  · exact ⟨2, rfl, Or.inr (Or.inr (Or.inr ⟨rfl, Or.inl ⟨_, rfl⟩⟩))⟩
  · exact ⟨2, rfl, Or.inr (Or.inr (Or.inr ⟨rfl, Or.inr ⟨_, rfl⟩⟩))⟩
  · exact ⟨2, rfl, Or.inr (Or.inr (Or.inr ⟨rfl, Or.inr ⟨_, rfl⟩⟩))⟩
  · exact ⟨2, rfl, Or.inr (Or.inr (Or.inr ⟨rfl, Or.inr ⟨_, rfl⟩⟩))⟩
  · exact ⟨2, rfl, Or.inr (Or.inr (Or.inr ⟨rfl, Or.inr ⟨_, rfl⟩⟩))⟩
  · exact ⟨2, rfl, Or.inr (Or.inr (Or.inr ⟨rfl, Or.inr ⟨_, rfl⟩⟩))⟩
  · exact ⟨2, rfl, Or.inr (Or.inr (Or.inr ⟨rfl, Or.inr ⟨_, rfl⟩⟩))⟩
  · exact ⟨2, rfl, Or.inr (Or.inr (Or.inr ⟨rfl, Or.inr ⟨_, rfl⟩⟩))⟩
  · exact ⟨2, rfl, Or.inr (Or.inr (Or.inr ⟨rfl, Or.inr ⟨_, rfl⟩⟩))⟩
  · exact ⟨2, rfl, Or.inr (Or.inr (Or.inr ⟨rfl, Or.inr ⟨_, rfl⟩⟩))⟩
  · exact ⟨2, rfl, Or.inr (Or.inr (Or.inr ⟨rfl, Or.inr ⟨_, rfl⟩⟩))⟩
  · exact ⟨2, rfl, Or.inr (Or.inr (Or.inr ⟨rfl, Or.inr ⟨_, rfl⟩⟩))⟩
  · exact ⟨0, rfl, Or.inl ⟨rfl, rfl⟩⟩
  · exact ⟨0, rfl, Or.inl ⟨rfl, rfl⟩⟩
  · exact ⟨3, rfl, Or.inr (Or.inr (Or.inl ⟨rfl, rfl⟩))⟩
  · exact ⟨3, rfl, Or.inr (Or.inr (Or.inl ⟨rfl, rfl⟩))⟩
theorem ftX6 : ∀ j, j < 5 → ∃ t, (xFT 6)[j]? = some t ∧ x_tyOK t (tyX6 j) := fun j hj => by
  rcases (show j = 0 ∨ j = 1 ∨ j = 2 ∨ j = 3 ∨ j = 4 by omega) with rfl | rfl | rfl | rfl | rfl
  · exact ⟨2, rfl, Or.inr (Or.inr (Or.inr ⟨rfl, Or.inr ⟨_, rfl⟩⟩))⟩
  · exact ⟨2, rfl, Or.inr (Or.inr (Or.inr ⟨rfl, Or.inr ⟨_, rfl⟩⟩))⟩
  · exact ⟨0, rfl, Or.inl ⟨rfl, rfl⟩⟩
  · exact ⟨1, rfl, Or.inr (Or.inl ⟨rfl, rfl⟩)⟩
  · exact ⟨0, rfl, Or.inl ⟨rfl, rfl⟩⟩
theorem ftX7 : ∀ j, j < 7 → ∃ t, (xFT 7)[j]? = some t ∧ x_tyOK t (tyX7 j) := fun j hj => by
  rcases (show j = 0 ∨ j = 1 ∨ j = 2 ∨ j = 3 ∨ j = 4 ∨ j = 5 ∨ j = 6 by omega) with rfl | rfl | rfl | rfl | rfl | rfl | rfl
  · exact ⟨2, rfl, Or.inr (Or.inr (Or.inr ⟨rfl, Or.inr ⟨_, rfl⟩⟩))⟩
  · exact ⟨2, rfl, Or.inr (Or.inr (Or.inr ⟨rfl, Or.inr ⟨_, rfl⟩⟩))⟩
  · exact ⟨2, rfl, Or.inr (Or.inr (Or.inr ⟨rfl, Or.inr ⟨_, rfl⟩⟩))⟩
  · exact ⟨2, rfl, Or.inr (Or.inr (Or.inr ⟨rfl, Or.inr ⟨_, rfl⟩⟩))⟩
  · exact ⟨0, rfl, Or.inl ⟨rfl, rfl⟩⟩
  · exact ⟨0, rfl, Or.inl ⟨rfl, rfl⟩⟩
  · exact ⟨3, rfl, Or.inr (Or.inr (Or.inl ⟨rfl, rfl⟩))⟩
theorem ftX8 : ∀ j, j < 6 → ∃ t, (xFT 8)[j]? = some t ∧ x_tyOK t (tyX8 j) := fun j hj => by
  rcases (show j = 0 ∨ j = 1 ∨ j = 2 ∨ j = 3 ∨ j = 4 ∨ j = 5 by omega) with rfl | rfl | rfl | rfl | rfl | rfl
  · exact ⟨2, rfl, Or.inr (Or.inr (Or.inr ⟨rfl, Or.inr ⟨_, rfl⟩⟩))⟩
  · exact ⟨2, rfl, Or.inr (Or.inr (Or.inr ⟨rfl, Or.inr ⟨_, rfl⟩⟩))⟩
  · exact ⟨2, rfl, Or.inr (Or.inr (Or.inr ⟨rfl, Or.inr ⟨_, rfl⟩⟩))⟩
  · exact ⟨2, rfl, Or.inr (Or.inr (Or.inr ⟨rfl, Or.inr ⟨_, rfl⟩⟩))⟩
  · exact ⟨0, rfl, Or.inl ⟨rfl, rfl⟩⟩
  · exact ⟨0, rfl, Or.inl ⟨rfl, rfl⟩⟩
theorem ftX9 : ∀ j, j < 2 → ∃ t, (xFT 9)[j]? = some t ∧ x_tyOK t (tyX9 j) := fun j hj => by
  rcases (show j = 0 ∨ j = 1 by omega) with rfl | rfl
  · exact ⟨2, rfl, Or.inr (Or.inr (Or.inr ⟨rfl, Or.inr ⟨_, rfl⟩⟩))⟩
  · exact ⟨0, rfl, Or.inl ⟨rfl, rfl⟩⟩
theorem ftX10 : ∀ j, j < 2 → ∃ t, (xFT 10)[j]? = some t ∧ x_tyOK t (tyX10 j) := fun j hj => by
  rcases (show j = 0 ∨ j = 1 by omega) with rfl | rfl
  · exact ⟨2, rfl, Or.inr (Or.inr (Or.inr ⟨rfl, Or.inr ⟨_, rfl⟩⟩))⟩
  · exact ⟨0, rfl, Or.inl ⟨rfl, rfl⟩⟩
theorem ftX11 : ∀ j, j < 8 → ∃ t, (xFT 11)[j]? = some t ∧ x_tyOK t (tyX11 j) := fun j hj => by
  rcases (show j = 0 ∨ j = 1 ∨ j = 2 ∨ j = 3 ∨ j = 4 ∨ j = 5 ∨ j = 6 ∨ j = 7 by omega) with rfl | rfl | rfl | rfl | rfl | rfl | rfl | rfl
  · exact ⟨2, rfl, Or.inr (Or.inr (Or.inr ⟨rfl, Or.inl ⟨_, rfl⟩⟩))⟩
  · exact ⟨2, rfl, Or.inr (Or.inr (Or.inr ⟨rfl, Or.inl ⟨_, rfl⟩⟩))⟩
  · exact ⟨2, rfl, Or.inr (Or.inr (Or.inr ⟨rfl, Or.inl ⟨_, rfl⟩⟩))⟩
  · exact ⟨2, rfl, Or.inr (Or.inr (Or.inr ⟨rfl, Or.inl ⟨_, rfl⟩⟩))⟩
  · exact ⟨2, rfl, Or.inr (Or.inr (Or.inr ⟨rfl, Or.inr ⟨_, rfl⟩⟩))⟩
  · exact ⟨2, rfl, Or.inr (Or.inr (Or.inr ⟨rfl, Or.inl ⟨_, rfl⟩⟩))⟩
  · exact ⟨2, rfl, Or.inr (Or.inr (Or.inr ⟨rfl, Or.inr ⟨_, rfl⟩⟩))⟩
  · exact ⟨2, rfl, Or.inr (Or.inr (Or.inr ⟨rfl, Or.inl ⟨_, rfl⟩⟩))⟩
theorem ftX12 : ∀ j, j < 53 → ∃ t, (xFT 12)[j]? = some t ∧ x_tyOK t (tyX12 j) := fun j hj => by
  rcases (show j = 0 ∨ j = 1 ∨ j = 2 ∨ j = 3 ∨ j = 4 ∨ j = 5 ∨ j = 6 ∨ j = 7 ∨ j = 8 ∨ j = 9 ∨ j = 10 ∨ j = 11 ∨ j = 12 ∨ j = 13 ∨ j = 14 ∨ j = 15 ∨ j = 16 ∨ j = 17 ∨ j = 18 ∨ j = 19 ∨ j = 20 ∨ j = 21 ∨ j = 22 ∨ j = 23 ∨ j = 24 ∨ j = 25 ∨ j = 26 ∨ j = 27 ∨ j = 28 ∨ j = 29 ∨ j = 30 ∨ j = 31 ∨ j = 32 ∨ j = 33 ∨ j = 34 ∨ j = 35 ∨ j = 36 ∨ j = 37 ∨ j = 38 ∨ j = 39 ∨ j = 40 ∨ j = 41 ∨ j = 42 ∨ j = 43 ∨ j = 44 ∨ j = 45 ∨ j = 46 ∨ j = 47 ∨ j = 48 ∨ j = 49 ∨ j = 50 ∨ j = 51 ∨ j = 52 by omega) with rfl | rfl | rfl | rfl | rfl | rfl | rfl | rfl | rfl | rfl | rfl | rfl | rfl | rfl | rfl | rfl | rfl | rfl | rfl | rfl | rfl | rfl | rfl | rfl | rfl | rfl | rfl | rfl | rfl | rfl | rfl | rfl | rfl | rfl | rfl | rfl | rfl | rfl | rfl | rfl | rfl | rfl | rfl | rfl | rfl | rfl | rfl | rfl | rfl | rfl | rfl | rfl | rfl
  · exact ⟨2, rfl, Or.inr (Or.inr (Or.inr ⟨rfl, Or.inr ⟨_, rfl⟩⟩))⟩
  · exact ⟨0, rfl, Or.inl ⟨rfl, rfl⟩⟩
  · exact ⟨2, rfl, Or.inr (Or.inr (Or.inr ⟨rfl, Or.inr ⟨_, rfl⟩⟩))⟩
  · exact ⟨2, rfl, Or.inr (Or.inr (Or.inr ⟨rfl, Or.inr ⟨_, rfl⟩⟩))⟩
  · exact ⟨0, rfl, Or.inl ⟨rfl, rfl⟩⟩
  · exact ⟨0, rfl, Or.inl ⟨rfl, rfl⟩⟩
  · exact ⟨2, rfl, Or.inr (Or.inr (Or.inr ⟨rfl, Or.inr ⟨_, rfl⟩⟩))⟩
  · exact ⟨2, rfl, Or.inr (Or.inr (Or.inr ⟨rfl, Or.inr ⟨_, rfl⟩⟩))⟩
  · exact ⟨2, rfl, Or.inr (Or.inr (Or.inr ⟨rfl, Or.inr ⟨_, rfl⟩⟩))⟩
  · exact ⟨2, rfl, Or.inr (Or.inr (Or.inr ⟨rfl, Or.inr ⟨_, rfl⟩⟩))⟩
  · exact ⟨2, rfl, Or.inr (Or.inr (Or.inr ⟨rfl, Or.inr ⟨_, rfl⟩⟩))⟩
  · exact ⟨2, rfl, Or.inr (Or.inr (Or.inr ⟨rfl, Or.inr ⟨_, rfl⟩⟩))⟩
  · exact ⟨2, rfl, Or.inr (Or.inr (Or.inr ⟨rfl, Or.inr ⟨_, rfl⟩⟩))⟩
  · exact ⟨2, rfl, Or.inr (Or.inr (Or.inr ⟨rfl, Or.inr ⟨_, rfl⟩⟩))⟩
  · exact ⟨2, rfl, Or.inr (Or.inr (Or.inr ⟨rfl, Or.inr ⟨_, rfl⟩⟩))⟩
  · exact ⟨2, rfl, Or.inr (Or.inr (Or.inr ⟨rfl, Or.inr ⟨_, rfl⟩⟩))⟩
  · exact ⟨2, rfl, Or.inr (Or.inr (Or.inr ⟨rfl, Or.inr ⟨_, rfl⟩⟩))⟩
  · exact ⟨0, rfl, Or.inl ⟨rfl, rfl⟩⟩
  · exact ⟨2, rfl, Or.inr (Or.inr (Or.inr ⟨rfl, Or.inr ⟨_, rfl⟩⟩))⟩
  · exact ⟨2, rfl, Or.inr (Or.inr (Or.inr ⟨rfl, Or.inr ⟨_, rfl⟩⟩))⟩
  · exact ⟨2, rfl, Or.inr (Or.inr (Or.inr ⟨rfl, Or.inr ⟨_, rfl⟩⟩))⟩
  · exact ⟨2, rfl, Or.inr (Or.inr (Or.inr ⟨rfl, Or.inr ⟨_, rfl⟩⟩))⟩
  · exact ⟨0, rfl, Or.inl ⟨rfl, rfl⟩⟩
  · exact ⟨2, rfl, Or.inr (Or.inr (Or.inr ⟨rfl, Or.inr ⟨_, rfl⟩⟩))⟩
  · exact ⟨2, rfl, Or.inr (Or.inr (Or.inr ⟨rfl, Or.inr ⟨_, rfl⟩⟩))⟩
  · exact ⟨0, rfl, Or.inl ⟨rfl, rfl⟩⟩
  · exact ⟨2, rfl, Or.inr (Or.inr (Or.inr ⟨rfl, Or.inr ⟨_, rfl⟩⟩))⟩
  · exact ⟨2, rfl, Or.inr (Or.inr (Or.inr ⟨rfl, Or.inr ⟨_, rfl⟩⟩))⟩
  · exact ⟨2, rfl, Or.inr (Or.inr (Or.inr ⟨rfl, Or.inr ⟨_, rfl⟩⟩))⟩
  · exact ⟨2, rfl, Or.inr (Or.inr (Or.inr ⟨rfl, Or.inr ⟨_, rfl⟩⟩))⟩
  · exact ⟨2, rfl, Or.inr (Or.inr (Or.inr ⟨rfl, Or.inr ⟨_, rfl⟩⟩))⟩
  · exact ⟨2, rfl, Or.inr (Or.inr (Or.inr ⟨rfl, Or.inr ⟨_, rfl⟩⟩))⟩
  · exact ⟨2, rfl, Or.inr (Or.inr (Or.inr ⟨rfl, Or.inr ⟨_, rfl⟩⟩))⟩
  · exact ⟨0, rfl, Or.inl ⟨rfl, rfl⟩⟩
  · exact ⟨3, rfl, Or.inr (Or.inr (Or.inl ⟨rfl, rfl⟩))⟩
  · exact ⟨2, rfl, Or.inr (Or.inr (Or.inr ⟨rfl, Or.inr ⟨_, rfl⟩⟩))⟩
  · exact ⟨2, rfl, Or.inr (Or.inr (Or.inr ⟨rfl, Or.inr ⟨_, rfl⟩⟩))⟩
  · exact ⟨0, rfl, Or.inl ⟨rfl, rfl⟩⟩
  · exact ⟨0, rfl, Or.inl ⟨rfl, rfl⟩⟩
  · exact ⟨0, rfl, Or.inl ⟨rfl, rfl⟩⟩
  · exact ⟨0, rfl, Or.inl ⟨rfl, rfl⟩⟩
  · exact ⟨2, rfl, Or.inr (Or.inr (Or.inr ⟨rfl, Or.inr ⟨_, rfl⟩⟩))⟩
  · exact ⟨2, rfl, Or.inr (Or.inr (Or.inr ⟨rfl, Or.inr ⟨_, rfl⟩⟩))⟩
  · exact ⟨2, rfl, Or.inr (Or.inr (Or.inr ⟨rfl, Or.inr ⟨_, rfl⟩⟩))⟩
  · exact ⟨2, rfl, Or.inr (Or.inr (Or.inr ⟨rfl, Or.inr ⟨_, rfl⟩⟩))⟩
  · exact ⟨2, rfl, Or.inr (Or.inr (Or.inr ⟨rfl, Or.inr ⟨_, rfl⟩⟩))⟩
  · exact ⟨2, rfl, Or.inr (Or.inr (Or.inr ⟨rfl, Or.inr ⟨_, rfl⟩⟩))⟩
  · exact ⟨2, rfl, Or.inr (Or.inr (Or.inr ⟨rfl, Or.inr ⟨_, rfl⟩⟩))⟩
  · exact ⟨0, rfl, Or.inl ⟨rfl, rfl⟩⟩
  · exact ⟨2, rfl, Or.inr (Or.inr (Or.inr ⟨rfl, Or.inr ⟨_, rfl⟩⟩))⟩
  · exact ⟨0, rfl, Or.inl ⟨rfl, rfl⟩⟩
  · exact ⟨2, rfl, Or.inr (Or.inr (Or.inr ⟨rfl, Or.inr ⟨_, rfl⟩⟩))⟩
  · exact ⟨2, rfl, Or.inr (Or.inr (Or.inr ⟨rfl, Or.inr ⟨_, rfl⟩⟩))⟩
theorem k_fill4 {r : Nat} {x : Int} {L : List Nat} {G : Nat → Nat → Int} (hk : xK r = (13, 4)) (hr : r ∈ L) : CM yJ7_fill_53178 mJ7_fill_53178 0 0 0 [vR r, vI x] L G (qK L [] [(r, 3, x), (r, 2, x), (r, 1, x), (r, 0, x)] G) := by
  refine Ct.of_X (μ := mJ7_fill_53178) rfl rfl (by decide) (fun h => by cases h) (Nat.le_of_ble_eq_true rfl) rfl ?_
  refine y_start ?_
  refine x_iconst (pc := 0) dJ7_fill_53178_0 ?_
  refine x_istoren (ls' := [some (vR r), some (vI x), some (vI 0), none]) (pc := 1) dJ7_fill_53178_1 rfl (by decide) rfl ?_
  refine x_aloadn (pc := 2) dJ7_fill_53178_2 rfl ?_
  refine y_alen (pc := 3) dJ7_fill_53178_3 hk (by decide) (Or.inl hr) ?_
  refine x_istoren (ls' := [some (vR r), some (vI x), some (vI 0), some (vI 4)]) (pc := 4) dJ7_fill_53178_4 rfl (by decide) rfl ?_
  refine x_iloadn (pc := 5) dJ7_fill_53178_5 rfl ?_
  refine x_iloadn (pc := 6) dJ7_fill_53178_6 rfl ?_
  refine x_cge (tgt := 20) (pc := 7) dJ7_fill_53178_7 (by decide) (by decide) (fun c_7 => ?_) (fun c_7 => ?_)
  · exact absurd c_7 (by decide)
  refine x_aloadn (pc := 10) dJ7_fill_53178_10 rfl ?_
  refine x_iloadn (pc := 11) dJ7_fill_53178_11 rfl ?_
  refine x_iloadn (pc := 12) dJ7_fill_53178_12 rfl ?_
  refine y_iast 0 (pc := 13) dJ7_fill_53178_13 hk (Or.inl hr) (by decide) ?_
  refine x_iinc (ls' := [some (vR r), some (vI x), some (vI 1), some (vI 4)]) (pc := 14) dJ7_fill_53178_14 rfl (by decide) rfl ?_
  refine x_goto (tgt := 5) (pc := 17) dJ7_fill_53178_17 (by decide) ?_
  refine x_iloadn (pc := 5) dJ7_fill_53178_5 rfl ?_
  refine x_iloadn (pc := 6) dJ7_fill_53178_6 rfl ?_
  refine x_cge (tgt := 20) (pc := 7) dJ7_fill_53178_7 (by decide) (by decide) (fun c_7 => ?_) (fun c_7 => ?_)
  · exact absurd c_7 (by decide)
  refine x_aloadn (pc := 10) dJ7_fill_53178_10 rfl ?_
  refine x_iloadn (pc := 11) dJ7_fill_53178_11 rfl ?_
  refine x_iloadn (pc := 12) dJ7_fill_53178_12 rfl ?_
  refine y_iast 1 (pc := 13) dJ7_fill_53178_13 hk (Or.inl hr) (by decide) ?_
  refine x_iinc (ls' := [some (vR r), some (vI x), some (vI 2), some (vI 4)]) (pc := 14) dJ7_fill_53178_14 rfl (by decide) rfl ?_
  refine x_goto (tgt := 5) (pc := 17) dJ7_fill_53178_17 (by decide) ?_
  refine x_iloadn (pc := 5) dJ7_fill_53178_5 rfl ?_
  refine x_iloadn (pc := 6) dJ7_fill_53178_6 rfl ?_
  refine x_cge (tgt := 20) (pc := 7) dJ7_fill_53178_7 (by decide) (by decide) (fun c_7 => ?_) (fun c_7 => ?_)
  · exact absurd c_7 (by decide)
  refine x_aloadn (pc := 10) dJ7_fill_53178_10 rfl ?_
  refine x_iloadn (pc := 11) dJ7_fill_53178_11 rfl ?_
  refine x_iloadn (pc := 12) dJ7_fill_53178_12 rfl ?_
  refine y_iast 2 (pc := 13) dJ7_fill_53178_13 hk (Or.inl hr) (by decide) ?_
  refine x_iinc (ls' := [some (vR r), some (vI x), some (vI 3), some (vI 4)]) (pc := 14) dJ7_fill_53178_14 rfl (by decide) rfl ?_
  refine x_goto (tgt := 5) (pc := 17) dJ7_fill_53178_17 (by decide) ?_
  refine x_iloadn (pc := 5) dJ7_fill_53178_5 rfl ?_
  refine x_iloadn (pc := 6) dJ7_fill_53178_6 rfl ?_
  refine x_cge (tgt := 20) (pc := 7) dJ7_fill_53178_7 (by decide) (by decide) (fun c_7 => ?_) (fun c_7 => ?_)
  · exact absurd c_7 (by decide)
  refine x_aloadn (pc := 10) dJ7_fill_53178_10 rfl ?_
  refine x_iloadn (pc := 11) dJ7_fill_53178_11 rfl ?_
  refine x_iloadn (pc := 12) dJ7_fill_53178_12 rfl ?_
  refine y_iast 3 (pc := 13) dJ7_fill_53178_13 hk (Or.inl hr) (by decide) ?_
  refine x_iinc (ls' := [some (vR r), some (vI x), some (vI 4), some (vI 4)]) (pc := 14) dJ7_fill_53178_14 rfl (by decide) rfl ?_
  refine x_goto (tgt := 5) (pc := 17) dJ7_fill_53178_17 (by decide) ?_
  refine x_iloadn (pc := 5) dJ7_fill_53178_5 rfl ?_
  refine x_iloadn (pc := 6) dJ7_fill_53178_6 rfl ?_
  refine x_cge (tgt := 20) (pc := 7) dJ7_fill_53178_7 (by decide) (by decide) (fun c_7 => ?_) (fun c_7 => ?_)
  rotate_left
  · exact absurd c_7 (by decide)
  exact y_ret dJ7_fill_53178_20 rfl

