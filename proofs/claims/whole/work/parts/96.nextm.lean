/-! the reference: lengths in their order -/
abbrev znxS : List Nat := [144]
def mQz (a b c t : Nat) (G : Nat → Nat → Int) : Prop := G 144 0 = a ∧ G 144 1 = b ∧ G 144 2 = c ∧ G 127 25 = t
def mCo (c : Nat) (G : Nat → Nat → Int) : Prop := mQz (c / 81 % 9) (c / 9 % 9) (c % 9) (c / 729) G ∧ G 144 3 = ((c / 729 : Nat) : Int) - ((zcs c : Nat) : Int)
theorem mCo.FL {c : Nat} {G : Nat → Nat → Int} (h : mCo c G) (hv : zcv c) : mFL (zcz c) G := by
  obtain ⟨⟨h1, h2, h3, h4⟩, h5⟩ := h
  obtain ⟨k1, k2, k3⟩ := zcz_v hv
  have e0 : zcz c 0 = c / 81 % 9 := rfl
  have e1 : zcz c 1 = c / 9 % 9 := rfl
  have e2 : zcz c 2 = c % 9 := rfl
  have es : zcs c = c / 81 % 9 + c / 9 % 9 + c % 9 := rfl
  intro u hu
  refine ⟨?_, k1 u hu⟩
  rcases (show u = 0 ∨ u = 1 ∨ u = 2 ∨ u = 3 by omega) with rfl | rfl | rfl | rfl
  · rw [h1, e0]
  · rw [h2, e1]
  · rw [h3, e2]
  · rw [h5]
    obtain ⟨T, hT⟩ : ∃ T, T = c / 729 := ⟨_, rfl⟩
    rw [← hT] at k2 ⊢
    omega
section XNX
variable {L : List Nat}
theorem c_mo_firstLengths {G : Nat → Nat → Int} (hL : x_SL L) (hF : x_Fin xFL G) :
    CM yX12_firstLengths mX12_firstLengths 0 0 0 [vR 127] L G (qV L fun G' => mCo 0 G' ∧ FM znxS [25] G G' ∧ x_Fin xFL G') := by
  refine Ct.of_X (μ := mX12_firstLengths) rfl rfl (by decide) (fun h => by cases h) (Nat.le_of_ble_eq_true rfl) rfl ?_
  refine x_aloadn (pc := 0) dX12_firstLengths_0 rfl ?_
  refine x_iconst (pc := 1) dX12_firstLengths_1 ?_
  refine x_putIF (pc := 2) dX12_firstLengths_2 fp_X12_188 k_127 (hL 127 (by decide) (by decide)) hF (fun hF => ?_)
  refine x_aloadn (pc := 5) dX12_firstLengths_5 rfl ?_
  refine x_getR (144) (pc := 6) dX12_firstLengths_6 fl_X12_58 k_127 (hL 127 (by decide) (by decide)) (f_127_20 hF) ?_
  refine x_iconst (pc := 9) dX12_firstLengths_9 ?_
  refine x_iconst (pc := 10) dX12_firstLengths_10 ?_
  refine x_iastF (0) (pc := 11) dX12_firstLengths_11 k_144 (hL 144 (by decide) (by decide)) (⟨by omega, by omega, by decide⟩) hF (fun hF => ?_)
  refine x_aloadn (pc := 12) dX12_firstLengths_12 rfl ?_
  refine x_getR (144) (pc := 13) dX12_firstLengths_13 fl_X12_58 k_127 (hL 127 (by decide) (by decide)) (f_127_20 hF) ?_
  refine x_iconst (pc := 16) dX12_firstLengths_16 ?_
  refine x_iconst (pc := 17) dX12_firstLengths_17 ?_
  refine x_iastF (1) (pc := 18) dX12_firstLengths_18 k_144 (hL 144 (by decide) (by decide)) (⟨by omega, by omega, by decide⟩) hF (fun hF => ?_)
  refine x_aloadn (pc := 19) dX12_firstLengths_19 rfl ?_
  refine x_getR (144) (pc := 20) dX12_firstLengths_20 fl_X12_58 k_127 (hL 127 (by decide) (by decide)) (f_127_20 hF) ?_
  refine x_iconst (pc := 23) dX12_firstLengths_23 ?_
  refine x_iconst (pc := 24) dX12_firstLengths_24 ?_
  refine x_iastF (2) (pc := 25) dX12_firstLengths_25 k_144 (hL 144 (by decide) (by decide)) (⟨by omega, by omega, by decide⟩) hF (fun hF => ?_)
  refine x_aloadn (pc := 26) dX12_firstLengths_26 rfl ?_
  refine x_getR (144) (pc := 27) dX12_firstLengths_27 fl_X12_58 k_127 (hL 127 (by decide) (by decide)) (f_127_20 hF) ?_
  refine x_iconst (pc := 30) dX12_firstLengths_30 ?_
  refine x_iconst (pc := 31) dX12_firstLengths_31 ?_
  refine x_iastF (3) (pc := 32) dX12_firstLengths_32 k_144 (hL 144 (by decide) (by decide)) (⟨by omega, by omega, by decide⟩) hF (fun hF => ?_)
  refine x_rV (pc := 33) dX12_firstLengths_33 rfl ?_
  exact ⟨⟨⟨by simp [x_up], by simp [x_up], by simp [x_up], by simp [x_up]⟩, by simp [x_up, zcs]⟩, ((((FM.rf.upF (by decide)).upA (by decide)).upA (by decide)).upA (by decide)).upA (by decide), hF⟩
theorem l_mo_nx1 {Q : x_Q} {a b c t : Nat} {o1 : Option (Nat × Int)} {G0 G : Nat → Nat → Int} (hL : x_SL L) (hF : x_Fin xFL G) (h : mQz a b c t G) (hb : a ≤ 8 ∧ b ≤ 8 ∧ c ≤ 8 ∧ t ≤ 33) (hQ : FM znxS [25] G0 G)
    (cont : ∀ G', ((c < 8 ∧ mQz a b (c + 1) t G') ∨ (c = 8 ∧ mQz a (b + 1) 0 t G')) → FM znxS [25] G0 G' → x_Fin xFL G' → X mX12_nextLengths 1 0 0 Q 53 [some (vR 127), o1] [] L G' 0 0) :
    X mX12_nextLengths 1 0 0 Q 15 [some (vR 127), o1] [] L G 0 0 := by
  obtain ⟨h1, h2, h3, h4⟩ := h
  refine x_aloadn (pc := 15) dX12_nextLengths_15 rfl ?_
  refine x_getR (144) (pc := 16) dX12_nextLengths_16 fl_X12_58 k_127 (hL 127 (by decide) (by decide)) (f_127_20 hF) ?_
  refine x_iconst (pc := 19) dX12_nextLengths_19 ?_
  refine x_dup2 (pc := 20) dX12_nextLengths_20 (fun h => by cases h) (fun h => by cases h) ?_
  refine x_iald (2) (pc := 21) dX12_nextLengths_21 k_144 (hL 144 (by decide) (by decide)) (⟨by omega, by omega, by decide⟩) ?_
  rw [h3]
  refine x_iconst (pc := 22) dX12_nextLengths_22 ?_
  refine x_iadd (pc := 23) dX12_nextLengths_23 ?_
  refine x_iastF (2) (pc := 24) dX12_nextLengths_24 k_144 (hL 144 (by decide) (by decide)) (⟨by omega, by omega, by decide⟩) hF (fun hF => ?_)
  refine x_aloadn (pc := 25) dX12_nextLengths_25 rfl ?_
  refine x_getR (144) (pc := 26) dX12_nextLengths_26 fl_X12_58 k_127 (hL 127 (by decide) (by decide)) (f_127_20 hF) ?_
  refine x_iconst (pc := 29) dX12_nextLengths_29 ?_
  refine x_iald (2) (pc := 30) dX12_nextLengths_30 k_144 (hL 144 (by decide) (by decide)) (⟨by omega, by omega, by decide⟩) ?_
  rw [x_up_s]
  refine x_bipush (pc := 31) dX12_nextLengths_31 (by decide) ?_
  refine x_cle (tgt := 53) (pc := 33) dX12_nextLengths_33 (by decide) (by omega) (fun c_33 => ?_) (fun c_33 => ?_)
  · skip
    first
    | (refine cont _ (Or.inl ⟨by omega, ?_, ?_, ?_, ?_⟩) (hQ.upA (by decide)) hF
       · simp [x_up]; exact h1
       · simp [x_up]; exact h2
       · simp [x_up]
       · simp [x_up]; exact h4)
    | (refine cont _ (Or.inr ⟨by omega, ?_, ?_, ?_, ?_⟩) (((hQ.upA (by decide)).upA (by decide)).upA (by decide)) hF
       · simp [x_up]; exact h1
       · simp [x_up]
       · simp [x_up]
       · simp [x_up]; exact h4)
  · skip
    refine x_aloadn (pc := 36) dX12_nextLengths_36 rfl ?_
    refine x_getR (144) (pc := 37) dX12_nextLengths_37 fl_X12_58 k_127 (hL 127 (by decide) (by decide)) (f_127_20 hF) ?_
    refine x_iconst (pc := 40) dX12_nextLengths_40 ?_
    refine x_iconst (pc := 41) dX12_nextLengths_41 ?_
    refine x_iastF (2) (pc := 42) dX12_nextLengths_42 k_144 (hL 144 (by decide) (by decide)) (⟨by omega, by omega, by decide⟩) hF (fun hF => ?_)
    refine x_aloadn (pc := 43) dX12_nextLengths_43 rfl ?_
    refine x_getR (144) (pc := 44) dX12_nextLengths_44 fl_X12_58 k_127 (hL 127 (by decide) (by decide)) (f_127_20 hF) ?_
    refine x_iconst (pc := 47) dX12_nextLengths_47 ?_
    refine x_dup2 (pc := 48) dX12_nextLengths_48 (fun h => by cases h) (fun h => by cases h) ?_
    refine x_iald (1) (pc := 49) dX12_nextLengths_49 k_144 (hL 144 (by decide) (by decide)) (⟨by omega, by omega, by decide⟩) ?_
    rw [x_up_k (by decide), x_up_k (by decide), h2]
    refine x_iconst (pc := 50) dX12_nextLengths_50 ?_
    refine x_iadd (pc := 51) dX12_nextLengths_51 ?_
    refine x_iastF (1) (pc := 52) dX12_nextLengths_52 k_144 (hL 144 (by decide) (by decide)) (⟨by omega, by omega, by decide⟩) hF (fun hF => ?_)
    first
    | (refine cont _ (Or.inl ⟨by omega, ?_, ?_, ?_, ?_⟩) (hQ.upA (by decide)) hF
       · simp [x_up]; exact h1
       · simp [x_up]; exact h2
       · simp [x_up]
       · simp [x_up]; exact h4)
    | (refine cont _ (Or.inr ⟨by omega, ?_, ?_, ?_, ?_⟩) (((hQ.upA (by decide)).upA (by decide)).upA (by decide)) hF
       · simp [x_up]; exact h1
       · simp [x_up]
       · simp [x_up]
       · simp [x_up]; exact h4)
theorem l_mo_nx2 {Q : x_Q} {a b c t : Nat} {o1 : Option (Nat × Int)} {G0 G : Nat → Nat → Int} (hL : x_SL L) (hF : x_Fin xFL G) (h : mQz a b c t G) (hb : a ≤ 8 ∧ b ≤ 9 ∧ c ≤ 8 ∧ t ≤ 33) (hQ : FM znxS [25] G0 G)
    (cont : ∀ G', ((b ≤ 8 ∧ mQz a b c t G') ∨ (b = 9 ∧ mQz (a + 1) 0 c t G')) → FM znxS [25] G0 G' → x_Fin xFL G' → X mX12_nextLengths 1 0 0 Q 81 [some (vR 127), o1] [] L G' 0 0) :
    X mX12_nextLengths 1 0 0 Q 53 [some (vR 127), o1] [] L G 0 0 := by
  have hh := h
  obtain ⟨h1, h2, h3, h4⟩ := h
  refine x_aloadn (pc := 53) dX12_nextLengths_53 rfl ?_
  refine x_getR (144) (pc := 54) dX12_nextLengths_54 fl_X12_58 k_127 (hL 127 (by decide) (by decide)) (f_127_20 hF) ?_
  refine x_iconst (pc := 57) dX12_nextLengths_57 ?_
  refine x_iald (1) (pc := 58) dX12_nextLengths_58 k_144 (hL 144 (by decide) (by decide)) (⟨by omega, by omega, by decide⟩) ?_
  rw [h2]
  refine x_bipush (pc := 59) dX12_nextLengths_59 (by decide) ?_
  refine x_cle (tgt := 81) (pc := 61) dX12_nextLengths_61 (by decide) (by omega) (fun c_61 => ?_) (fun c_61 => ?_)
  · skip
    first
    | exact cont _ (Or.inl ⟨by omega, hh⟩) hQ hF
    | (refine cont _ (Or.inr ⟨by omega, ?_, ?_, ?_, ?_⟩) ((hQ.upA (by decide)).upA (by decide)) hF
       · simp [x_up]
       · simp [x_up]
       · simp [x_up]; exact h3
       · simp [x_up]; exact h4)
  · skip
    refine x_aloadn (pc := 64) dX12_nextLengths_64 rfl ?_
    refine x_getR (144) (pc := 65) dX12_nextLengths_65 fl_X12_58 k_127 (hL 127 (by decide) (by decide)) (f_127_20 hF) ?_
    refine x_iconst (pc := 68) dX12_nextLengths_68 ?_
    refine x_iconst (pc := 69) dX12_nextLengths_69 ?_
    refine x_iastF (1) (pc := 70) dX12_nextLengths_70 k_144 (hL 144 (by decide) (by decide)) (⟨by omega, by omega, by decide⟩) hF (fun hF => ?_)
    refine x_aloadn (pc := 71) dX12_nextLengths_71 rfl ?_
    refine x_getR (144) (pc := 72) dX12_nextLengths_72 fl_X12_58 k_127 (hL 127 (by decide) (by decide)) (f_127_20 hF) ?_
    refine x_iconst (pc := 75) dX12_nextLengths_75 ?_
    refine x_dup2 (pc := 76) dX12_nextLengths_76 (fun h => by cases h) (fun h => by cases h) ?_
    refine x_iald (0) (pc := 77) dX12_nextLengths_77 k_144 (hL 144 (by decide) (by decide)) (⟨by omega, by omega, by decide⟩) ?_
    rw [x_up_k (by decide), h1]
    refine x_iconst (pc := 78) dX12_nextLengths_78 ?_
    refine x_iadd (pc := 79) dX12_nextLengths_79 ?_
    refine x_iastF (0) (pc := 80) dX12_nextLengths_80 k_144 (hL 144 (by decide) (by decide)) (⟨by omega, by omega, by decide⟩) hF (fun hF => ?_)
    first
    | exact cont _ (Or.inl ⟨by omega, hh⟩) hQ hF
    | (refine cont _ (Or.inr ⟨by omega, ?_, ?_, ?_, ?_⟩) ((hQ.upA (by decide)).upA (by decide)) hF
       · simp [x_up]
       · simp [x_up]
       · simp [x_up]; exact h3
       · simp [x_up]; exact h4)
theorem l_mo_nx3 {Q : x_Q} {a b c t : Nat} {o1 : Option (Nat × Int)} {G0 G : Nat → Nat → Int} (hL : x_SL L) (hF : x_Fin xFL G) (h : mQz a b c t G) (hb : a ≤ 9 ∧ b ≤ 8 ∧ c ≤ 8 ∧ t ≤ 33) (hQ : FM znxS [25] G0 G)
    (cont : ∀ G', ((a ≤ 8 ∧ mQz a b c t G') ∨ (a = 9 ∧ mQz 0 b c (t + 1) G')) → FM znxS [25] G0 G' → x_Fin xFL G' → X mX12_nextLengths 1 0 0 Q 109 [some (vR 127), o1] [] L G' 0 0) :
    X mX12_nextLengths 1 0 0 Q 81 [some (vR 127), o1] [] L G 0 0 := by
  have hh := h
  obtain ⟨h1, h2, h3, h4⟩ := h
  refine x_aloadn (pc := 81) dX12_nextLengths_81 rfl ?_
  refine x_getR (144) (pc := 82) dX12_nextLengths_82 fl_X12_58 k_127 (hL 127 (by decide) (by decide)) (f_127_20 hF) ?_
  refine x_iconst (pc := 85) dX12_nextLengths_85 ?_
  refine x_iald (0) (pc := 86) dX12_nextLengths_86 k_144 (hL 144 (by decide) (by decide)) (⟨by omega, by omega, by decide⟩) ?_
  rw [h1]
  refine x_bipush (pc := 87) dX12_nextLengths_87 (by decide) ?_
  refine x_cle (tgt := 109) (pc := 89) dX12_nextLengths_89 (by decide) (by omega) (fun c_89 => ?_) (fun c_89 => ?_)
  · skip
    first
    | exact cont _ (Or.inl ⟨by omega, hh⟩) hQ hF
    | (refine cont _ (Or.inr ⟨by omega, ?_, ?_, ?_, ?_⟩) ((hQ.upA (by decide)).upF (by decide)) hF
       · simp [x_up]
       · simp [x_up]; exact h2
       · simp [x_up]; exact h3
       · simp [x_up])
  · skip
    refine x_aloadn (pc := 92) dX12_nextLengths_92 rfl ?_
    refine x_getR (144) (pc := 93) dX12_nextLengths_93 fl_X12_58 k_127 (hL 127 (by decide) (by decide)) (f_127_20 hF) ?_
    refine x_iconst (pc := 96) dX12_nextLengths_96 ?_
    refine x_iconst (pc := 97) dX12_nextLengths_97 ?_
    refine x_iastF (0) (pc := 98) dX12_nextLengths_98 k_144 (hL 144 (by decide) (by decide)) (⟨by omega, by omega, by decide⟩) hF (fun hF => ?_)
    refine x_aloadn (pc := 99) dX12_nextLengths_99 rfl ?_
    refine x_dup (pc := 100) dX12_nextLengths_100 (fun h => by cases h) ?_
    refine x_getI (pc := 101) dX12_nextLengths_101 fl_X12_188 k_127 (hL 127 (by decide) (by decide)) ?_
    rw [x_up_ne (by decide), h4]
    refine x_iconst (pc := 104) dX12_nextLengths_104 ?_
    refine x_iadd (pc := 105) dX12_nextLengths_105 ?_
    refine x_putIF (pc := 106) dX12_nextLengths_106 fp_X12_188 k_127 (hL 127 (by decide) (by decide)) hF (fun hF => ?_)
    first
    | exact cont _ (Or.inl ⟨by omega, hh⟩) hQ hF
    | (refine cont _ (Or.inr ⟨by omega, ?_, ?_, ?_, ?_⟩) ((hQ.upA (by decide)).upF (by decide)) hF
       · simp [x_up]
       · simp [x_up]; exact h2
       · simp [x_up]; exact h3
       · simp [x_up])
end XNX

