/-! the reference: words found -/
def mWd (w : Nat → List Nat) (G : Nat → Nat → Int) : Prop := ∀ v, v < 4 → G 161 v = (((w v).length : Nat) : Int) ∧ (w v).length ≤ 300 ∧ ∀ i, i < (w v).length → G 160 (301 * v + i) = (((w v).getD i 0 : Nat) : Int)
theorem mWd.FM {w : Nat → List Nat} {S F : List Nat} {G G' : Nat → Nat → Int} (h : mWd w G) (k : FM S F G G') (h1 : 161 ∉ S) (h2 : 160 ∉ S) : mWd w G' := fun v hv => by
  obtain ⟨a1, a2, a3⟩ := h v hv
  exact ⟨by rw [k 161 _ h1 (fun e => absurd e (by decide))]; exact a1, a2, fun i hi => by rw [k 160 _ h2 (fun e => absurd e (by decide))]; exact a3 i hi⟩
section XFW
variable {L : List Nat} {w : Nat → List Nat} {u P : Nat}
/-- what is put ahead -/
def zqa (w : Nat → List Nat) (P : Nat) : List Nat := if P < 4 then [P] else w (P - 4)
theorem zws_P (v : Nat) : zws w u ((P : Nat) : Int) v = if v = u then zqa w P ++ w u else w v := by
  unfold zws zqa
  by_cases c : v = u
  · rw [if_pos c, if_pos c, if_neg (by omega), Int.toNat_natCast]
    by_cases d : P < 4
    · rw [if_pos (by omega), if_pos d]; rfl
    · rw [if_neg (by omega), if_neg d]
  · rw [if_neg c, if_neg c]
abbrev z_fwS : List Nat := [160, 161]
abbrev pPa (L : List Nat) (G0 : Nat → Nat → Int) (w : Nat → List Nat) (u P : Nat) : x_Q := qI L fun x G' => ((x = 1 ∧ (zqa w P ++ w u).length ≤ 300 ∧ mWd (zws w u ((P : Nat) : Int)) G') ∨ (x = 0 ∧ 300 < (zqa w P ++ w u).length)) ∧ FM z_fwS [] G0 G' ∧ x_Fin xFL G'
theorem l_mo_paC {n : Nat} {G0 : Nat → Nat → Int} (hL : x_SL L) (hu : u < 4) (hP : P < 8 ∧ P ≠ 3) (hPu : P - 4 ≠ u ∨ P < 4) (hw : mWd w G0) (hpa : G0 127 40 = ((P : Nat) : Int)) (hn : n = (zqa w P).length) (hlen : (w u).length + n ≤ 300) :
    ∀ (r i : Nat) (G : Nat → Nat → Int), i + r = n → (∀ j, j < (w u).length → G 160 (301 * u + n + j) = (((w u).getD j 0 : Nat) : Int)) → (∀ j, j < i → G 160 (301 * u + j) = (((zqa w P).getD j 0 : Nat) : Int)) → (∀ x, (x < 301 * u ∨ 301 * (u + 1) ≤ x) → G 160 x = G0 160 x) → FM [160] [] G0 G → x_Fin xFL G →
    X mX12_putAheadOf 0 0 0 (pPa L G0 w u P) 87 [some (vR 127), some (vI u), some (vI n), some (vI i)] [] L G 0 0 := by
  obtain ⟨u1, u2, u3⟩ := hw u hu
  have hqa : (zqa w P ++ w u).length = n + (w u).length := by rw [List.length_append, ← hn]
  intro r
  induction r with
  | zero =>
    intro i G hi h1 h2 h3 hQ hF
    have hi : i = n := by omega
    subst hi
    have hm : G 161 u = (((w u).length : Nat) : Int) := by rw [hQ _ _ (by decide) (fun e => absurd e (by decide))]; exact u1
    refine x_iloadn (pc := 87) dX12_putAheadOf_87 rfl ?_
    refine x_iloadn (pc := 88) dX12_putAheadOf_88 rfl ?_
    refine x_cge (tgt := 142) (pc := 89) dX12_putAheadOf_89 (by decide) (by omega) (fun c_89 => ?_) (fun c_89 => ?_)
    rotate_left
    · skip
      exact absurd c_89 (by omega)
    refine x_aloadn (pc := 142) dX12_putAheadOf_142 rfl ?_
    refine x_getR (161) (pc := 143) dX12_putAheadOf_143 fl_X12_111 k_127 (hL 127 (by decide) (by decide)) (f_127_45 hF) ?_
    refine x_iloadn (pc := 146) dX12_putAheadOf_146 rfl ?_
    refine x_dup2 (pc := 147) dX12_putAheadOf_147 (fun h => by cases h) (fun h => by cases h) ?_
    refine x_iald (u) (pc := 148) dX12_putAheadOf_148 k_161 (hL 161 (by decide) (by decide)) (⟨by omega, by omega, by decide⟩) ?_
    rw [hm]
    refine x_iloadn (pc := 149) dX12_putAheadOf_149 rfl ?_
    refine x_iadd (pc := 150) dX12_putAheadOf_150 ?_
    refine x_iastF (u) (pc := 151) dX12_putAheadOf_151 k_161 (hL 161 (by decide) (by decide)) (⟨by omega, by omega, by decide⟩) hF (fun hF => ?_)
    refine x_iconst (pc := 152) dX12_putAheadOf_152 ?_
    refine x_rZ (pc := 153) dX12_putAheadOf_153 rfl (by omega) ?_
    refine ⟨Or.inl ⟨rfl, by omega, fun v hv => ?_⟩, (hQ.mono (by decide) (by decide)).upA (by decide), hF⟩
    rw [zws_P]
    by_cases c : v = u
    · rw [if_pos c, c, x_up_s, hqa]
      refine ⟨by omega, by omega, fun j hj => ?_⟩
      rw [x_up_ne (by decide)]
      rcases Nat.lt_or_ge j i with d | d
      · rw [zgd_l (by omega)]; exact h2 j d
      · rw [zgd_r (by omega), ← hn]
        have e := h1 (j - i) (by omega)
        rw [show 301 * u + i + (j - i) = 301 * u + j by omega] at e
        exact e
    · rw [if_neg c, x_up_k c]
      obtain ⟨a1, a2, a3⟩ := hw v hv
      refine ⟨by rw [hQ _ _ (by decide) (fun e => absurd e (by decide))]; exact a1, a2, fun j hj => ?_⟩
      rw [x_up_ne (by decide), h3 _ (by omega)]; exact a3 j hj
  | succ r ih =>
    intro i G hi h1 h2 h3 hQ hF
    have hpa' : G 127 40 = ((P : Nat) : Int) := by rw [hQ _ _ (by decide) (fun _ => by decide)]; exact hpa
    have hij : 301 * ((u : Nat) : Int) + ((i : Nat) : Int) = ((301 * u + i : Nat) : Int) := by omega
    have nx : ∀ z : Int, z = (((zqa w P).getD i 0 : Nat) : Int) → x_Fin xFL (x_up G 160 (301 * u + i) z) → X mX12_putAheadOf 0 0 0 (pPa L G0 w u P) 87 [some (vR 127), some (vI u), some (vI n), some (vI ((i + 1 : Nat) : Int))] [] L (x_up G 160 (301 * u + i) z) 0 0 := fun z hz hF => ih (i + 1) _ (by omega) (fun j hj => by rw [x_up_k (by omega)]; exact h1 j hj) (fun j hj => by
      by_cases c : j = i
      · rw [c, x_up_s, hz]
      · rw [x_up_k (by omega)]; exact h2 j (by omega)) (fun x hx => by rw [x_up_k (by omega)]; exact h3 x hx) (hQ.upA (by decide)) hF
    by_cases c4 : P < 4
    · have hz : (zqa w P).getD i 0 = P := by
        have e : zqa w P = [P] := if_pos c4
        rw [e] at hn ⊢
        rw [List.length_singleton] at hn
        rw [show i = 0 by omega]; rfl
      refine x_iloadn (pc := 87) dX12_putAheadOf_87 rfl ?_
      refine x_iloadn (pc := 88) dX12_putAheadOf_88 rfl ?_
      refine x_cge (tgt := 142) (pc := 89) dX12_putAheadOf_89 (by decide) (by omega) (fun c_89 => ?_) (fun c_89 => ?_)
      · skip
        exact absurd c_89 (by omega)
      refine x_aloadn (pc := 92) dX12_putAheadOf_92 rfl ?_
      refine x_getR (160) (pc := 93) dX12_putAheadOf_93 fl_X12_108 k_127 (hL 127 (by decide) (by decide)) (f_127_44 hF) ?_
      refine x_sipush (pc := 96) dX12_putAheadOf_96 (by decide) ?_
      refine x_iloadn (pc := 99) dX12_putAheadOf_99 rfl ?_
      refine x_imul (pc := 100) dX12_putAheadOf_100 ?_
      refine x_iloadn (pc := 101) dX12_putAheadOf_101 rfl ?_
      refine x_iadd (pc := 102) dX12_putAheadOf_102 ?_
      rw [hij]
      refine x_aloadn (pc := 103) dX12_putAheadOf_103 rfl ?_
      refine x_getI (pc := 104) dX12_putAheadOf_104 fl_X12_237 k_127 (hL 127 (by decide) (by decide)) ?_
      rw [hpa']
      refine x_iconst (pc := 107) dX12_putAheadOf_107 ?_
      refine x_cge (tgt := 118) (pc := 108) dX12_putAheadOf_108 (by decide) (by omega) (fun c_108 => ?_) (fun c_108 => ?_)
      · skip
        exact absurd c_108 (by omega)
      refine x_aloadn (pc := 111) dX12_putAheadOf_111 rfl ?_
      refine x_getI (pc := 112) dX12_putAheadOf_112 fl_X12_237 k_127 (hL 127 (by decide) (by decide)) ?_
      rw [hpa']
      refine x_goto (tgt := 135) (pc := 115) dX12_putAheadOf_115 (by decide) ?_
      refine x_iastF (301 * u + i) (pc := 135) dX12_putAheadOf_135 k_160 (hL 160 (by decide) (by decide)) (⟨by omega, by omega, by decide⟩) hF (fun hF => ?_)
      refine x_iinc (pc := 136) dX12_putAheadOf_136 rfl (by decide) rfl ?_
      refine x_goto (tgt := 87) (pc := 139) dX12_putAheadOf_139 (by decide) ?_
      exact nx _ (by rw [hz]) hF
    · have e : zqa w P = w (P - 4) := if_neg c4
      obtain ⟨a1, a2, a3⟩ := hw (P - 4) (by omega)
      rw [e] at hn nx
      have hx : G 160 (301 * (P - 4) + i) = (((w (P - 4)).getD i 0 : Nat) : Int) := by rw [h3 _ (by omega)]; exact a3 i (by omega)
      have hij2 : 301 * (((P : Nat) : Int) - 4) + ((i : Nat) : Int) = ((301 * (P - 4) + i : Nat) : Int) := by omega
      refine x_iloadn (pc := 87) dX12_putAheadOf_87 rfl ?_
      refine x_iloadn (pc := 88) dX12_putAheadOf_88 rfl ?_
      refine x_cge (tgt := 142) (pc := 89) dX12_putAheadOf_89 (by decide) (by omega) (fun c_89 => ?_) (fun c_89 => ?_)
      · skip
        exact absurd c_89 (by omega)
      refine x_aloadn (pc := 92) dX12_putAheadOf_92 rfl ?_
      refine x_getR (160) (pc := 93) dX12_putAheadOf_93 fl_X12_108 k_127 (hL 127 (by decide) (by decide)) (f_127_44 hF) ?_
      refine x_sipush (pc := 96) dX12_putAheadOf_96 (by decide) ?_
      refine x_iloadn (pc := 99) dX12_putAheadOf_99 rfl ?_
      refine x_imul (pc := 100) dX12_putAheadOf_100 ?_
      refine x_iloadn (pc := 101) dX12_putAheadOf_101 rfl ?_
      refine x_iadd (pc := 102) dX12_putAheadOf_102 ?_
      rw [hij]
      refine x_aloadn (pc := 103) dX12_putAheadOf_103 rfl ?_
      refine x_getI (pc := 104) dX12_putAheadOf_104 fl_X12_237 k_127 (hL 127 (by decide) (by decide)) ?_
      rw [hpa']
      refine x_iconst (pc := 107) dX12_putAheadOf_107 ?_
      refine x_cge (tgt := 118) (pc := 108) dX12_putAheadOf_108 (by decide) (by omega) (fun c_108 => ?_) (fun c_108 => ?_)
      rotate_left
      · skip
        exact absurd c_108 (by omega)
      refine x_aloadn (pc := 118) dX12_putAheadOf_118 rfl ?_
      refine x_getR (160) (pc := 119) dX12_putAheadOf_119 fl_X12_108 k_127 (hL 127 (by decide) (by decide)) (f_127_44 hF) ?_
      refine x_sipush (pc := 122) dX12_putAheadOf_122 (by decide) ?_
      refine x_aloadn (pc := 125) dX12_putAheadOf_125 rfl ?_
      refine x_getI (pc := 126) dX12_putAheadOf_126 fl_X12_237 k_127 (hL 127 (by decide) (by decide)) ?_
      rw [hpa']
      refine x_iconst (pc := 129) dX12_putAheadOf_129 ?_
      refine x_isub (pc := 130) dX12_putAheadOf_130 ?_
      refine x_imul (pc := 131) dX12_putAheadOf_131 ?_
      refine x_iloadn (pc := 132) dX12_putAheadOf_132 rfl ?_
      refine x_iadd (pc := 133) dX12_putAheadOf_133 ?_
      rw [hij2]
      refine x_iald (301 * (P - 4) + i) (pc := 134) dX12_putAheadOf_134 k_160 (hL 160 (by decide) (by decide)) (⟨by omega, by omega, by decide⟩) ?_
      rw [hx]
      refine x_iastF (301 * u + i) (pc := 135) dX12_putAheadOf_135 k_160 (hL 160 (by decide) (by decide)) (⟨by omega, by omega, by decide⟩) hF (fun hF => ?_)
      refine x_iinc (pc := 136) dX12_putAheadOf_136 rfl (by decide) rfl ?_
      refine x_goto (tgt := 87) (pc := 139) dX12_putAheadOf_139 (by decide) ?_
      exact nx _ rfl hF
theorem l_mo_paS {n : Nat} {G0 : Nat → Nat → Int} (hL : x_SL L) (hu : u < 4) (hP : P < 8 ∧ P ≠ 3) (hPu : P - 4 ≠ u ∨ P < 4) (hw : mWd w G0) (hpa : G0 127 40 = ((P : Nat) : Int)) (hn : n = (zqa w P).length) (hlen : (w u).length + n ≤ 300) :
    ∀ (i : Nat) (G : Nat → Nat → Int), i ≤ (w u).length → (∀ j, j < i → G 160 (301 * u + j) = (((w u).getD j 0 : Nat) : Int)) → (∀ j, i ≤ j → j < (w u).length → G 160 (301 * u + n + j) = (((w u).getD j 0 : Nat) : Int)) → (∀ x, (x < 301 * u ∨ 301 * (u + 1) ≤ x) → G 160 x = G0 160 x) → FM [160] [] G0 G → x_Fin xFL G →
    X mX12_putAheadOf 0 0 0 (pPa L G0 w u P) 49 [some (vR 127), some (vI u), some (vI n), some (vI (((i : Nat) : Int) - 1))] [] L G 0 0 := by
  obtain ⟨u1, u2, u3⟩ := hw u hu
  intro i
  induction i with
  | zero =>
    intro G hi h1 h2 h3 hQ hF
    refine x_iloadn (pc := 49) dX12_putAheadOf_49 rfl ?_
    refine x_ilt (tgt := 85) (pc := 50) dX12_putAheadOf_50 (by decide) (by omega) (fun c_50 => ?_) (fun c_50 => ?_)
    rotate_left
    · skip
      exact absurd c_50 (by omega)
    refine x_iconst (pc := 85) dX12_putAheadOf_85 ?_
    refine x_istoren (pc := 86) dX12_putAheadOf_86 rfl (by decide) rfl ?_
    exact l_mo_paC hL hu hP hPu hw hpa hn hlen n 0 G (Nat.zero_add _) (fun j hj => h2 j (Nat.zero_le _) hj) (fun j hj => absurd hj (Nat.not_lt_zero j)) h3 hQ hF
  | succ i ih =>
    intro G hi h1 h2 h3 hQ hF
    have hx := h1 i (by omega)
    have hij : 301 * ((u : Nat) : Int) + ((i : Nat) : Int) = ((301 * u + i : Nat) : Int) := by omega
    have hij2 : ((301 * u + i : Nat) : Int) + ((n : Nat) : Int) = ((301 * u + n + i : Nat) : Int) := by omega
    rw [show ((i + 1 : Nat) : Int) - 1 = ((i : Nat) : Int) by omega]
    have hnx : ((i : Nat) : Int) + -1 = ((i : Nat) : Int) - 1 := by omega
    refine x_iloadn (pc := 49) dX12_putAheadOf_49 rfl ?_
    refine x_ilt (tgt := 85) (pc := 50) dX12_putAheadOf_50 (by decide) (by omega) (fun c_50 => ?_) (fun c_50 => ?_)
    · skip
      exact absurd c_50 (by omega)
    refine x_aloadn (pc := 53) dX12_putAheadOf_53 rfl ?_
    refine x_getR (160) (pc := 54) dX12_putAheadOf_54 fl_X12_108 k_127 (hL 127 (by decide) (by decide)) (f_127_44 hF) ?_
    refine x_sipush (pc := 57) dX12_putAheadOf_57 (by decide) ?_
    refine x_iloadn (pc := 60) dX12_putAheadOf_60 rfl ?_
    refine x_imul (pc := 61) dX12_putAheadOf_61 ?_
    refine x_iloadn (pc := 62) dX12_putAheadOf_62 rfl ?_
    refine x_iadd (pc := 63) dX12_putAheadOf_63 ?_
    rw [hij]
    refine x_iloadn (pc := 64) dX12_putAheadOf_64 rfl ?_
    refine x_iadd (pc := 65) dX12_putAheadOf_65 ?_
    rw [hij2]
    refine x_aloadn (pc := 66) dX12_putAheadOf_66 rfl ?_
    refine x_getR (160) (pc := 67) dX12_putAheadOf_67 fl_X12_108 k_127 (hL 127 (by decide) (by decide)) (f_127_44 hF) ?_
    refine x_sipush (pc := 70) dX12_putAheadOf_70 (by decide) ?_
    refine x_iloadn (pc := 73) dX12_putAheadOf_73 rfl ?_
    refine x_imul (pc := 74) dX12_putAheadOf_74 ?_
    refine x_iloadn (pc := 75) dX12_putAheadOf_75 rfl ?_
    refine x_iadd (pc := 76) dX12_putAheadOf_76 ?_
    rw [hij]
    refine x_iald (301 * u + i) (pc := 77) dX12_putAheadOf_77 k_160 (hL 160 (by decide) (by decide)) (⟨by omega, by omega, by decide⟩) ?_
    rw [hx]
    refine x_iastF (301 * u + n + i) (pc := 78) dX12_putAheadOf_78 k_160 (hL 160 (by decide) (by decide)) (⟨by omega, by omega, by decide⟩) hF (fun hF => ?_)
    refine x_iinc (pc := 79) dX12_putAheadOf_79 rfl (by decide) rfl ?_
    refine x_goto (tgt := 49) (pc := 82) dX12_putAheadOf_82 (by decide) ?_
    rw [hnx]
    refine ih _ (by omega) (fun j hj => ?_) (fun j h4 h5 => ?_) (fun x hx => by rw [x_up_k (by omega)]; exact h3 x hx) (hQ.upA (by decide)) hF
    · rw [x_up_k (by omega)]; exact h1 j (by omega)
    · by_cases c : j = i
      · rw [c, x_up_s]
      · rw [x_up_k (by omega)]; exact h2 j (by omega) h5
theorem c_mo_putAheadOf {G : Nat → Nat → Int} (hL : x_SL L) (hF : x_Fin xFL G) (hu : u < 4) (hP : P < 8 ∧ P ≠ 3) (hPu : P - 4 ≠ u ∨ P < 4) (hw : mWd w G) (hpa : G 127 40 = ((P : Nat) : Int)) :
    CM yX12_putAheadOf mX12_putAheadOf 0 0 0 [vR 127, vI u] L G (pPa L G w u P) := by
  obtain ⟨u1, u2, u3⟩ := hw u hu
  have hqa : (zqa w P ++ w u).length = (zqa w P).length + (w u).length := List.length_append
  have go : ∀ n : Nat, n = (zqa w P).length → ∀ o3 : Option (Nat × Int), X mX12_putAheadOf 0 0 0 (pPa L G w u P) 23 [some (vR 127), some (vI u), none, o3] [vI n] L G 0 0 := by
    intro n hn o3
    have hn3 : n ≤ 300 := by
      rw [hn]; unfold zqa
      by_cases c : P < 4
      · rw [if_pos c]; simp
      · rw [if_neg c]; exact (hw (P - 4) (by omega)).2.1
    refine x_istoren (pc := 23) dX12_putAheadOf_23 rfl (by decide) rfl ?_
    refine x_aloadn (pc := 24) dX12_putAheadOf_24 rfl ?_
    refine x_getR (161) (pc := 25) dX12_putAheadOf_25 fl_X12_111 k_127 (hL 127 (by decide) (by decide)) (f_127_45 hF) ?_
    refine x_iloadn (pc := 28) dX12_putAheadOf_28 rfl ?_
    refine x_iald (u) (pc := 29) dX12_putAheadOf_29 k_161 (hL 161 (by decide) (by decide)) (⟨by omega, by omega, by decide⟩) ?_
    rw [u1]
    refine x_iloadn (pc := 30) dX12_putAheadOf_30 rfl ?_
    refine x_iadd (pc := 31) dX12_putAheadOf_31 ?_
    refine x_sipush (pc := 32) dX12_putAheadOf_32 (by decide) ?_
    refine x_cle (tgt := 40) (pc := 35) dX12_putAheadOf_35 (by decide) (by omega) (fun c_35 => ?_) (fun c_35 => ?_)
    · skip
      refine x_aloadn (pc := 40) dX12_putAheadOf_40 rfl ?_
      refine x_getR (161) (pc := 41) dX12_putAheadOf_41 fl_X12_111 k_127 (hL 127 (by decide) (by decide)) (f_127_45 hF) ?_
      refine x_iloadn (pc := 44) dX12_putAheadOf_44 rfl ?_
      refine x_iald (u) (pc := 45) dX12_putAheadOf_45 k_161 (hL 161 (by decide) (by decide)) (⟨by omega, by omega, by decide⟩) ?_
      rw [u1]
      refine x_iconst (pc := 46) dX12_putAheadOf_46 ?_
      refine x_isub (pc := 47) dX12_putAheadOf_47 ?_
      refine x_istoren (pc := 48) dX12_putAheadOf_48 rfl (by decide) rfl ?_
      exact l_mo_paS hL hu hP hPu hw hpa hn (by omega) (w u).length G (Nat.le_refl _) u3 (fun j h1 h2 => by omega) (fun _ _ => rfl) FM.rf hF
    · skip
      refine x_iconst (pc := 38) dX12_putAheadOf_38 ?_
      refine x_rZ (pc := 39) dX12_putAheadOf_39 rfl (by omega) ?_
      exact ⟨Or.inr ⟨rfl, by omega⟩, FM.rf, hF⟩
  refine Ct.of_X (μ := mX12_putAheadOf) rfl rfl (by decide) (fun h => by cases h) (Nat.le_of_ble_eq_true rfl) rfl ?_
  by_cases c4 : P < 4
  · skip
    refine x_aloadn (pc := 0) dX12_putAheadOf_0 rfl ?_
    refine x_getI (pc := 1) dX12_putAheadOf_1 fl_X12_237 k_127 (hL 127 (by decide) (by decide)) ?_
    rw [hpa]
    refine x_iconst (pc := 4) dX12_putAheadOf_4 ?_
    refine x_cge (tgt := 12) (pc := 5) dX12_putAheadOf_5 (by decide) (by omega) (fun c_5 => ?_) (fun c_5 => ?_)
    · skip
      exact absurd c_5 (by omega)
    refine x_iconst (pc := 8) dX12_putAheadOf_8 ?_
    refine x_goto (tgt := 23) (pc := 9) dX12_putAheadOf_9 (by decide) ?_
    exact go 1 (by unfold zqa; rw [if_pos c4]; rfl) _
  · obtain ⟨a1, a2, a3⟩ := hw (P - 4) (by omega)
    have hi4 : ((P : Nat) : Int) - 4 = ((P - 4 : Nat) : Int) := by omega
    refine x_aloadn (pc := 0) dX12_putAheadOf_0 rfl ?_
    refine x_getI (pc := 1) dX12_putAheadOf_1 fl_X12_237 k_127 (hL 127 (by decide) (by decide)) ?_
    rw [hpa]
    refine x_iconst (pc := 4) dX12_putAheadOf_4 ?_
    refine x_cge (tgt := 12) (pc := 5) dX12_putAheadOf_5 (by decide) (by omega) (fun c_5 => ?_) (fun c_5 => ?_)
    rotate_left
    · skip
      exact absurd c_5 (by omega)
    refine x_aloadn (pc := 12) dX12_putAheadOf_12 rfl ?_
    refine x_getR (161) (pc := 13) dX12_putAheadOf_13 fl_X12_111 k_127 (hL 127 (by decide) (by decide)) (f_127_45 hF) ?_
    refine x_aloadn (pc := 16) dX12_putAheadOf_16 rfl ?_
    refine x_getI (pc := 17) dX12_putAheadOf_17 fl_X12_237 k_127 (hL 127 (by decide) (by decide)) ?_
    rw [hpa]
    refine x_iconst (pc := 20) dX12_putAheadOf_20 ?_
    refine x_isub (pc := 21) dX12_putAheadOf_21 ?_
    rw [hi4]
    refine x_iald (P - 4) (pc := 22) dX12_putAheadOf_22 k_161 (hL 161 (by decide) (by decide)) (⟨by omega, by omega, by decide⟩) ?_
    rw [a1]
    exact go (w (P - 4)).length (by unfold zqa; rw [if_neg c4]) _
end XFW

