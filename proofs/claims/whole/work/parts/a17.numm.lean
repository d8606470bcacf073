/-! the reference: the equations met -/
def mGn (ns : List zSt) (G : Nat → Nat → Int) : Prop := ∀ k s, ns[k]? = some s → G 149 k = ((s.1.length : Nat) : Int) ∧ G 150 k = ((s.1.length + s.2.length : Nat) : Int) ∧ ∀ i, i < s.1.length + s.2.length → G 148 (24 * k + i) = (((s.1 ++ s.2).getD i 0 : Nat) : Int)
theorem mGn.FM {ns : List zSt} {T F : List Nat} {G G' : Nat → Nat → Int} (h : mGn ns G) (k : FM T F G G') (h1 : 149 ∉ T) (h2 : 150 ∉ T) (h3 : 148 ∉ T) : mGn ns G' := fun j s hj => by
  obtain ⟨a1, a2, a3⟩ := h j s hj
  exact ⟨by rw [k 149 _ h1 (fun e => absurd e (by decide))]; exact a1, by rw [k 150 _ h2 (fun e => absurd e (by decide))]; exact a2, fun i hi => by rw [k 148 _ h3 (fun e => absurd e (by decide))]; exact a3 i hi⟩
section XNM
variable {L : List Nat} {ns : List zSt} {A B : List Nat} {s : zSt} {k : Nat}
theorem l_mo_nm {G : Nat → Nat → Int} (hL : x_SL L) (hF : x_Fin xFL G) (h : mGn ns G) (hk : ns[k]? = some s) (hk15 : k < 1500) (hv : zvS s) :
    ∀ (r i b : Nat) (o4 : Option (Nat × Int)), i + r = (s.1 ++ s.2).length → b < 16 → znf b ((s.1 ++ s.2).drop i) = znm s → X mX12_namesMet 0 0 0 (qI L fun x G' => x = ((znm s : Nat) : Int) ∧ G' = G) 4 [some (vR 127), some (vI k), some (vI b), some (vI i), o4] [] L G 0 0 := by
  obtain ⟨h1, h2, h3⟩ := h k s hk
  obtain ⟨v1, v2⟩ := hv.all
  have ll : (s.1 ++ s.2).length = s.1.length + s.2.length := List.length_append
  intro r
  induction r with
  | zero =>
    intro i b o4 hi hb hV
    have hi : i = (s.1 ++ s.2).length := by omega
    subst hi
    rw [List.drop_length] at hV
    have hV : b = znm s := hV
    refine x_iloadn (pc := 4) dX12_namesMet_4 rfl ?_
    refine x_aloadn (pc := 5) dX12_namesMet_5 rfl ?_
    refine x_getR (150) (pc := 6) dX12_namesMet_6 fl_X12_77 k_127 (hL 127 (by decide) (by decide)) (f_127_28 hF) ?_
    refine x_iloadn (pc := 9) dX12_namesMet_9 rfl ?_
    refine x_iald (k) (pc := 10) dX12_namesMet_10 k_150 (hL 150 (by decide) (by decide)) (⟨by omega, by omega, by decide⟩) ?_
    rw [h2]
    refine x_cge (tgt := 52) (pc := 11) dX12_namesMet_11 (by decide) (by omega) (fun c_11 => ?_) (fun c_11 => ?_)
    rotate_left
    · skip
      exact absurd c_11 (by omega)
    refine x_iloadn (pc := 52) dX12_namesMet_52 rfl ?_
    refine x_rI (pc := 53) dX12_namesMet_53 rfl ?_
    exact ⟨by rw [hV], rfl⟩
  | succ r ih =>
    intro i b o4 hi hb hV
    have hr := h3 i (by omega)
    have hx8 : (s.1 ++ s.2).getD i 0 < 8 := by rw [zgd_el (show i < (s.1 ++ s.2).length by omega)]; exact v1 _ (List.getElem_mem (show i < (s.1 ++ s.2).length by omega))
    rw [zdr_at (show i < (s.1 ++ s.2).length by omega), znf] at hV
    obtain ⟨x, hx⟩ : ∃ x, x = (s.1 ++ s.2).getD i 0 := ⟨_, rfl⟩
    rw [← hx] at hr hx8 hV
    have hp2 : (1 : Int) * 2 ^ (x - 4) = ((2 ^ (x - 4) : Nat) : Int) := by simp
    have hp3 : 2 ^ (x - 4) < 2 ^ 4 := Nat.pow_lt_pow_right (by decide) (by omega)
    have hor := Nat.or_lt_two_pow (n := 4) hb hp3
    have hij : 24 * ((k : Nat) : Int) + ((i : Nat) : Int) = ((24 * k + i : Nat) : Int) := by omega
    refine x_iloadn (pc := 4) dX12_namesMet_4 rfl ?_
    refine x_aloadn (pc := 5) dX12_namesMet_5 rfl ?_
    refine x_getR (150) (pc := 6) dX12_namesMet_6 fl_X12_77 k_127 (hL 127 (by decide) (by decide)) (f_127_28 hF) ?_
    refine x_iloadn (pc := 9) dX12_namesMet_9 rfl ?_
    refine x_iald (k) (pc := 10) dX12_namesMet_10 k_150 (hL 150 (by decide) (by decide)) (⟨by omega, by omega, by decide⟩) ?_
    rw [h2]
    refine x_cge (tgt := 52) (pc := 11) dX12_namesMet_11 (by decide) (by omega) (fun c_11 => ?_) (fun c_11 => ?_)
    · skip
      exact absurd c_11 (by omega)
    refine x_aloadn (pc := 14) dX12_namesMet_14 rfl ?_
    refine x_getR (148) (pc := 15) dX12_namesMet_15 fl_X12_71 k_127 (hL 127 (by decide) (by decide)) (f_127_26 hF) ?_
    refine x_bipush (pc := 18) dX12_namesMet_18 (by decide) ?_
    refine x_iloadn (pc := 20) dX12_namesMet_20 rfl ?_
    refine x_imul (pc := 21) dX12_namesMet_21 ?_
    refine x_iloadn (pc := 22) dX12_namesMet_22 rfl ?_
    refine x_iadd (pc := 23) dX12_namesMet_23 ?_
    rw [hij]
    refine x_iald (24 * k + i) (pc := 24) dX12_namesMet_24 k_148 (hL 148 (by decide) (by decide)) (⟨by omega, by omega, by decide⟩) ?_
    rw [hr]
    refine x_istore (pc := 25) dX12_namesMet_25 (by decide) rfl ?_
    refine x_iloadn (pc := 27) dX12_namesMet_27 rfl ?_
    refine x_iload (pc := 28) dX12_namesMet_28 rfl ?_
    refine x_iconst (pc := 30) dX12_namesMet_30 ?_
    refine x_cle (tgt := 43) (pc := 31) dX12_namesMet_31 (by decide) (by omega) (fun c_31 => ?_) (fun c_31 => ?_)
    · skip
      refine x_iconst (pc := 43) dX12_namesMet_43 ?_
      first
      | (refine x_iorN (pc := 44) dX12_namesMet_44 b 0 rfl rfl (by omega) ?_
         rw [Nat.or_zero]
         refine x_istoren (pc := 45) dX12_namesMet_45 rfl (by decide) rfl ?_
         refine x_iinc (pc := 46) dX12_namesMet_46 rfl (by decide) rfl ?_
         refine x_goto (tgt := 4) (pc := 49) dX12_namesMet_49 (by decide) ?_
         exact ih (i + 1) b _ (by omega) hb (by rw [if_neg (by omega)] at hV; exact hV))
      | (refine x_iorN (pc := 44) dX12_namesMet_44 b (2 ^ (x - 4)) rfl rfl (by omega) ?_
         refine x_istoren (pc := 45) dX12_namesMet_45 rfl (by decide) rfl ?_
         refine x_iinc (pc := 46) dX12_namesMet_46 rfl (by decide) rfl ?_
         refine x_goto (tgt := 4) (pc := 49) dX12_namesMet_49 (by decide) ?_
         exact ih (i + 1) _ _ (by omega) hor (by rw [if_pos (by omega)] at hV; exact hV))
    · skip
      refine x_iconst (pc := 34) dX12_namesMet_34 ?_
      refine x_iload (pc := 35) dX12_namesMet_35 rfl ?_
      refine x_iconst (pc := 37) dX12_namesMet_37 ?_
      refine x_isub (pc := 38) dX12_namesMet_38 ?_
      refine x_ishl (pc := 39) dX12_namesMet_39 (x - 4) (by omega) (by omega) ?_
      rw [hp2]
      refine x_goto (tgt := 44) (pc := 40) dX12_namesMet_40 (by decide) ?_
      first
      | (refine x_iorN (pc := 44) dX12_namesMet_44 b 0 rfl rfl (by omega) ?_
         rw [Nat.or_zero]
         refine x_istoren (pc := 45) dX12_namesMet_45 rfl (by decide) rfl ?_
         refine x_iinc (pc := 46) dX12_namesMet_46 rfl (by decide) rfl ?_
         refine x_goto (tgt := 4) (pc := 49) dX12_namesMet_49 (by decide) ?_
         exact ih (i + 1) b _ (by omega) hb (by rw [if_neg (by omega)] at hV; exact hV))
      | (refine x_iorN (pc := 44) dX12_namesMet_44 b (2 ^ (x - 4)) rfl rfl (by omega) ?_
         refine x_istoren (pc := 45) dX12_namesMet_45 rfl (by decide) rfl ?_
         refine x_iinc (pc := 46) dX12_namesMet_46 rfl (by decide) rfl ?_
         refine x_goto (tgt := 4) (pc := 49) dX12_namesMet_49 (by decide) ?_
         exact ih (i + 1) _ _ (by omega) hor (by rw [if_pos (by omega)] at hV; exact hV))
theorem c_mo_namesMet {G : Nat → Nat → Int} (hL : x_SL L) (hF : x_Fin xFL G) (h : mGn ns G) (hk : ns[k]? = some s) (hk15 : k < 1500) (hv : zvS s) :
    CM yX12_namesMet mX12_namesMet 0 0 0 [vR 127, vI k] L G (qI L fun x G' => x = ((znm s : Nat) : Int) ∧ G' = G) := by
  refine Ct.of_X (μ := mX12_namesMet) rfl rfl (by decide) (fun h => by cases h) (Nat.le_of_ble_eq_true rfl) rfl ?_
  refine x_iconst (pc := 0) dX12_namesMet_0 ?_
  refine x_istoren (pc := 1) dX12_namesMet_1 rfl (by decide) rfl ?_
  refine x_iconst (pc := 2) dX12_namesMet_2 ?_
  refine x_istoren (pc := 3) dX12_namesMet_3 rfl (by decide) rfl ?_
  exact l_mo_nm hL hF h hk hk15 hv (s.1 ++ s.2).length 0 0 _ (Nat.zero_add _) (by decide) (by rw [List.drop_zero, znf_app]; rfl)
/-! is it the one that stands there -/
abbrev pIm (L : List Nat) (G0 : Nat → Nat → Int) (s : zSt) (A B : List Nat) : x_Q := qI L fun x G' => ((x = 1 ∧ s = (A, B)) ∨ (x = 0 ∧ s ≠ (A, B))) ∧ G' = G0
theorem zls_ext {A B : List Nat} (hl : A.length = B.length) (h : ∀ i, i < A.length → A.getD i 0 = B.getD i 0) : A = B := by
  apply List.ext_getElem hl
  intro i h1 h2
  rw [← zgd_el h1, ← zgd_el h2]; exact h i h1
theorem l_mo_imB {G : Nat → Nat → Int} (hL : x_SL L) (hF : x_Fin xFL G) (h : mGn ns G) (hab : mAB A B G) (hk : ns[k]? = some s) (hk15 : k < 1500) (hv : zvS s) (hB : zb8 B) (hn : A.length ≤ 60 ∧ B.length ≤ 60) :
    ∀ (r i : Nat) (w : Int), i + r = B.length → ((w = 1 ∧ s.1 = A ∧ s.2.length = B.length ∧ ∀ j, j < i → s.2.getD j 0 = B.getD j 0) ∨ (w = 0 ∧ s ≠ (A, B))) →
    X mX12_isMet 0 0 0 (pIm L G s A B) 85 [some (vR 127), some (vI k), some (vI w), some (vI i)] [] L G 0 0 := by
  obtain ⟨h1, h2, h3⟩ := h k s hk
  obtain ⟨b1, b2, b3, b4⟩ := id hab
  obtain ⟨v1, v2⟩ := hv.all
  intro r
  induction r with
  | zero =>
    intro i w hi hw
    rcases hw with ⟨rfl, w1, w2, w3⟩ | ⟨rfl, w1⟩
    · have hs : s = (A, B) := Prod.ext w1 (zls_ext w2 (fun j hj => w3 j (by omega)))
      refine x_iloadn (pc := 85) dX12_isMet_85 rfl ?_
      refine x_ieq (tgt := 134) (pc := 86) dX12_isMet_86 (by decide) (by omega) (fun c_86 => ?_) (fun c_86 => ?_)
      · skip
        exact absurd c_86 (by decide)
      refine x_iloadn (pc := 89) dX12_isMet_89 rfl ?_
      refine x_aloadn (pc := 90) dX12_isMet_90 rfl ?_
      refine x_getI (pc := 91) dX12_isMet_91 fl_X12_227 k_127 (hL 127 (by decide) (by decide)) ?_
      rw [b2]
      refine x_cge (tgt := 134) (pc := 94) dX12_isMet_94 (by decide) (by omega) (fun c_94 => ?_) (fun c_94 => ?_)
      rotate_left
      · skip
        exact absurd c_94 (by omega)
      refine x_iloadn (pc := 134) dX12_isMet_134 rfl ?_
      refine x_rZ (pc := 135) dX12_isMet_135 rfl (by omega) ?_
      exact ⟨Or.inl ⟨rfl, hs⟩, rfl⟩
    · skip
      refine x_iloadn (pc := 85) dX12_isMet_85 rfl ?_
      refine x_ieq (tgt := 134) (pc := 86) dX12_isMet_86 (by decide) (by omega) (fun c_86 => ?_) (fun c_86 => ?_)
      rotate_left
      · skip
        exact absurd rfl c_86
      refine x_iloadn (pc := 134) dX12_isMet_134 rfl ?_
      refine x_rZ (pc := 135) dX12_isMet_135 rfl (by omega) ?_
      exact ⟨Or.inr ⟨rfl, w1⟩, rfl⟩
  | succ r ih =>
    intro i w hi hw
    rcases hw with ⟨rfl, w1, w2, w3⟩ | ⟨rfl, w1⟩
    · have hr := h3 (A.length + i) (by rw [w1]; omega)
      have hg : (s.1 ++ s.2).getD (A.length + i) 0 = s.2.getD i 0 := by rw [zgd_r (by rw [w1]; omega), w1, show A.length + i - A.length = i by omega]
      rw [hg] at hr
      have hx8 := zb8_at hv.b8.2 (show i < s.2.length by omega)
      have hy := b4 i (by omega)
      have hy8 := zb8_at hB (show i < B.length by omega)
      have hla : s.1.length = A.length := by rw [w1]
      have hij : 24 * ((k : Nat) : Int) + ((A.length : Nat) : Int) + ((i : Nat) : Int) = ((24 * k + (A.length + i) : Nat) : Int) := by omega
      have hl24 := hv.2.2.1
      refine x_iloadn (pc := 85) dX12_isMet_85 rfl ?_
      refine x_ieq (tgt := 134) (pc := 86) dX12_isMet_86 (by decide) (by omega) (fun c_86 => ?_) (fun c_86 => ?_)
      · skip
        exact absurd c_86 (by decide)
      refine x_iloadn (pc := 89) dX12_isMet_89 rfl ?_
      refine x_aloadn (pc := 90) dX12_isMet_90 rfl ?_
      refine x_getI (pc := 91) dX12_isMet_91 fl_X12_227 k_127 (hL 127 (by decide) (by decide)) ?_
      rw [b2]
      refine x_cge (tgt := 134) (pc := 94) dX12_isMet_94 (by decide) (by omega) (fun c_94 => ?_) (fun c_94 => ?_)
      · skip
        exact absurd c_94 (by omega)
      refine x_aloadn (pc := 97) dX12_isMet_97 rfl ?_
      refine x_getR (148) (pc := 98) dX12_isMet_98 fl_X12_71 k_127 (hL 127 (by decide) (by decide)) (f_127_26 hF) ?_
      refine x_bipush (pc := 101) dX12_isMet_101 (by decide) ?_
      refine x_iloadn (pc := 103) dX12_isMet_103 rfl ?_
      refine x_imul (pc := 104) dX12_isMet_104 ?_
      refine x_aloadn (pc := 105) dX12_isMet_105 rfl ?_
      refine x_getI (pc := 106) dX12_isMet_106 fl_X12_224 k_127 (hL 127 (by decide) (by decide)) ?_
      rw [b1]
      refine x_iadd (pc := 109) dX12_isMet_109 ?_
      refine x_iloadn (pc := 110) dX12_isMet_110 rfl ?_
      refine x_iadd (pc := 111) dX12_isMet_111 ?_
      rw [hij]
      refine x_iald (24 * k + (A.length + i)) (pc := 112) dX12_isMet_112 k_148 (hL 148 (by decide) (by decide)) (⟨by omega, by omega, by decide⟩) ?_
      rw [hr]
      refine x_aloadn (pc := 113) dX12_isMet_113 rfl ?_
      refine x_getR (156) (pc := 114) dX12_isMet_114 fl_X12_96 k_127 (hL 127 (by decide) (by decide)) (f_127_36 hF) ?_
      refine x_iloadn (pc := 117) dX12_isMet_117 rfl ?_
      refine x_iald (i) (pc := 118) dX12_isMet_118 k_156 (hL 156 (by decide) (by decide)) (⟨by omega, by omega, by decide⟩) ?_
      rw [hy]
      refine x_cne (tgt := 126) (pc := 119) dX12_isMet_119 (by decide) (by omega) (fun c_119 => ?_) (fun c_119 => ?_)
      · skip
        refine x_iconst (pc := 126) dX12_isMet_126 ?_
        refine x_istoren (pc := 127) dX12_isMet_127 rfl (by decide) rfl ?_
        refine x_iinc (pc := 128) dX12_isMet_128 rfl (by decide) rfl ?_
        refine x_goto (tgt := 85) (pc := 131) dX12_isMet_131 (by decide) ?_
        first
        | (refine ih (i + 1) 0 (by omega) (Or.inr ⟨rfl, fun q => ?_⟩)
           apply c_119
           rw [q])
        | (refine ih (i + 1) 1 (by omega) (Or.inl ⟨rfl, w1, w2, fun j hj => ?_⟩)
           by_cases c : j = i
           · rw [c]; omega
           · exact w3 j (by omega))
      · skip
        refine x_iconst (pc := 122) dX12_isMet_122 ?_
        refine x_goto (tgt := 127) (pc := 123) dX12_isMet_123 (by decide) ?_
        refine x_istoren (pc := 127) dX12_isMet_127 rfl (by decide) rfl ?_
        refine x_iinc (pc := 128) dX12_isMet_128 rfl (by decide) rfl ?_
        refine x_goto (tgt := 85) (pc := 131) dX12_isMet_131 (by decide) ?_
        first
        | (refine ih (i + 1) 0 (by omega) (Or.inr ⟨rfl, fun q => ?_⟩)
           apply c_119
           rw [q])
        | (refine ih (i + 1) 1 (by omega) (Or.inl ⟨rfl, w1, w2, fun j hj => ?_⟩)
           by_cases c : j = i
           · rw [c]; omega
           · exact w3 j (by omega))
    · skip
      refine x_iloadn (pc := 85) dX12_isMet_85 rfl ?_
      refine x_ieq (tgt := 134) (pc := 86) dX12_isMet_86 (by decide) (by omega) (fun c_86 => ?_) (fun c_86 => ?_)
      rotate_left
      · skip
        exact absurd rfl c_86
      refine x_iloadn (pc := 134) dX12_isMet_134 rfl ?_
      refine x_rZ (pc := 135) dX12_isMet_135 rfl (by omega) ?_
      exact ⟨Or.inr ⟨rfl, w1⟩, rfl⟩
theorem l_mo_imA {G : Nat → Nat → Int} (hL : x_SL L) (hF : x_Fin xFL G) (h : mGn ns G) (hab : mAB A B G) (hk : ns[k]? = some s) (hk15 : k < 1500) (hv : zvS s) (hA : zb8 A) (hB : zb8 B) (hn : A.length ≤ 60 ∧ B.length ≤ 60) :
    ∀ (r i : Nat) (w : Int), i + r = A.length → ((w = 1 ∧ s.1.length = A.length ∧ s.2.length = B.length ∧ ∀ j, j < i → s.1.getD j 0 = A.getD j 0) ∨ (w = 0 ∧ s ≠ (A, B))) →
    X mX12_isMet 0 0 0 (pIm L G s A B) 39 [some (vR 127), some (vI k), some (vI w), some (vI i)] [] L G 0 0 := by
  obtain ⟨h1, h2, h3⟩ := h k s hk
  obtain ⟨b1, b2, b3, b4⟩ := id hab
  have hB0 := fun w hw => l_mo_imB hL hF h hab hk hk15 hv hB hn B.length 0 w (Nat.zero_add _) hw
  intro r
  induction r with
  | zero =>
    intro i w hi hw
    rcases hw with ⟨rfl, w1, w2, w3⟩ | ⟨rfl, w1⟩
    · have hs : s.1 = A := zls_ext w1 (fun j hj => w3 j (by omega))
      refine x_iloadn (pc := 39) dX12_isMet_39 rfl ?_
      refine x_ieq (tgt := 83) (pc := 40) dX12_isMet_40 (by decide) (by omega) (fun c_40 => ?_) (fun c_40 => ?_)
      · skip
        exact absurd c_40 (by decide)
      refine x_iloadn (pc := 43) dX12_isMet_43 rfl ?_
      refine x_aloadn (pc := 44) dX12_isMet_44 rfl ?_
      refine x_getI (pc := 45) dX12_isMet_45 fl_X12_224 k_127 (hL 127 (by decide) (by decide)) ?_
      rw [b1]
      refine x_cge (tgt := 83) (pc := 48) dX12_isMet_48 (by decide) (by omega) (fun c_48 => ?_) (fun c_48 => ?_)
      rotate_left
      · skip
        exact absurd c_48 (by omega)
      refine x_iconst (pc := 83) dX12_isMet_83 ?_
      refine x_istoren (pc := 84) dX12_isMet_84 rfl (by decide) rfl ?_
      exact hB0 1 (Or.inl ⟨rfl, hs, w2, fun j hj => absurd hj (Nat.not_lt_zero j)⟩)
    · skip
      refine x_iloadn (pc := 39) dX12_isMet_39 rfl ?_
      refine x_ieq (tgt := 83) (pc := 40) dX12_isMet_40 (by decide) (by omega) (fun c_40 => ?_) (fun c_40 => ?_)
      rotate_left
      · skip
        exact absurd rfl c_40
      refine x_iconst (pc := 83) dX12_isMet_83 ?_
      refine x_istoren (pc := 84) dX12_isMet_84 rfl (by decide) rfl ?_
      exact hB0 0 (Or.inr ⟨rfl, w1⟩)
  | succ r ih =>
    intro i w hi hw
    rcases hw with ⟨rfl, w1, w2, w3⟩ | ⟨rfl, w1⟩
    · have hr := h3 i (by omega)
      have hg : (s.1 ++ s.2).getD i 0 = s.1.getD i 0 := zgd_l (by omega)
      rw [hg] at hr
      have hx8 := zb8_at hv.b8.1 (show i < s.1.length by omega)
      have hy := b3 i (by omega)
      have hy8 := zb8_at hA (show i < A.length by omega)
      have hij : 24 * ((k : Nat) : Int) + ((i : Nat) : Int) = ((24 * k + i : Nat) : Int) := by omega
      have hl24 := hv.2.2.1
      refine x_iloadn (pc := 39) dX12_isMet_39 rfl ?_
      refine x_ieq (tgt := 83) (pc := 40) dX12_isMet_40 (by decide) (by omega) (fun c_40 => ?_) (fun c_40 => ?_)
      · skip
        exact absurd c_40 (by decide)
      refine x_iloadn (pc := 43) dX12_isMet_43 rfl ?_
      refine x_aloadn (pc := 44) dX12_isMet_44 rfl ?_
      refine x_getI (pc := 45) dX12_isMet_45 fl_X12_224 k_127 (hL 127 (by decide) (by decide)) ?_
      rw [b1]
      refine x_cge (tgt := 83) (pc := 48) dX12_isMet_48 (by decide) (by omega) (fun c_48 => ?_) (fun c_48 => ?_)
      · skip
        exact absurd c_48 (by omega)
      refine x_aloadn (pc := 51) dX12_isMet_51 rfl ?_
      refine x_getR (148) (pc := 52) dX12_isMet_52 fl_X12_71 k_127 (hL 127 (by decide) (by decide)) (f_127_26 hF) ?_
      refine x_bipush (pc := 55) dX12_isMet_55 (by decide) ?_
      refine x_iloadn (pc := 57) dX12_isMet_57 rfl ?_
      refine x_imul (pc := 58) dX12_isMet_58 ?_
      refine x_iloadn (pc := 59) dX12_isMet_59 rfl ?_
      refine x_iadd (pc := 60) dX12_isMet_60 ?_
      rw [hij]
      refine x_iald (24 * k + i) (pc := 61) dX12_isMet_61 k_148 (hL 148 (by decide) (by decide)) (⟨by omega, by omega, by decide⟩) ?_
      rw [hr]
      refine x_aloadn (pc := 62) dX12_isMet_62 rfl ?_
      refine x_getR (155) (pc := 63) dX12_isMet_63 fl_X12_93 k_127 (hL 127 (by decide) (by decide)) (f_127_35 hF) ?_
      refine x_iloadn (pc := 66) dX12_isMet_66 rfl ?_
      refine x_iald (i) (pc := 67) dX12_isMet_67 k_155 (hL 155 (by decide) (by decide)) (⟨by omega, by omega, by decide⟩) ?_
      rw [hy]
      refine x_cne (tgt := 75) (pc := 68) dX12_isMet_68 (by decide) (by omega) (fun c_68 => ?_) (fun c_68 => ?_)
      · skip
        refine x_iconst (pc := 75) dX12_isMet_75 ?_
        refine x_istoren (pc := 76) dX12_isMet_76 rfl (by decide) rfl ?_
        refine x_iinc (pc := 77) dX12_isMet_77 rfl (by decide) rfl ?_
        refine x_goto (tgt := 39) (pc := 80) dX12_isMet_80 (by decide) ?_
        first
        | (refine ih (i + 1) 0 (by omega) (Or.inr ⟨rfl, fun q => ?_⟩)
           apply c_68
           rw [q])
        | (refine ih (i + 1) 1 (by omega) (Or.inl ⟨rfl, w1, w2, fun j hj => ?_⟩)
           by_cases c : j = i
           · rw [c]; omega
           · exact w3 j (by omega))
      · skip
        refine x_iconst (pc := 71) dX12_isMet_71 ?_
        refine x_goto (tgt := 76) (pc := 72) dX12_isMet_72 (by decide) ?_
        refine x_istoren (pc := 76) dX12_isMet_76 rfl (by decide) rfl ?_
        refine x_iinc (pc := 77) dX12_isMet_77 rfl (by decide) rfl ?_
        refine x_goto (tgt := 39) (pc := 80) dX12_isMet_80 (by decide) ?_
        first
        | (refine ih (i + 1) 0 (by omega) (Or.inr ⟨rfl, fun q => ?_⟩)
           apply c_68
           rw [q])
        | (refine ih (i + 1) 1 (by omega) (Or.inl ⟨rfl, w1, w2, fun j hj => ?_⟩)
           by_cases c : j = i
           · rw [c]; omega
           · exact w3 j (by omega))
    · skip
      refine x_iloadn (pc := 39) dX12_isMet_39 rfl ?_
      refine x_ieq (tgt := 83) (pc := 40) dX12_isMet_40 (by decide) (by omega) (fun c_40 => ?_) (fun c_40 => ?_)
      rotate_left
      · skip
        exact absurd rfl c_40
      refine x_iconst (pc := 83) dX12_isMet_83 ?_
      refine x_istoren (pc := 84) dX12_isMet_84 rfl (by decide) rfl ?_
      exact hB0 0 (Or.inr ⟨rfl, w1⟩)
theorem c_mo_isMet {G : Nat → Nat → Int} (hL : x_SL L) (hF : x_Fin xFL G) (h : mGn ns G) (hab : mAB A B G) (hk : ns[k]? = some s) (hk15 : k < 1500) (hv : zvS s) (hA : zb8 A) (hB : zb8 B) (hn : A.length ≤ 60 ∧ B.length ≤ 60) :
    CM yX12_isMet mX12_isMet 0 0 0 [vR 127, vI k] L G (pIm L G s A B) := by
  obtain ⟨h1, h2, h3⟩ := h k s hk
  obtain ⟨b1, b2, b3, b4⟩ := id hab
  have hl24 := hv.2.2.1
  have hA0 := fun w hw => l_mo_imA hL hF h hab hk hk15 hv hA hB hn A.length 0 w (Nat.zero_add _) hw
  have ne1 : s.1.length ≠ A.length → s ≠ (A, B) := fun w q => w (by rw [q])
  have ne2 : s.2.length ≠ B.length → s ≠ (A, B) := fun w q => w (by rw [q])
  refine Ct.of_X (μ := mX12_isMet) rfl rfl (by decide) (fun h => by cases h) (Nat.le_of_ble_eq_true rfl) rfl ?_
  refine x_aloadn (pc := 0) dX12_isMet_0 rfl ?_
  refine x_getR (149) (pc := 1) dX12_isMet_1 fl_X12_74 k_127 (hL 127 (by decide) (by decide)) (f_127_27 hF) ?_
  refine x_iloadn (pc := 4) dX12_isMet_4 rfl ?_
  refine x_iald (k) (pc := 5) dX12_isMet_5 k_149 (hL 149 (by decide) (by decide)) (⟨by omega, by omega, by decide⟩) ?_
  rw [h1]
  refine x_aloadn (pc := 6) dX12_isMet_6 rfl ?_
  refine x_getI (pc := 7) dX12_isMet_7 fl_X12_224 k_127 (hL 127 (by decide) (by decide)) ?_
  rw [b1]
  refine x_cne (tgt := 35) (pc := 10) dX12_isMet_10 (by decide) (by omega) (fun c_10 => ?_) (fun c_10 => ?_)
  · skip
    refine x_iconst (pc := 35) dX12_isMet_35 ?_
    refine x_istoren (pc := 36) dX12_isMet_36 rfl (by decide) rfl ?_
    refine x_iconst (pc := 37) dX12_isMet_37 ?_
    refine x_istoren (pc := 38) dX12_isMet_38 rfl (by decide) rfl ?_
    first
    | exact hA0 1 (Or.inl ⟨rfl, by omega, by omega, fun j hj => absurd hj (Nat.not_lt_zero j)⟩)
    | exact hA0 0 (Or.inr ⟨rfl, ne1 (by omega)⟩)
    | exact hA0 0 (Or.inr ⟨rfl, ne2 (by omega)⟩)
  · skip
    refine x_aloadn (pc := 13) dX12_isMet_13 rfl ?_
    refine x_getR (150) (pc := 14) dX12_isMet_14 fl_X12_77 k_127 (hL 127 (by decide) (by decide)) (f_127_28 hF) ?_
    refine x_iloadn (pc := 17) dX12_isMet_17 rfl ?_
    refine x_iald (k) (pc := 18) dX12_isMet_18 k_150 (hL 150 (by decide) (by decide)) (⟨by omega, by omega, by decide⟩) ?_
    rw [h2]
    refine x_aloadn (pc := 19) dX12_isMet_19 rfl ?_
    refine x_getI (pc := 20) dX12_isMet_20 fl_X12_224 k_127 (hL 127 (by decide) (by decide)) ?_
    rw [b1]
    refine x_aloadn (pc := 23) dX12_isMet_23 rfl ?_
    refine x_getI (pc := 24) dX12_isMet_24 fl_X12_227 k_127 (hL 127 (by decide) (by decide)) ?_
    rw [b2]
    refine x_iadd (pc := 27) dX12_isMet_27 ?_
    refine x_cne (tgt := 35) (pc := 28) dX12_isMet_28 (by decide) (by omega) (fun c_28 => ?_) (fun c_28 => ?_)
    · skip
      refine x_iconst (pc := 35) dX12_isMet_35 ?_
      refine x_istoren (pc := 36) dX12_isMet_36 rfl (by decide) rfl ?_
      refine x_iconst (pc := 37) dX12_isMet_37 ?_
      refine x_istoren (pc := 38) dX12_isMet_38 rfl (by decide) rfl ?_
      first
      | exact hA0 1 (Or.inl ⟨rfl, by omega, by omega, fun j hj => absurd hj (Nat.not_lt_zero j)⟩)
      | exact hA0 0 (Or.inr ⟨rfl, ne1 (by omega)⟩)
      | exact hA0 0 (Or.inr ⟨rfl, ne2 (by omega)⟩)
    · skip
      refine x_iconst (pc := 31) dX12_isMet_31 ?_
      refine x_goto (tgt := 36) (pc := 32) dX12_isMet_32 (by decide) ?_
      refine x_istoren (pc := 36) dX12_isMet_36 rfl (by decide) rfl ?_
      refine x_iconst (pc := 37) dX12_isMet_37 ?_
      refine x_istoren (pc := 38) dX12_isMet_38 rfl (by decide) rfl ?_
      first
      | exact hA0 1 (Or.inl ⟨rfl, by omega, by omega, fun j hj => absurd hj (Nat.not_lt_zero j)⟩)
      | exact hA0 0 (Or.inr ⟨rfl, ne1 (by omega)⟩)
      | exact hA0 0 (Or.inr ⟨rfl, ne2 (by omega)⟩)
end XNM

