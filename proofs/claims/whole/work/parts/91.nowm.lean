/-! the reference's waysNow: bounds, lengths, beginnings -/
theorem mEq.FM {m : Nat} {S : Nat → Nat} {I : Nat → Nat → Nat} {T F : List Nat} {G G' : Nat → Nat → Int} (h : mEq m S I G) (k : FM T F G G') (h1 : 127 ∉ T) (h2 : 130 ∉ T) (h3 : 129 ∉ T) (h4 : 4 ∉ F) : mEq m S I G' :=
  ⟨by rw [k 127 4 h1 (fun _ => h4)]; exact h.1, h.2.1, fun q hq => ⟨by rw [k 130 q h2 (fun e => absurd e (by decide))]; exact (h.2.2 q hq).1, (h.2.2 q hq).2.1, fun j hj => by
    rw [k 129 _ h3 (fun e => absurd e (by decide))]; exact (h.2.2 q hq).2.2 j hj⟩⟩
theorem mBd.FM {lo hi mk : Nat → Nat} {T F : List Nat} {G G' : Nat → Nat → Int} (h : mBd lo hi mk G) (k : FM T F G G') (h1 : 131 ∉ T) (h2 : 132 ∉ T) (h3 : 133 ∉ T) : mBd lo hi mk G' := fun u hu => by
  rw [k 131 u h1 (fun e => absurd e (by decide)), k 132 u h2 (fun e => absurd e (by decide)), k 133 u h3 (fun e => absurd e (by decide))]; exact h u hu
theorem mFL.FM {z : Nat → Nat} {T F : List Nat} {G G' : Nat → Nat → Int} (h : mFL z G) (k : FM T F G G') (h1 : 144 ∉ T) : mFL z G' := fun u hu => by
  rw [k 144 u h1 (fun e => absurd e (by decide))]; exact h u hu
theorem mBg.FM {z : Nat → Nat} {T F : List Nat} {G G' : Nat → Nat → Int} (h : mBg z G) (k : FM T F G G') (h1 : 145 ∉ T) : mBg z G' := fun u hu => by
  rw [k 145 u h1 (fun e => absurd e (by decide))]; exact h u hu
theorem mLd.FM {g : Nat → Nat} {T F : List Nat} {G G' : Nat → Nat → Int} (h : mLd g G) (k : FM T F G G') (h1 : 146 ∉ T) : mLd g G' := fun x hx => by
  rw [k 146 x h1 (fun e => absurd e (by decide))]; exact h x hx
abbrev zwnS : List Nat := [145, 146, 147]
def mNw (m : Nat) (S : Nat → Nat) (I : Nat → Nat → Nat) (z mk : Nat → Nat) (G : Nat → Nat → Int) : Prop :=
  G 127 22 = ((zbg z 4 : Nat) : Int) ∧ mBg z G ∧ mLd (zg m S I z) G ∧ ∀ x, x < zbg z 4 → zg m S I z x = x → G 147 x = ((zar m S I z mk x : Nat) : Int)
abbrev pWn (L : List Nat) (G0 : Nat → Nat → Int) (m : Nat) (S : Nat → Nat) (I : Nat → Nat → Nat) (lo hi mk z : Nat → Nat) : x_Q := qL L fun x G' => x = ((min (zWy m S I lo hi mk z) 1000000001 : Nat) : Int) ∧ FM zwnS [22] G0 G' ∧ x_Fin xFL G' ∧ (0 < zWy m S I lo hi mk z → mNw m S I z mk G')
section XMW
variable {m : Nat} {S : Nat → Nat} {I : Nat → Nat → Nat} {lo hi mk z g : Nat → Nat} {L : List Nat}
theorem zWy_n (h : ¬ (zBz lo hi (zub S I (2 * m)) z ∧ zLn m S I z ∧ ¬ zCf (zg m S I z))) : zWy m S I lo hi mk z = 0 := by unfold zWy; rw [if_neg h]
def zBk (lo hi us z : Nat → Nat) (n : Nat) : Prop := ∀ u, u < n → lo u ≤ z u ∧ z u ≤ hi u ∧ (us u = 0 → z u = 0)
theorem l_mo_wA {G0 : Nat → Nat → Int} {o3 o4 o5 : Option (Nat × Int)} (hL : x_SL L) (hE : mEq m S I G0) (hB : mBd lo hi mk G0) (hz : mFL z G0)
    (cont : ∀ (G : Nat → Nat → Int), zBz lo hi (zub S I (2 * m)) z → G 127 22 = ((zbg z 4 : Nat) : Int) → mBg z G → FM zwnS [22] G0 G → x_Fin xFL G → X mX12_waysNow 2 0 0 (pWn L G0 m S I lo hi mk z) 97 [some (vR 127), some (vI (zus S I (2 * m))), some (vI 4), o3, o4, o5] [] L G 0 0) :
    ∀ (r u : Nat) (G : Nat → Nat → Int), u + r = 4 → zBk lo hi (zub S I (2 * m)) z u → G 127 22 = ((zbg z u : Nat) : Int) → (∀ v, v < u → G 145 v = ((zbg z v : Nat) : Int)) → FM zwnS [22] G0 G → x_Fin xFL G →
    X mX12_waysNow 2 0 0 (pWn L G0 m S I lo hi mk z) 12 [some (vR 127), some (vI (zus S I (2 * m))), some (vI u), o3, o4, o5] [] L G 0 0 := by
  have hus := zus_lt (S := S) (I := I) (2 * m) (fun q hq i hi => ((hE.2.2 q hq).2.2 i hi).2)
  intro r
  induction r with
  | zero =>
    intro u G hu hk hp hb hQ hF
    have hu : u = 4 := by omega
    subst hu
    refine x_iloadn (pc := 12) dX12_waysNow_12 rfl ?_
    refine x_iconst (pc := 13) dX12_waysNow_13 ?_
    refine x_cge (tgt := 97) (pc := 14) dX12_waysNow_14 (by decide) (by omega) (fun c_14 => ?_) (fun c_14 => ?_)
    rotate_left
    · skip
      exact absurd c_14 (by decide)
    exact cont G hk hp hb hQ hF
  | succ r ih =>
    intro u G hu hk hp hb hQ hF
    have hb2 := zub_lt S I (2 * m) u
    have hzu : ((zus S I (2 * m) : Nat) : Int) / 2 ^ u % 2 = (zub S I (2 * m) u : Nat) := by unfold zub; rw [Int.natCast_emod, Int.natCast_ediv, Int.natCast_pow]; rfl
    obtain ⟨b1, b2, b3, b4, b5, b6⟩ := hB.FM hQ (by decide) (by decide) (by decide) u (by omega)
    obtain ⟨z1, z2⟩ := hz.FM hQ (by decide) u (by omega)
    have hbs : zbg z (u + 1) = zbg z u + z u := rfl
    have hbb := zbg_4 (fun u hu => (hz u hu).2) u (by omega)
    refine x_iloadn (pc := 12) dX12_waysNow_12 rfl ?_
    refine x_iconst (pc := 13) dX12_waysNow_13 ?_
    refine x_cge (tgt := 97) (pc := 14) dX12_waysNow_14 (by decide) (by omega) (fun c_14 => ?_) (fun c_14 => ?_)
    · skip
      exact absurd c_14 (by omega)
    refine x_aloadn (pc := 17) dX12_waysNow_17 rfl ?_
    refine x_getR (144) (pc := 18) dX12_waysNow_18 fl_X12_58 k_127 (hL 127 (by decide) (by decide)) (f_127_20 hF) ?_
    refine x_iloadn (pc := 21) dX12_waysNow_21 rfl ?_
    refine x_iald (u) (pc := 22) dX12_waysNow_22 k_144 (hL 144 (by decide) (by decide)) (⟨by omega, by omega, by decide⟩) ?_
    rw [z1]
    refine x_aloadn (pc := 23) dX12_waysNow_23 rfl ?_
    refine x_getR (131) (pc := 24) dX12_waysNow_24 fl_X12_19 k_127 (hL 127 (by decide) (by decide)) (f_127_6 hF) ?_
    refine x_iloadn (pc := 27) dX12_waysNow_27 rfl ?_
    refine x_iald (u) (pc := 28) dX12_waysNow_28 k_131 (hL 131 (by decide) (by decide)) (⟨by omega, by omega, by decide⟩) ?_
    rw [b1]
    refine x_clt (tgt := 64) (pc := 29) dX12_waysNow_29 (by decide) (by omega) (fun c_29 => ?_) (fun c_29 => ?_)
    · skip
      refine x_lconst (x := 0) (pc := 64) dX12_waysNow_64 (by decide) ?_
      refine x_rL (pc := 65) dX12_waysNow_65 rfl ?_
      exact ⟨by rw [zWy_n (fun w => by have := w.1 u (by omega); omega)]; rfl, hQ, hF, fun w => by rw [zWy_n (fun w => by have := w.1 u (by omega); omega)] at w; omega⟩
    · skip
      refine x_aloadn (pc := 32) dX12_waysNow_32 rfl ?_
      refine x_getR (144) (pc := 33) dX12_waysNow_33 fl_X12_58 k_127 (hL 127 (by decide) (by decide)) (f_127_20 hF) ?_
      refine x_iloadn (pc := 36) dX12_waysNow_36 rfl ?_
      refine x_iald (u) (pc := 37) dX12_waysNow_37 k_144 (hL 144 (by decide) (by decide)) (⟨by omega, by omega, by decide⟩) ?_
      rw [z1]
      refine x_aloadn (pc := 38) dX12_waysNow_38 rfl ?_
      refine x_getR (132) (pc := 39) dX12_waysNow_39 fl_X12_22 k_127 (hL 127 (by decide) (by decide)) (f_127_7 hF) ?_
      refine x_iloadn (pc := 42) dX12_waysNow_42 rfl ?_
      refine x_iald (u) (pc := 43) dX12_waysNow_43 k_132 (hL 132 (by decide) (by decide)) (⟨by omega, by omega, by decide⟩) ?_
      rw [b2]
      refine x_cgt (tgt := 64) (pc := 44) dX12_waysNow_44 (by decide) (by omega) (fun c_44 => ?_) (fun c_44 => ?_)
      · skip
        refine x_lconst (x := 0) (pc := 64) dX12_waysNow_64 (by decide) ?_
        refine x_rL (pc := 65) dX12_waysNow_65 rfl ?_
        exact ⟨by rw [zWy_n (fun w => by have := w.1 u (by omega); omega)]; rfl, hQ, hF, fun w => by rw [zWy_n (fun w => by have := w.1 u (by omega); omega)] at w; omega⟩
      · skip
        refine x_aloadn (pc := 47) dX12_waysNow_47 rfl ?_
        refine x_getR (144) (pc := 48) dX12_waysNow_48 fl_X12_58 k_127 (hL 127 (by decide) (by decide)) (f_127_20 hF) ?_
        refine x_iloadn (pc := 51) dX12_waysNow_51 rfl ?_
        refine x_iald (u) (pc := 52) dX12_waysNow_52 k_144 (hL 144 (by decide) (by decide)) (⟨by omega, by omega, by decide⟩) ?_
        rw [z1]
        refine x_ile (tgt := 66) (pc := 53) dX12_waysNow_53 (by decide) (by omega) (fun c_53 => ?_) (fun c_53 => ?_)
        · skip
          refine x_aloadn (pc := 66) dX12_waysNow_66 rfl ?_
          refine x_getR (145) (pc := 67) dX12_waysNow_67 fl_X12_61 k_127 (hL 127 (by decide) (by decide)) (f_127_21 hF) ?_
          refine x_iloadn (pc := 70) dX12_waysNow_70 rfl ?_
          refine x_aloadn (pc := 71) dX12_waysNow_71 rfl ?_
          refine x_getI (pc := 72) dX12_waysNow_72 fl_X12_172 k_127 (hL 127 (by decide) (by decide)) ?_
          refine x_iastF (u) (pc := 75) dX12_waysNow_75 k_145 (hL 145 (by decide) (by decide)) (⟨by omega, by omega, by decide⟩) hF (fun hF => ?_)
          refine x_aloadn (pc := 76) dX12_waysNow_76 rfl ?_
          refine x_dup (pc := 77) dX12_waysNow_77 (fun h => by cases h) ?_
          refine x_getI (pc := 78) dX12_waysNow_78 fl_X12_172 k_127 (hL 127 (by decide) (by decide)) ?_
          refine x_aloadn (pc := 81) dX12_waysNow_81 rfl ?_
          refine x_getR (144) (pc := 82) dX12_waysNow_82 fl_X12_58 k_127 (hL 127 (by decide) (by decide)) (f_127_20 hF) ?_
          refine x_iloadn (pc := 85) dX12_waysNow_85 rfl ?_
          refine x_iald (u) (pc := 86) dX12_waysNow_86 k_144 (hL 144 (by decide) (by decide)) (⟨by omega, by omega, by decide⟩) ?_
          rw [x_up_ne (by decide), z1]
          refine x_iadd (pc := 87) dX12_waysNow_87 ?_
          refine x_putIF (pc := 88) dX12_waysNow_88 fp_X12_172 k_127 (hL 127 (by decide) (by decide)) hF (fun hF => ?_)
          refine x_iinc (pc := 91) dX12_waysNow_91 rfl (by decide) rfl ?_
          refine x_goto (tgt := 12) (pc := 94) dX12_waysNow_94 (by decide) ?_
          refine ih (u + 1) _ (by omega) (fun v hv => ?_) (by simp [x_up]; omega) (fun v hv => ?_) ((hQ.upA (by decide)).upF (by decide)) hF
          · by_cases e : v = u
            · subst e; exact ⟨by omega, by omega, fun w => by omega⟩
            · exact hk v (by omega)
          · by_cases e : v = u
            · subst e; simp [x_up]; omega
            · have := hb v (by omega); simp [x_up, e]; exact this
        · skip
          refine x_iloadn (pc := 56) dX12_waysNow_56 rfl ?_
          refine x_iloadn (pc := 57) dX12_waysNow_57 rfl ?_
          refine x_ishr (pc := 58) dX12_waysNow_58 u (by omega) (by omega) (by omega) ?_
          refine x_iconst (pc := 59) dX12_waysNow_59 ?_
          refine x_iandm (pc := 60) dX12_waysNow_60 1 2 (by decide) (by decide) (by decide) ?_
          rw [hzu]
          refine x_ine (tgt := 66) (pc := 61) dX12_waysNow_61 (by decide) (by omega) (fun c_61 => ?_) (fun c_61 => ?_)
          · skip
            refine x_aloadn (pc := 66) dX12_waysNow_66 rfl ?_
            refine x_getR (145) (pc := 67) dX12_waysNow_67 fl_X12_61 k_127 (hL 127 (by decide) (by decide)) (f_127_21 hF) ?_
            refine x_iloadn (pc := 70) dX12_waysNow_70 rfl ?_
            refine x_aloadn (pc := 71) dX12_waysNow_71 rfl ?_
            refine x_getI (pc := 72) dX12_waysNow_72 fl_X12_172 k_127 (hL 127 (by decide) (by decide)) ?_
            refine x_iastF (u) (pc := 75) dX12_waysNow_75 k_145 (hL 145 (by decide) (by decide)) (⟨by omega, by omega, by decide⟩) hF (fun hF => ?_)
            refine x_aloadn (pc := 76) dX12_waysNow_76 rfl ?_
            refine x_dup (pc := 77) dX12_waysNow_77 (fun h => by cases h) ?_
            refine x_getI (pc := 78) dX12_waysNow_78 fl_X12_172 k_127 (hL 127 (by decide) (by decide)) ?_
            refine x_aloadn (pc := 81) dX12_waysNow_81 rfl ?_
            refine x_getR (144) (pc := 82) dX12_waysNow_82 fl_X12_58 k_127 (hL 127 (by decide) (by decide)) (f_127_20 hF) ?_
            refine x_iloadn (pc := 85) dX12_waysNow_85 rfl ?_
            refine x_iald (u) (pc := 86) dX12_waysNow_86 k_144 (hL 144 (by decide) (by decide)) (⟨by omega, by omega, by decide⟩) ?_
            rw [x_up_ne (by decide), z1]
            refine x_iadd (pc := 87) dX12_waysNow_87 ?_
            refine x_putIF (pc := 88) dX12_waysNow_88 fp_X12_172 k_127 (hL 127 (by decide) (by decide)) hF (fun hF => ?_)
            refine x_iinc (pc := 91) dX12_waysNow_91 rfl (by decide) rfl ?_
            refine x_goto (tgt := 12) (pc := 94) dX12_waysNow_94 (by decide) ?_
            refine ih (u + 1) _ (by omega) (fun v hv => ?_) (by simp [x_up]; omega) (fun v hv => ?_) ((hQ.upA (by decide)).upF (by decide)) hF
            · by_cases e : v = u
              · subst e; exact ⟨by omega, by omega, fun w => by omega⟩
              · exact hk v (by omega)
            · by_cases e : v = u
              · subst e; simp [x_up]; omega
              · have := hb v (by omega); simp [x_up, e]; exact this
          · skip
            refine x_lconst (x := 0) (pc := 64) dX12_waysNow_64 (by decide) ?_
            refine x_rL (pc := 65) dX12_waysNow_65 rfl ?_
            exact ⟨by rw [zWy_n (fun w => by have := w.1 u (by omega); omega)]; rfl, hQ, hF, fun w => by rw [zWy_n (fun w => by have := w.1 u (by omega); omega)] at w; omega⟩
theorem l_mo_wB {G0 G : Nat → Nat → Int} {o3 o4 o5 : Option (Nat × Int)} (hL : x_SL L) (hE : mEq m S I G0) (hz : mFL z G0) (hQ : FM zwnS [22] G0 G) (hF : x_Fin xFL G)
    (cont : zLn m S I z → X mX12_waysNow 2 0 0 (pWn L G0 m S I lo hi mk z) 134 [some (vR 127), some (vI (zus S I (2 * m))), some (vI m), o3, o4, o5] [] L G 0 0) :
    ∀ (r e : Nat), e + r = m → (∀ e', e' < e → yof I (2 * e') z (S (2 * e')) = yof I (2 * e' + 1) z (S (2 * e' + 1))) → X mX12_waysNow 2 0 0 (pWn L G0 m S I lo hi mk z) 99 [some (vR 127), some (vI (zus S I (2 * m))), some (vI e), o3, o4, o5] [] L G 0 0 := by
  have hE' := hE.FM hQ (by decide) (by decide) (by decide) (by decide)
  have hz' := hz.FM hQ (by decide)
  obtain ⟨h1, h2, h3⟩ := id hE'
  intro r
  induction r with
  | zero =>
    intro e he hl
    have he : e = m := by omega
    subst he
    refine x_iloadn (pc := 99) dX12_waysNow_99 rfl ?_
    refine x_aloadn (pc := 100) dX12_waysNow_100 rfl ?_
    refine x_getI (pc := 101) dX12_waysNow_101 fl_X12_154 k_127 (hL 127 (by decide) (by decide)) ?_
    refine x_cge (tgt := 134) (pc := 104) dX12_waysNow_104 (by decide) (by omega) (fun c_104 => ?_) (fun c_104 => ?_)
    rotate_left
    · skip
      exact absurd c_104 (by omega)
    exact cont hl
  | succ r ih =>
    intro e he hl
    have y1 := zof_96 (fun u hu => (hz u hu).2) (fun j hj => ((h3 (2 * e) (by omega)).2.2 j hj).2) (S (2 * e)) (Nat.le_refl _)
    have y2 := zof_96 (fun u hu => (hz u hu).2) (fun j hj => ((h3 (2 * e + 1) (by omega)).2.2 j hj).2) (S (2 * e + 1)) (Nat.le_refl _)
    have y3 := (h3 (2 * e) (by omega)).2.1
    have y4 := (h3 (2 * e + 1) (by omega)).2.1
    refine x_iloadn (pc := 99) dX12_waysNow_99 rfl ?_
    refine x_aloadn (pc := 100) dX12_waysNow_100 rfl ?_
    refine x_getI (pc := 101) dX12_waysNow_101 fl_X12_154 k_127 (hL 127 (by decide) (by decide)) ?_
    refine x_cge (tgt := 134) (pc := 104) dX12_waysNow_104 (by decide) (by omega) (fun c_104 => ?_) (fun c_104 => ?_)
    · skip
      exact absurd c_104 (by omega)
    refine x_aloadn (pc := 107) dX12_waysNow_107 rfl ?_
    refine x_iconst (pc := 108) dX12_waysNow_108 ?_
    refine x_iloadn (pc := 109) dX12_waysNow_109 rfl ?_
    refine x_imul (pc := 110) dX12_waysNow_110 ?_
    refine x_cVI (pc := 111) dX12_waysNow_111 lk_X12_175 (c_mo_lengthOf hL hF hE' hz' (q := 2 * e) (by omega)) k_127 ⟨by decide, rfl⟩ (hL 127 (by decide) (by decide)) (⟨by decide, by decide⟩) (Nat.le_of_ble_eq_true rfl) rfl ?_
    rintro x G' ⟨rfl, rfl⟩
    refine x_aloadn (pc := 114) dX12_waysNow_114 rfl ?_
    refine x_iconst (pc := 115) dX12_waysNow_115 ?_
    refine x_iloadn (pc := 116) dX12_waysNow_116 rfl ?_
    refine x_imul (pc := 117) dX12_waysNow_117 ?_
    refine x_iconst (pc := 118) dX12_waysNow_118 ?_
    refine x_iadd (pc := 119) dX12_waysNow_119 ?_
    refine x_cVI (pc := 120) dX12_waysNow_120 lk_X12_175 (c_mo_lengthOf hL hF hE' hz' (q := 2 * e + 1) (by omega)) k_127 ⟨by decide, rfl⟩ (hL 127 (by decide) (by decide)) (⟨by decide, by decide⟩) (Nat.le_of_ble_eq_true rfl) rfl ?_
    rintro x G' ⟨rfl, rfl⟩
    refine x_ceq (tgt := 128) (pc := 123) dX12_waysNow_123 (by decide) (by omega) (fun c_123 => ?_) (fun c_123 => ?_)
    · skip
      refine x_iinc (pc := 128) dX12_waysNow_128 rfl (by decide) rfl ?_
      refine x_goto (tgt := 99) (pc := 131) dX12_waysNow_131 (by decide) ?_
      refine ih (e + 1) (by omega) (fun e' h' => ?_)
      by_cases c : e' = e
      · subst c; omega
      · exact hl e' (by omega)
    · skip
      refine x_lconst (x := 0) (pc := 126) dX12_waysNow_126 (by decide) ?_
      refine x_rL (pc := 127) dX12_waysNow_127 rfl ?_
      exact ⟨by rw [zWy_n (fun w => by have := w.2.1 e (by omega); omega)]; rfl, hQ, hF, fun w => by rw [zWy_n (fun w => by have := w.2.1 e (by omega); omega)] at w; omega⟩
end XMW

