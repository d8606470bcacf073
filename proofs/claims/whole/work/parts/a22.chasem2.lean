/-! the reference: an equation is chased -/
/-- an unknown comes more than twice -/
def zbad (S : Nat → Nat) (I : Nat → Nat → Nat) (e : Nat) : Prop := ∃ u, u < 4 ∧ 2 < zct I (2 * e) u (S (2 * e)) + zct I (2 * e + 1) u (S (2 * e + 1))
abbrev zs0 (S : Nat → Nat) (I : Nat → Nat → Nat) (e : Nat) : zSt := (zrwl I (2 * e) (S (2 * e)), zrwl I (2 * e + 1) (S (2 * e + 1)))
theorem zrwl_cnt {I : Nat → Nat → Nat} {q v : Nat} (hv : 4 ≤ v) : ∀ n, (zrwl I q n).count v = zct I q (v - 4) n
  | 0 => rfl
  | n + 1 => by
    rw [zrwl_s, List.count_append, zrwl_cnt hv n, zct, List.count_singleton, show 4 + (v - 4) = v by omega]
    simp only [beq_iff_eq]
theorem zrwl_at {I : Nat → Nat → Nat} {q n i : Nat} (h : i < n) : (zrwl I q n).getD i 0 = I q i := by
  rw [zgd_el (by rw [zrwl_len]; exact h)]
  unfold zrwl
  rw [List.getElem_map, List.getElem_range]
theorem zrwl_b8 {I : Nat → Nat → Nat} {q n : Nat} (h : ∀ j, j < n → zV (I q j)) : zb8 (zrwl I q n) := fun x hx => by
  unfold zrwl at hx
  obtain ⟨j, hj, rfl⟩ := List.mem_map.mp hx
  have := h j (List.mem_range.mp hj)
  exact ⟨by have := this.1; omega, this.2⟩
theorem zs0_v {S : Nat → Nat} {I : Nat → Nat → Nat} {e : Nat} (h1 : S (2 * e) ≤ 12 ∧ ∀ j, j < S (2 * e) → zV (I (2 * e) j)) (h2 : S (2 * e + 1) ≤ 12 ∧ ∀ j, j < S (2 * e + 1) → zV (I (2 * e + 1) j)) (hb : ¬ zbad S I e) : zvS (zsk (zs0 S I e)) := by
  have b1 := zrwl_b8 h1.2
  have b2 := zrwl_b8 h2.2
  refine zsk_v b1 b2 (by rw [zrwl_len, zrwl_len]; omega) (fun u hu => ?_)
  obtain ⟨c, c1, c2⟩ := zsk_cnt u (zrwl I (2 * e) (S (2 * e))) (zrwl I (2 * e + 1) (S (2 * e + 1)))
  by_cases hu8 : u < 8
  · rw [zrwl_cnt hu] at c1 c2
    have : ¬ 2 < zct I (2 * e) (u - 4) (S (2 * e)) + zct I (2 * e + 1) (u - 4) (S (2 * e + 1)) := fun w => hb ⟨u - 4, by omega, w⟩
    omega
  · have n1 : (zrwl I (2 * e) (S (2 * e))).count u = 0 := List.count_eq_zero.mpr (fun w => by have := (b1 u w).1; omega)
    have n2 : (zrwl I (2 * e + 1) (S (2 * e + 1))).count u = 0 := List.count_eq_zero.mpr (fun w => by have := (b2 u w).1; omega)
    omega
section XCF
variable {L : List Nat} {m : Nat} {S : Nat → Nat} {I : Nat → Nat → Nat} {e : Nat}
def zChP (m : Nat) (S : Nat → Nat) (I : Nat → Nat → Nat) (e0 x : Int) (G' : Nat → Nat → Int) : Prop := (¬ (0 ≤ e0 ∧ e0 < m) ∧ x = -2) ∨ ∃ e : Nat, e0 = e ∧ e < m ∧ ((zbad S I e ∧ x = -4) ∨ (¬ zbad S I e ∧ ((x = -6 ∧ 1500 < (zN (zsk (zs0 S I e)) 6000).length) ∨ (x = 0 ∧ (zN (zsk (zs0 S I e)) 6000).length ≤ 1500 ∧ mGf (zsk (zs0 S I e)) G' ∧ G' 127 34 = zffs (zs0 S I e)))))
abbrev pChE (L : List Nat) (G0 : Nat → Nat → Int) (m : Nat) (S : Nat → Nat) (I : Nat → Nat → Nat) (e0 : Int) : x_Q := qI L fun x G' => zChP m S I e0 x G' ∧ FM z_cS z_cF G0 G' ∧ x_Fin xFL G'
theorem l_mo_cfI {Q : x_Q} {u q sd c : Nat} {G : Nat → Nat → Int} (hL : x_SL L) (hF : x_Fin xFL G) (hE : mEq m S I G) (he : e < m) (hu : u < 4) (hq : q = 2 * e + sd) (hsd : sd < 2) (hc : c ≤ 12)
    (cont : ∀ o5 : Option (Nat × Int), X mX12_chase 2 0 0 Q 84 [some (vR 127), some (vI e), some (vI ((4 + u : Nat) : Int)), some (vI ((c + zct I q u (S q) : Nat) : Int)), some (vI sd), o5] [] L G 0 0) :
    ∀ (r i : Nat), i + r = S q → X mX12_chase 2 0 0 Q 33 [some (vR 127), some (vI e), some (vI ((4 + u : Nat) : Int)), some (vI ((c + zct I q u i : Nat) : Int)), some (vI sd), some (vI i)] [] L G 0 0 := by
  have hm4 := hE.2.1
  obtain ⟨s1, s2, s3⟩ := hE.2.2 q (by omega)
  have hqi : 2 * ((e : Nat) : Int) + ((sd : Nat) : Int) = ((q : Nat) : Int) := by omega
  intro r
  induction r with
  | zero =>
    intro i hi
    have hi : i = S q := by omega
    subst hi
    refine x_iload (pc := 33) dX12_chase_33 rfl ?_
    refine x_aloadn (pc := 35) dX12_chase_35 rfl ?_
    refine x_getR (130) (pc := 36) dX12_chase_36 fl_X12_16 k_127 (hL 127 (by decide) (by decide)) (f_127_3 hF) ?_
    refine x_iconst (pc := 39) dX12_chase_39 ?_
    refine x_iloadn (pc := 40) dX12_chase_40 rfl ?_
    refine x_imul (pc := 41) dX12_chase_41 ?_
    refine x_iload (pc := 42) dX12_chase_42 rfl ?_
    refine x_iadd (pc := 44) dX12_chase_44 ?_
    rw [hqi]
    refine x_iald (q) (pc := 45) dX12_chase_45 k_130 (hL 130 (by decide) (by decide)) (⟨by omega, by omega, by decide⟩) ?_
    rw [s1]
    refine x_cge (tgt := 84) (pc := 46) dX12_chase_46 (by decide) (by omega) (fun c_46 => ?_) (fun c_46 => ?_)
    rotate_left
    · skip
      exact absurd c_46 (by omega)
    exact cont _
  | succ r ih =>
    intro i hi
    obtain ⟨t1, t2⟩ := s3 i (by omega)
    have t3 := t2.1
    have hz : zct I q u (i + 1) = zct I q u i + (if I q i = 4 + u then 1 else 0) := rfl
    have hzl := zct_le (I := I) (q := q) (u := u) i
    have ihx := ih (i + 1) (by omega)
    have hij : 12 * ((q : Nat) : Int) + ((i : Nat) : Int) = ((12 * q + i : Nat) : Int) := by omega
    rw [hz] at ihx
    refine x_iload (pc := 33) dX12_chase_33 rfl ?_
    refine x_aloadn (pc := 35) dX12_chase_35 rfl ?_
    refine x_getR (130) (pc := 36) dX12_chase_36 fl_X12_16 k_127 (hL 127 (by decide) (by decide)) (f_127_3 hF) ?_
    refine x_iconst (pc := 39) dX12_chase_39 ?_
    refine x_iloadn (pc := 40) dX12_chase_40 rfl ?_
    refine x_imul (pc := 41) dX12_chase_41 ?_
    refine x_iload (pc := 42) dX12_chase_42 rfl ?_
    refine x_iadd (pc := 44) dX12_chase_44 ?_
    rw [hqi]
    refine x_iald (q) (pc := 45) dX12_chase_45 k_130 (hL 130 (by decide) (by decide)) (⟨by omega, by omega, by decide⟩) ?_
    rw [s1]
    refine x_cge (tgt := 84) (pc := 46) dX12_chase_46 (by decide) (by omega) (fun c_46 => ?_) (fun c_46 => ?_)
    · skip
      exact absurd c_46 (by omega)
    refine x_iloadn (pc := 49) dX12_chase_49 rfl ?_
    refine x_aloadn (pc := 50) dX12_chase_50 rfl ?_
    refine x_getR (129) (pc := 51) dX12_chase_51 fl_X12_13 k_127 (hL 127 (by decide) (by decide)) (f_127_2 hF) ?_
    refine x_bipush (pc := 54) dX12_chase_54 (by decide) ?_
    refine x_iconst (pc := 56) dX12_chase_56 ?_
    refine x_iloadn (pc := 57) dX12_chase_57 rfl ?_
    refine x_imul (pc := 58) dX12_chase_58 ?_
    refine x_iload (pc := 59) dX12_chase_59 rfl ?_
    refine x_iadd (pc := 61) dX12_chase_61 ?_
    rw [hqi]
    refine x_imul (pc := 62) dX12_chase_62 ?_
    refine x_iload (pc := 63) dX12_chase_63 rfl ?_
    refine x_iadd (pc := 65) dX12_chase_65 ?_
    rw [hij]
    refine x_iald (12 * q + i) (pc := 66) dX12_chase_66 k_129 (hL 129 (by decide) (by decide)) (⟨by omega, by omega, by decide⟩) ?_
    rw [t1]
    refine x_iloadn (pc := 67) dX12_chase_67 rfl ?_
    refine x_cne (tgt := 75) (pc := 68) dX12_chase_68 (by decide) (by omega) (fun c_68 => ?_) (fun c_68 => ?_)
    · skip
      refine x_iconst (pc := 75) dX12_chase_75 ?_
      refine x_iadd (pc := 76) dX12_chase_76 ?_
      refine x_istoren (pc := 77) dX12_chase_77 rfl (by decide) rfl ?_
      refine x_iinc (pc := 78) dX12_chase_78 rfl (by decide) rfl ?_
      refine x_goto (tgt := 33) (pc := 81) dX12_chase_81 (by decide) ?_
      first
      | (rw [if_neg (by omega)] at ihx; exact ihx)
      | (rw [if_pos (by omega)] at ihx; exact ihx)
    · skip
      refine x_iconst (pc := 71) dX12_chase_71 ?_
      refine x_goto (tgt := 76) (pc := 72) dX12_chase_72 (by decide) ?_
      refine x_iadd (pc := 76) dX12_chase_76 ?_
      refine x_istoren (pc := 77) dX12_chase_77 rfl (by decide) rfl ?_
      refine x_iinc (pc := 78) dX12_chase_78 rfl (by decide) rfl ?_
      refine x_goto (tgt := 33) (pc := 81) dX12_chase_81 (by decide) ?_
      first
      | (rw [if_neg (by omega)] at ihx; exact ihx)
      | (rw [if_pos (by omega)] at ihx; exact ihx)
theorem l_mo_cfU {G : Nat → Nat → Int} (hL : x_SL L) (hF : x_Fin xFL G) (hE : mEq m S I G) (he : e < m)
    (cont : ∀ o3 o4 o5 : Option (Nat × Int), ¬ zbad S I e → X mX12_chase 2 0 0 (pChE L G m S I e) 104 [some (vR 127), some (vI e), some (vI 8), o3, o4, o5] [] L G 0 0) :
    ∀ (r u : Nat) (o3 o4 o5 : Option (Nat × Int)), u + r = 4 → (∀ u', u' < u → ¬ 2 < zct I (2 * e) u' (S (2 * e)) + zct I (2 * e + 1) u' (S (2 * e + 1))) →
    X mX12_chase 2 0 0 (pChE L G m S I e) 13 [some (vR 127), some (vI e), some (vI ((4 + u : Nat) : Int)), o3, o4, o5] [] L G 0 0 := by
  have hm4 := hE.2.1
  intro r
  induction r with
  | zero =>
    intro u o3 o4 o5 hu hno
    have hu : u = 4 := by omega
    subst hu
    refine x_iloadn (pc := 13) dX12_chase_13 rfl ?_
    refine x_bipush (pc := 14) dX12_chase_14 (by decide) ?_
    refine x_cge (tgt := 104) (pc := 16) dX12_chase_16 (by decide) (by omega) (fun c_16 => ?_) (fun c_16 => ?_)
    rotate_left
    · skip
      exact absurd c_16 (by decide)
    exact cont _ _ _ (fun ⟨u', w1, w2⟩ => hno u' w1 w2)
  | succ r ih =>
    intro u o3 o4 o5 hu hno
    have hz1 := zct_le (I := I) (q := 2 * e) (u := u) (S (2 * e))
    have hz2 := zct_le (I := I) (q := 2 * e + 1) (u := u) (S (2 * e + 1))
    have hs1 := (hE.2.2 (2 * e) (by omega)).2.1
    have hs2 := (hE.2.2 (2 * e + 1) (by omega)).2.1
    have fin : ∀ o5 : Option (Nat × Int), X mX12_chase 2 0 0 (pChE L G m S I e) 84 [some (vR 127), some (vI e), some (vI ((4 + u : Nat) : Int)), some (vI ((zct I (2 * e) u (S (2 * e)) + zct I (2 * e + 1) u (S (2 * e + 1)) : Nat) : Int)), some (vI ((1 : Nat) : Int)), o5] [] L G 0 0 := by
      intro o5
      refine x_iinc (pc := 84) dX12_chase_84 rfl (by decide) rfl ?_
      refine x_goto (tgt := 24) (pc := 87) dX12_chase_87 (by decide) ?_
      refine x_iload (pc := 24) dX12_chase_24 rfl ?_
      refine x_iconst (pc := 26) dX12_chase_26 ?_
      refine x_cge (tgt := 90) (pc := 27) dX12_chase_27 (by decide) (by omega) (fun c_27 => ?_) (fun c_27 => ?_)
      rotate_left
      · skip
        exact absurd c_27 (by decide)
      refine x_iloadn (pc := 90) dX12_chase_90 rfl ?_
      refine x_iconst (pc := 91) dX12_chase_91 ?_
      refine x_cle (tgt := 98) (pc := 92) dX12_chase_92 (by decide) (by omega) (fun c_92 => ?_) (fun c_92 => ?_)
      · skip
        refine x_iinc (pc := 98) dX12_chase_98 rfl (by decide) rfl ?_
        refine x_goto (tgt := 13) (pc := 101) dX12_chase_101 (by decide) ?_
        refine ih (u + 1) _ _ _ (by omega) (fun u' h' => ?_)
        by_cases c : u' = u
        · rw [c]; omega
        · exact hno u' (by omega)
      · skip
        refine x_bipush (pc := 95) dX12_chase_95 (by decide) ?_
        refine x_rI (pc := 97) dX12_chase_97 rfl ?_
        exact ⟨Or.inr ⟨e, rfl, he, Or.inl ⟨⟨u, by omega, by omega⟩, rfl⟩⟩, FM.rf, hF⟩
    have mid : ∀ o5 : Option (Nat × Int), X mX12_chase 2 0 0 (pChE L G m S I e) 84 [some (vR 127), some (vI e), some (vI ((4 + u : Nat) : Int)), some (vI ((0 + zct I (2 * e) u (S (2 * e)) : Nat) : Int)), some (vI ((0 : Nat) : Int)), o5] [] L G 0 0 := by
      intro o5
      refine x_iinc (pc := 84) dX12_chase_84 rfl (by decide) rfl ?_
      refine x_goto (tgt := 24) (pc := 87) dX12_chase_87 (by decide) ?_
      refine x_iload (pc := 24) dX12_chase_24 rfl ?_
      refine x_iconst (pc := 26) dX12_chase_26 ?_
      refine x_cge (tgt := 90) (pc := 27) dX12_chase_27 (by decide) (by omega) (fun c_27 => ?_) (fun c_27 => ?_)
      · skip
        exact absurd c_27 (by decide)
      refine x_iconst (pc := 30) dX12_chase_30 ?_
      refine x_istore (pc := 31) dX12_chase_31 (by decide) rfl ?_
      have e1 := l_mo_cfI (u := u) (q := 2 * e + 1) (sd := 1) (c := zct I (2 * e) u (S (2 * e))) hL hF hE he (by omega) rfl (by decide) (by omega) fin (S (2 * e + 1)) 0 (Nat.zero_add _)
      rw [show zct I (2 * e) u (S (2 * e)) + zct I (2 * e + 1) u 0 = 0 + zct I (2 * e) u (S (2 * e)) from (Nat.zero_add _).symm] at e1
      exact e1
    refine x_iloadn (pc := 13) dX12_chase_13 rfl ?_
    refine x_bipush (pc := 14) dX12_chase_14 (by decide) ?_
    refine x_cge (tgt := 104) (pc := 16) dX12_chase_16 (by decide) (by omega) (fun c_16 => ?_) (fun c_16 => ?_)
    · skip
      exact absurd c_16 (by omega)
    refine x_iconst (pc := 19) dX12_chase_19 ?_
    refine x_istoren (pc := 20) dX12_chase_20 rfl (by decide) rfl ?_
    refine x_iconst (pc := 21) dX12_chase_21 ?_
    refine x_istore (pc := 22) dX12_chase_22 (by decide) rfl ?_
    refine x_iload (pc := 24) dX12_chase_24 rfl ?_
    refine x_iconst (pc := 26) dX12_chase_26 ?_
    refine x_cge (tgt := 90) (pc := 27) dX12_chase_27 (by decide) (by omega) (fun c_27 => ?_) (fun c_27 => ?_)
    · skip
      exact absurd c_27 (by decide)
    refine x_iconst (pc := 30) dX12_chase_30 ?_
    refine x_istore (pc := 31) dX12_chase_31 (by decide) rfl ?_
    exact l_mo_cfI (u := u) (q := 2 * e) (sd := 0) (c := 0) hL hF hE he (by omega) rfl (by decide) (by decide) mid (S (2 * e)) 0 (Nat.zero_add _)
/-- the slots emptied, the rows copied -/
theorem l_mo_cfS {Q : x_Q} {G0 : Nat → Nat → Int} {o3 o4 o5 : Option (Nat × Int)} (hL : x_SL L)
    (cont : ∀ G : Nat → Nat → Int, (∀ i, i < 4096 → G 154 i = -1) → FM [154] [] G0 G → x_Fin xFL G → X mX12_chase 2 0 0 Q 126 [some (vR 127), some (vI e), some (vI 4096), o3, o4, o5] [] L G 0 0) :
    ∀ (r h : Nat) (G : Nat → Nat → Int), h + r = 4096 → (∀ i, i < h → G 154 i = -1) → FM [154] [] G0 G → x_Fin xFL G → X mX12_chase 2 0 0 Q 106 [some (vR 127), some (vI e), some (vI h), o3, o4, o5] [] L G 0 0 := by
  intro r
  induction r with
  | zero =>
    intro h G hh hs hQ hF
    have hh : h = 4096 := by omega
    subst hh
    refine x_iloadn (pc := 106) dX12_chase_106 rfl ?_
    refine x_sipush (pc := 107) dX12_chase_107 (by decide) ?_
    refine x_cge (tgt := 126) (pc := 110) dX12_chase_110 (by decide) (by omega) (fun c_110 => ?_) (fun c_110 => ?_)
    rotate_left
    · skip
      exact absurd c_110 (by decide)
    exact cont G hs hQ hF
  | succ r ih =>
    intro h G hh hs hQ hF
    refine x_iloadn (pc := 106) dX12_chase_106 rfl ?_
    refine x_sipush (pc := 107) dX12_chase_107 (by decide) ?_
    refine x_cge (tgt := 126) (pc := 110) dX12_chase_110 (by decide) (by omega) (fun c_110 => ?_) (fun c_110 => ?_)
    · skip
      exact absurd c_110 (by omega)
    refine x_aloadn (pc := 113) dX12_chase_113 rfl ?_
    refine x_getR (154) (pc := 114) dX12_chase_114 fl_X12_90 k_127 (hL 127 (by decide) (by decide)) (f_127_32 hF) ?_
    refine x_iloadn (pc := 117) dX12_chase_117 rfl ?_
    refine x_iconst (pc := 118) dX12_chase_118 ?_
    refine x_iastF (h) (pc := 119) dX12_chase_119 k_154 (hL 154 (by decide) (by decide)) (⟨by omega, by omega, by decide⟩) hF (fun hF => ?_)
    refine x_iinc (pc := 120) dX12_chase_120 rfl (by decide) rfl ?_
    refine x_goto (tgt := 106) (pc := 123) dX12_chase_123 (by decide) ?_
    refine ih (h + 1) _ (by omega) (fun i hi => ?_) (hQ.upA (by decide)) hF
    by_cases c : i = h
    · rw [c, x_up_s]
    · rw [x_up_k c]; exact hs i (by omega)
theorem l_mo_cfB {Q : x_Q} {G0 : Nat → Nat → Int} {o3 o4 o5 : Option (Nat × Int)} (hL : x_SL L) (hE : mEq m S I G0) (he : e < m) (hB : G0 127 38 = ((S (2 * e + 1) : Nat) : Int))
    (cont : ∀ G : Nat → Nat → Int, (∀ i, i < S (2 * e + 1) → G 156 i = ((I (2 * e + 1) i : Nat) : Int)) → FM [156] [] G0 G → x_Fin xFL G → X mX12_chase 2 0 0 Q 227 [some (vR 127), some (vI e), some (vI (S (2 * e + 1))), o3, o4, o5] [] L G 0 0) :
    ∀ (r i : Nat) (G : Nat → Nat → Int), i + r = S (2 * e + 1) → (∀ j, j < i → G 156 j = ((I (2 * e + 1) j : Nat) : Int)) → FM [156] [] G0 G → x_Fin xFL G → X mX12_chase 2 0 0 Q 192 [some (vR 127), some (vI e), some (vI i), o3, o4, o5] [] L G 0 0 := by
  have hm4 := hE.2.1
  obtain ⟨s1, s2, s3⟩ := hE.2.2 (2 * e + 1) (by omega)
  intro r
  induction r with
  | zero =>
    intro i G hi hs hQ hF
    have hi : i = S (2 * e + 1) := by omega
    subst hi
    have hB' : G 127 38 = ((S (2 * e + 1) : Nat) : Int) := by rw [hQ _ _ (by decide) (fun _ => by decide)]; exact hB
    refine x_iloadn (pc := 192) dX12_chase_192 rfl ?_
    refine x_aloadn (pc := 193) dX12_chase_193 rfl ?_
    refine x_getI (pc := 194) dX12_chase_194 fl_X12_227 k_127 (hL 127 (by decide) (by decide)) ?_
    rw [hB']
    refine x_cge (tgt := 227) (pc := 197) dX12_chase_197 (by decide) (by omega) (fun c_197 => ?_) (fun c_197 => ?_)
    rotate_left
    · skip
      exact absurd c_197 (by omega)
    exact cont G hs hQ hF
  | succ r ih =>
    intro i G hi hs hQ hF
    have hB' : G 127 38 = ((S (2 * e + 1) : Nat) : Int) := by rw [hQ _ _ (by decide) (fun _ => by decide)]; exact hB
    have t1 : G 129 (12 * (2 * e + 1) + i) = ((I (2 * e + 1) i : Nat) : Int) := by rw [hQ _ _ (by decide) (fun w => absurd w (by decide))]; exact (s3 i (by omega)).1
    have hij : 12 * (2 * ((e : Nat) : Int) + 1) + ((i : Nat) : Int) = ((12 * (2 * e + 1) + i : Nat) : Int) := by omega
    refine x_iloadn (pc := 192) dX12_chase_192 rfl ?_
    refine x_aloadn (pc := 193) dX12_chase_193 rfl ?_
    refine x_getI (pc := 194) dX12_chase_194 fl_X12_227 k_127 (hL 127 (by decide) (by decide)) ?_
    rw [hB']
    refine x_cge (tgt := 227) (pc := 197) dX12_chase_197 (by decide) (by omega) (fun c_197 => ?_) (fun c_197 => ?_)
    · skip
      exact absurd c_197 (by omega)
    refine x_aloadn (pc := 200) dX12_chase_200 rfl ?_
    refine x_getR (156) (pc := 201) dX12_chase_201 fl_X12_96 k_127 (hL 127 (by decide) (by decide)) (f_127_36 hF) ?_
    refine x_iloadn (pc := 204) dX12_chase_204 rfl ?_
    refine x_aloadn (pc := 205) dX12_chase_205 rfl ?_
    refine x_getR (129) (pc := 206) dX12_chase_206 fl_X12_13 k_127 (hL 127 (by decide) (by decide)) (f_127_2 hF) ?_
    refine x_bipush (pc := 209) dX12_chase_209 (by decide) ?_
    refine x_iconst (pc := 211) dX12_chase_211 ?_
    refine x_iloadn (pc := 212) dX12_chase_212 rfl ?_
    refine x_imul (pc := 213) dX12_chase_213 ?_
    refine x_iconst (pc := 214) dX12_chase_214 ?_
    refine x_iadd (pc := 215) dX12_chase_215 ?_
    refine x_imul (pc := 216) dX12_chase_216 ?_
    refine x_iloadn (pc := 217) dX12_chase_217 rfl ?_
    refine x_iadd (pc := 218) dX12_chase_218 ?_
    rw [hij]
    refine x_iald (12 * (2 * e + 1) + i) (pc := 219) dX12_chase_219 k_129 (hL 129 (by decide) (by decide)) (⟨by omega, by omega, by decide⟩) ?_
    rw [t1]
    refine x_iastF (i) (pc := 220) dX12_chase_220 k_156 (hL 156 (by decide) (by decide)) (⟨by omega, by omega, by decide⟩) hF (fun hF => ?_)
    refine x_iinc (pc := 221) dX12_chase_221 rfl (by decide) rfl ?_
    refine x_goto (tgt := 192) (pc := 224) dX12_chase_224 (by decide) ?_
    refine ih (i + 1) _ (by omega) (fun j hj => ?_) (hQ.upA (by decide)) hF
    by_cases c : j = i
    · rw [c, x_up_s]
    · rw [x_up_k c]; exact hs j (by omega)
theorem l_mo_cfA {Q : x_Q} {G0 : Nat → Nat → Int} {o3 o4 o5 : Option (Nat × Int)} (hL : x_SL L) (hE : mEq m S I G0) (he : e < m) (hA : G0 127 37 = ((S (2 * e) : Nat) : Int))
    (cont : ∀ G : Nat → Nat → Int, (∀ i, i < S (2 * e) → G 155 i = ((I (2 * e) i : Nat) : Int)) → FM [155] [] G0 G → x_Fin xFL G → X mX12_chase 2 0 0 Q 190 [some (vR 127), some (vI e), some (vI (S (2 * e))), o3, o4, o5] [] L G 0 0) :
    ∀ (r i : Nat) (G : Nat → Nat → Int), i + r = S (2 * e) → (∀ j, j < i → G 155 j = ((I (2 * e) j : Nat) : Int)) → FM [155] [] G0 G → x_Fin xFL G → X mX12_chase 2 0 0 Q 159 [some (vR 127), some (vI e), some (vI i), o3, o4, o5] [] L G 0 0 := by
  have hm4 := hE.2.1
  obtain ⟨s1, s2, s3⟩ := hE.2.2 (2 * e) (by omega)
  intro r
  induction r with
  | zero =>
    intro i G hi hs hQ hF
    have hi : i = S (2 * e) := by omega
    subst hi
    have hA' : G 127 37 = ((S (2 * e) : Nat) : Int) := by rw [hQ _ _ (by decide) (fun _ => by decide)]; exact hA
    refine x_iloadn (pc := 159) dX12_chase_159 rfl ?_
    refine x_aloadn (pc := 160) dX12_chase_160 rfl ?_
    refine x_getI (pc := 161) dX12_chase_161 fl_X12_224 k_127 (hL 127 (by decide) (by decide)) ?_
    rw [hA']
    refine x_cge (tgt := 190) (pc := 164) dX12_chase_164 (by decide) (by omega) (fun c_164 => ?_) (fun c_164 => ?_)
    rotate_left
    · skip
      exact absurd c_164 (by omega)
    exact cont G hs hQ hF
  | succ r ih =>
    intro i G hi hs hQ hF
    have hA' : G 127 37 = ((S (2 * e) : Nat) : Int) := by rw [hQ _ _ (by decide) (fun _ => by decide)]; exact hA
    have t1 : G 129 (12 * (2 * e) + i) = ((I (2 * e) i : Nat) : Int) := by rw [hQ _ _ (by decide) (fun w => absurd w (by decide))]; exact (s3 i (by omega)).1
    have hij : 24 * ((e : Nat) : Int) + ((i : Nat) : Int) = ((12 * (2 * e) + i : Nat) : Int) := by omega
    refine x_iloadn (pc := 159) dX12_chase_159 rfl ?_
    refine x_aloadn (pc := 160) dX12_chase_160 rfl ?_
    refine x_getI (pc := 161) dX12_chase_161 fl_X12_224 k_127 (hL 127 (by decide) (by decide)) ?_
    rw [hA']
    refine x_cge (tgt := 190) (pc := 164) dX12_chase_164 (by decide) (by omega) (fun c_164 => ?_) (fun c_164 => ?_)
    · skip
      exact absurd c_164 (by omega)
    refine x_aloadn (pc := 167) dX12_chase_167 rfl ?_
    refine x_getR (155) (pc := 168) dX12_chase_168 fl_X12_93 k_127 (hL 127 (by decide) (by decide)) (f_127_35 hF) ?_
    refine x_iloadn (pc := 171) dX12_chase_171 rfl ?_
    refine x_aloadn (pc := 172) dX12_chase_172 rfl ?_
    refine x_getR (129) (pc := 173) dX12_chase_173 fl_X12_13 k_127 (hL 127 (by decide) (by decide)) (f_127_2 hF) ?_
    refine x_bipush (pc := 176) dX12_chase_176 (by decide) ?_
    refine x_iloadn (pc := 178) dX12_chase_178 rfl ?_
    refine x_imul (pc := 179) dX12_chase_179 ?_
    refine x_iloadn (pc := 180) dX12_chase_180 rfl ?_
    refine x_iadd (pc := 181) dX12_chase_181 ?_
    rw [hij]
    refine x_iald (12 * (2 * e) + i) (pc := 182) dX12_chase_182 k_129 (hL 129 (by decide) (by decide)) (⟨by omega, by omega, by decide⟩) ?_
    rw [t1]
    refine x_iastF (i) (pc := 183) dX12_chase_183 k_155 (hL 155 (by decide) (by decide)) (⟨by omega, by omega, by decide⟩) hF (fun hF => ?_)
    refine x_iinc (pc := 184) dX12_chase_184 rfl (by decide) rfl ?_
    refine x_goto (tgt := 159) (pc := 187) dX12_chase_187 (by decide) ?_
    refine ih (i + 1) _ (by omega) (fun j hj => ?_) (hQ.upA (by decide)) hF
    by_cases c : j = i
    · rw [c, x_up_s]
    · rw [x_up_k c]; exact hs j (by omega)
/-- behind the copying -/
theorem l_mo_cfG {G0 G : Nat → Nat → Int} {o2 o3 o4 o5 : Option (Nat × Int)} (hL : x_SL L) (hF : x_Fin xFL G) (he : e < m) (hv1 : S (2 * e) ≤ 12 ∧ ∀ j, j < S (2 * e) → zV (I (2 * e) j)) (hv2 : S (2 * e + 1) ≤ 12 ∧ ∀ j, j < S (2 * e + 1) → zV (I (2 * e + 1) j)) (hb : ¬ zbad S I e) (hab : mAB (zrwl I (2 * e) (S (2 * e))) (zrwl I (2 * e + 1) (S (2 * e + 1))) G) (hmm : G 127 33 = 0) (hsl : ∀ i, i < 4096 → G 154 i = -1) (hQ : FM z_cS z_cF G0 G) :
    X mX12_chase 2 0 0 (pChE L G0 m S I e) 227 [some (vR 127), some (vI e), o2, o3, o4, o5] [] L G 0 0 := by
  have h0 := zs0_v hv1 hv2 hb
  have b1 := zrwl_b8 hv1.2
  have b2 := zrwl_b8 hv2.2
  have l1 := zrwl_len I (2 * e) (S (2 * e))
  have l2 := zrwl_len I (2 * e + 1) (S (2 * e + 1))
  have hffe : zffs (zs0 S I e) = if zan2 (znm (zs0 S I e)) (znm (zsk (zs0 S I e))) = 0 then 0 else 1 := rfl
  have hN1 : znm (zs0 S I e) < 16 := znf_lt _ _ (fun x hx => (b2 x hx).1) (znf_lt _ _ (fun x hx => (b1 x hx).1) (by decide))
  have hN2 : znm (zsk (zs0 S I e)) < 16 := znf_lt _ _ (fun x hx => (h0.b8.2 x hx).1) (znf_lt _ _ (fun x hx => (h0.b8.1 x hx).1) (by decide))
  have h24 := h0.2.2.1
  have goOn : ∀ (f : Int) (G3 : Nat → Nat → Int) (o2 : Int), f = zffs (zs0 S I e) → FM z_msS z_msF G G3 → mAB (zsk (zs0 S I e)).1 (zsk (zs0 S I e)).2 G3 → x_Fin xFL (x_up G3 127 34 f) → X mX12_chase 2 0 0 (pChE L G0 m S I e) 256 [some (vR 127), some (vI e), some (vI o2), o3, o4, o5] [] L (x_up G3 127 34 f) 0 0 := by
    intro f G3 o2 hf k2 k1 hF
    have up : FM [] [34] G3 (x_up G3 127 34 f) := FM.rf.upF (by decide)
    have hg : mGm [] (x_up G3 127 34 f) := ⟨by rw [up _ _ (by decide) (fun _ => by decide), k2 _ _ (by decide) (fun _ => by decide)]; exact hmm, fun k s hk => by simp at hk, fun _ => 0, zHT_nil, fun i hi => by rw [up _ _ (by decide) (fun w => absurd w (by decide)), k2 _ _ (by decide) (fun w => absurd w (by decide)), hsl i hi]; rfl⟩
    refine x_aloadn (pc := 256) dX12_chase_256 rfl ?_
    refine x_cVI (pc := 257) dX12_chase_257 lk_X12_257 (c_mo_numberOf (ns := []) (s := zsk (zs0 S I e)) hL hF rfl h0 (k1.FM up (by decide) (by decide) (by decide) (by decide) (by decide)) hg (Nat.zero_le _) List.nodup_nil (fun u hu => absurd hu (by simp))) k_127 ⟨by decide, rfl⟩ (hL 127 (by decide) (by decide)) (⟨by decide, by decide⟩) (Nat.le_of_ble_eq_true rfl) rfl ?_
    rintro x G5 ⟨hx, hF⟩
    have hx3 : mGm [zsk (zs0 S I e)] G5 ∧ FM z_noS [33] (x_up G3 127 34 f) G5 := by
      rcases hx with ⟨w, _⟩ | ⟨_, w, _⟩ | ⟨_, _, _, w4, w5⟩
      · exact absurd w (by simp)
      · exact absurd w (by decide)
      · exact ⟨w4, w5⟩
    refine x_pop (pc := 260) dX12_chase_260 (fun h => by cases h) ?_
    refine x_iconst (pc := 261) dX12_chase_261 ?_
    refine x_istoren (pc := 262) dX12_chase_262 rfl (by decide) rfl ?_
    refine X.imp (fun v L' G' w => ?_) (l_mo_chK (G0 := G0) (f := zffs (zs0 S I e)) hL h0 1501 0 _ _ _ (by omega) (by omega) ⟨hx3.1, (by decide : 1 ≤ 1500), fun e' h' => absurd h' (Nat.not_lt_zero e')⟩ ((((hQ.tr (k2.mono (by decide) (by decide))).tr (up.mono (by decide) (by decide))).tr (hx3.2.mono (by decide) (by decide)))) (by rw [hx3.2 _ _ (by decide) (fun _ => by decide), x_up_s]; exact hf) hF)
    obtain ⟨w1, y, w2, w3, w4⟩ := w
    exact ⟨w1, y, w2, Or.inr ⟨e, rfl, he, Or.inr ⟨hb, w3⟩⟩, w4⟩
  refine x_aloadn (pc := 227) dX12_chase_227 rfl ?_
  refine x_cVI (pc := 228) dX12_chase_228 lk_X12_250 (c_mo_namesNow hL hF hab b1 b2 (by omega)) k_127 ⟨by decide, rfl⟩ (hL 127 (by decide) (by decide)) (⟨by decide, by decide⟩) (Nat.le_of_ble_eq_true rfl) rfl ?_
  rintro x G' ⟨rfl, h_G⟩
  obtain rfl := h_G.symm
  refine x_istoren (pc := 231) dX12_chase_231 rfl (by decide) rfl ?_
  refine x_aloadn (pc := 232) dX12_chase_232 rfl ?_
  refine x_cVV (pc := 233) dX12_chase_233 lk_X12_247 (c_mo_strike hL hF hab b1 b2 (by omega)) k_127 ⟨by decide, rfl⟩ (hL 127 (by decide) (by decide)) (⟨by decide, by decide⟩) (Nat.le_of_ble_eq_true rfl) rfl ?_
  rintro G3 ⟨k1, k2, hF⟩
  refine x_aloadn (pc := 236) dX12_chase_236 rfl ?_
  refine x_iloadn (pc := 237) dX12_chase_237 rfl ?_
  refine x_aloadn (pc := 238) dX12_chase_238 rfl ?_
  refine x_cVI (pc := 239) dX12_chase_239 lk_X12_250 (c_mo_namesNow (A := (zsk (zs0 S I e)).1) (B := (zsk (zs0 S I e)).2) hL hF k1 h0.b8.1 h0.b8.2 (by omega)) k_127 ⟨by decide, rfl⟩ (hL 127 (by decide) (by decide)) (⟨by decide, by decide⟩) (Nat.le_of_ble_eq_true rfl) rfl ?_
  rintro x G' ⟨rfl, h_G⟩
  obtain rfl := h_G.symm
  rw [show znm ((zsk (zs0 S I e)).1, (zsk (zs0 S I e)).2) = znm (zsk (zs0 S I e)) from rfl]
  refine x_iconst (pc := 242) dX12_chase_242 ?_
  refine x_not (pc := 243) dX12_chase_243 rfl ?_
  refine x_iandc (pc := 244) dX12_chase_244 (znm (zs0 S I e)) (znm (zsk (zs0 S I e))) rfl rfl (by omega) ?_
  refine x_ieq (tgt := 252) (pc := 245) dX12_chase_245 (by decide) (by omega) (fun c_245 => ?_) (fun c_245 => ?_)
  · skip
    refine x_iconst (pc := 252) dX12_chase_252 ?_
    refine x_putZF (pc := 253) dX12_chase_253 fp_X12_253 k_127 (hL 127 (by decide) (by decide)) (by omega) hF (fun hF => ?_)
    first
    | exact goOn 0 G3 _ (by rw [hffe, if_pos (show zan2 (znm (zs0 S I e)) (znm (zsk (zs0 S I e))) = 0 by unfold zan2; omega)]) k2 k1 hF
    | exact goOn 1 G3 _ (by rw [hffe, if_neg (show ¬ zan2 (znm (zs0 S I e)) (znm (zsk (zs0 S I e))) = 0 by unfold zan2; omega)]) k2 k1 hF
  · skip
    refine x_iconst (pc := 248) dX12_chase_248 ?_
    refine x_goto (tgt := 253) (pc := 249) dX12_chase_249 (by decide) ?_
    refine x_putZF (pc := 253) dX12_chase_253 fp_X12_253 k_127 (hL 127 (by decide) (by decide)) (by omega) hF (fun hF => ?_)
    first
    | exact goOn 0 G3 _ (by rw [hffe, if_pos (show zan2 (znm (zs0 S I e)) (znm (zsk (zs0 S I e))) = 0 by unfold zan2; omega)]) k2 k1 hF
    | exact goOn 1 G3 _ (by rw [hffe, if_neg (show ¬ zan2 (znm (zs0 S I e)) (znm (zsk (zs0 S I e))) = 0 by unfold zan2; omega)]) k2 k1 hF
theorem l_mo_cfT {G : Nat → Nat → Int} {o3 o4 o5 : Option (Nat × Int)} (hL : x_SL L) (hF : x_Fin xFL G) (hE : mEq m S I G) (he : e < m) (hb : ¬ zbad S I e) :
    X mX12_chase 2 0 0 (pChE L G m S I e) 104 [some (vR 127), some (vI e), some (vI 8), o3, o4, o5] [] L G 0 0 := by
  have hm4 := hE.2.1
  obtain ⟨s1, s2, s3⟩ := hE.2.2 (2 * e) (by omega)
  obtain ⟨t1, t2, t3⟩ := hE.2.2 (2 * e + 1) (by omega)
  have i1 : 2 * ((e : Nat) : Int) = ((2 * e : Nat) : Int) := by omega
  have i2 : 2 * ((e : Nat) : Int) + 1 = ((2 * e + 1 : Nat) : Int) := by omega
  have mid : ∀ G1 : Nat → Nat → Int, (∀ i, i < 4096 → G1 154 i = -1) → FM [154] [] G G1 → x_Fin xFL G1 → X mX12_chase 2 0 0 (pChE L G m S I e) 126 [some (vR 127), some (vI e), some (vI 4096), o3, o4, o5] [] L G1 0 0 := by
    intro G1 k1 k2 hF
    have p1 : G1 130 (2 * e) = ((S (2 * e) : Nat) : Int) := by rw [k2 _ _ (by decide) (fun w => absurd w (by decide))]; exact s1
    have p2 : G1 130 (2 * e + 1) = ((S (2 * e + 1) : Nat) : Int) := by rw [k2 _ _ (by decide) (fun w => absurd w (by decide))]; exact t1
    have q : FM [] [33, 37, 38] G1 (x_up (x_up (x_up G1 127 33 0) 127 37 ((S (2 * e) : Nat) : Int)) 127 38 ((S (2 * e + 1) : Nat) : Int)) := ((FM.rf.upF (by decide)).upF (by decide)).upF (by decide)
    have q0 : FM [154] [33, 37, 38] G G1 := k2.mono (by decide) (by decide)
    have q1 : FM [154] [33, 37, 38] G (x_up (x_up (x_up G1 127 33 0) 127 37 ((S (2 * e) : Nat) : Int)) 127 38 ((S (2 * e + 1) : Nat) : Int)) := q0.tr (q.mono (by decide) (by decide))
    have hE1 := hE.FM q1 (by decide) (by decide) (by decide) (by decide)
    have v1 : (x_up (x_up (x_up G1 127 33 0) 127 37 ((S (2 * e) : Nat) : Int)) 127 38 ((S (2 * e + 1) : Nat) : Int)) 127 37 = ((S (2 * e) : Nat) : Int) := by rw [x_up_k (by decide), x_up_s]
    have v2 : (x_up (x_up (x_up G1 127 33 0) 127 37 ((S (2 * e) : Nat) : Int)) 127 38 ((S (2 * e + 1) : Nat) : Int)) 127 38 = ((S (2 * e + 1) : Nat) : Int) := by rw [x_up_s]
    have v3 : (x_up (x_up (x_up G1 127 33 0) 127 37 ((S (2 * e) : Nat) : Int)) 127 38 ((S (2 * e + 1) : Nat) : Int)) 127 33 = 0 := by rw [x_up_k (by decide), x_up_k (by decide), x_up_s]
    have v4 : ∀ i, i < 4096 → (x_up (x_up (x_up G1 127 33 0) 127 37 ((S (2 * e) : Nat) : Int)) 127 38 ((S (2 * e + 1) : Nat) : Int)) 154 i = -1 := fun i hi => by rw [x_up_ne (by decide), x_up_ne (by decide), x_up_ne (by decide)]; exact k1 i hi
    have mid2 : ∀ Gx : Nat → Nat → Int, FM [154] [33, 37, 38] G Gx → mEq m S I Gx → Gx 127 37 = ((S (2 * e) : Nat) : Int) → Gx 127 38 = ((S (2 * e + 1) : Nat) : Int) → Gx 127 33 = 0 → (∀ i, i < 4096 → Gx 154 i = -1) → x_Fin xFL Gx → X mX12_chase 2 0 0 (pChE L G m S I e) 159 [some (vR 127), some (vI e), some (vI ((0 : Nat) : Int)), o3, o4, o5] [] L Gx 0 0 := by
      intro Gx qx hEx w1 w2 w3 w4 hF
      refine l_mo_cfA hL hEx he w1 (fun G2 d1 d2 hF => ?_) (S (2 * e)) 0 Gx (Nat.zero_add _) (fun j hj => absurd hj (Nat.not_lt_zero j)) FM.rf hF
      have hE2 := hEx.FM d2 (by decide) (by decide) (by decide) (by decide)
      refine x_iconst (pc := 190) dX12_chase_190 ?_
      refine x_istoren (pc := 191) dX12_chase_191 rfl (by decide) rfl ?_
      refine l_mo_cfB hL hE2 he (by rw [d2 _ _ (by decide) (fun _ => by decide)]; exact w2) (fun G3 f1 f2 hF => ?_) (S (2 * e + 1)) 0 G2 (Nat.zero_add _) (fun j hj => absurd hj (Nat.not_lt_zero j)) FM.rf hF
      refine l_mo_cfG hL hF he ⟨s2, fun j hj => (s3 j hj).2⟩ ⟨t2, fun j hj => (t3 j hj).2⟩ hb ⟨?_, ?_, fun i hi => ?_, fun i hi => ?_⟩ ?_ (fun i hi => ?_) ?_
      · rw [f2 _ _ (by decide) (fun _ => by decide), d2 _ _ (by decide) (fun _ => by decide), zrwl_len]; exact w1
      · rw [f2 _ _ (by decide) (fun _ => by decide), d2 _ _ (by decide) (fun _ => by decide), zrwl_len]; exact w2
      · rw [zrwl_len] at hi
        rw [f2 _ _ (by decide) (fun w => absurd w (by decide)), zrwl_at hi]; exact d1 i hi
      · rw [zrwl_len] at hi
        rw [zrwl_at hi]; exact f1 i hi
      · rw [f2 _ _ (by decide) (fun _ => by decide), d2 _ _ (by decide) (fun _ => by decide)]; exact w3
      · rw [f2 _ _ (by decide) (fun w => absurd w (by decide)), d2 _ _ (by decide) (fun w => absurd w (by decide))]; exact w4 i hi
      · exact ((qx.mono (by decide) (by decide)).tr (d2.mono (by decide) (by decide))).tr (f2.mono (by decide) (by decide))
    refine x_aloadn (pc := 126) dX12_chase_126 rfl ?_
    refine x_iconst (pc := 127) dX12_chase_127 ?_
    refine x_putIF (pc := 128) dX12_chase_128 fp_X12_234 k_127 (hL 127 (by decide) (by decide)) hF (fun hF => ?_)
    refine x_aloadn (pc := 131) dX12_chase_131 rfl ?_
    refine x_aloadn (pc := 132) dX12_chase_132 rfl ?_
    refine x_getR (130) (pc := 133) dX12_chase_133 fl_X12_16 k_127 (hL 127 (by decide) (by decide)) (f_127_3 hF) ?_
    refine x_iconst (pc := 136) dX12_chase_136 ?_
    refine x_iloadn (pc := 137) dX12_chase_137 rfl ?_
    refine x_imul (pc := 138) dX12_chase_138 ?_
    rw [i1]
    refine x_iald (2 * e) (pc := 139) dX12_chase_139 k_130 (hL 130 (by decide) (by decide)) (⟨by omega, by omega, by decide⟩) ?_
    rw [x_up_ne (by decide), p1]
    refine x_putIF (pc := 140) dX12_chase_140 fp_X12_224 k_127 (hL 127 (by decide) (by decide)) hF (fun hF => ?_)
    refine x_aloadn (pc := 143) dX12_chase_143 rfl ?_
    refine x_aloadn (pc := 144) dX12_chase_144 rfl ?_
    refine x_getR (130) (pc := 145) dX12_chase_145 fl_X12_16 k_127 (hL 127 (by decide) (by decide)) (f_127_3 hF) ?_
    refine x_iconst (pc := 148) dX12_chase_148 ?_
    refine x_iloadn (pc := 149) dX12_chase_149 rfl ?_
    refine x_imul (pc := 150) dX12_chase_150 ?_
    refine x_iconst (pc := 151) dX12_chase_151 ?_
    refine x_iadd (pc := 152) dX12_chase_152 ?_
    rw [i2]
    refine x_iald (2 * e + 1) (pc := 153) dX12_chase_153 k_130 (hL 130 (by decide) (by decide)) (⟨by omega, by omega, by decide⟩) ?_
    rw [x_up_ne (by decide), x_up_ne (by decide), p2]
    refine x_putIF (pc := 154) dX12_chase_154 fp_X12_227 k_127 (hL 127 (by decide) (by decide)) hF (fun hF => ?_)
    refine x_iconst (pc := 157) dX12_chase_157 ?_
    refine x_istoren (pc := 158) dX12_chase_158 rfl (by decide) rfl ?_
    exact mid2 _ q1 hE1 v1 v2 v3 v4 hF
  refine x_iconst (pc := 104) dX12_chase_104 ?_
  refine x_istoren (pc := 105) dX12_chase_105 rfl (by decide) rfl ?_
  exact l_mo_cfS hL mid 4096 0 G (Nat.zero_add _) (fun i hi => absurd hi (Nat.not_lt_zero i)) FM.rf hF
theorem c_mo_chase {e0 : Int} {G : Nat → Nat → Int} (hL : x_SL L) (hF : x_Fin xFL G) (hE : mEq m S I G) (he0 : -2147483648 ≤ e0 ∧ e0 < 2147483648) :
    CM yX12_chase mX12_chase 2 0 0 [vR 127, vI e0] L G (pChE L G m S I e0) := by
  have hm4 := hE.2.1
  refine Ct.of_X (μ := mX12_chase) rfl rfl (by decide) (fun h => by cases h) (Nat.le_of_ble_eq_true rfl) rfl ?_
  refine x_aloadn (pc := 0) dX12_chase_0 rfl ?_
  refine x_iloadn (pc := 1) dX12_chase_1 rfl ?_
  refine x_cVI (pc := 2) dX12_chase_2 lk_X12_157 (c_mo_isEquation hL hF hE he0) k_127 ⟨by decide, rfl⟩ (hL 127 (by decide) (by decide)) (⟨by decide, by decide⟩) (Nat.le_of_ble_eq_true rfl) rfl ?_
  rintro x G' ⟨rfl, h_G⟩
  obtain rfl := h_G.symm
  refine x_ine (tgt := 11) (pc := 5) dX12_chase_5 (by decide) (by split <;> omega) (fun c_5 => ?_) (fun c_5 => ?_)
  · skip
    refine x_iconst (pc := 11) dX12_chase_11 ?_
    refine x_istoren (pc := 12) dX12_chase_12 rfl (by decide) rfl ?_
    obtain ⟨e, rfl⟩ : ∃ e : Nat, e0 = e := ⟨e0.toNat, by split at c_5 <;> omega⟩
    have he : e < m := by split at c_5 <;> omega
    obtain ⟨s1, s2, s3⟩ := hE.2.2 (2 * e) (by omega)
    obtain ⟨t1, t2, t3⟩ := hE.2.2 (2 * e + 1) (by omega)
    exact l_mo_cfU hL hF hE he (fun o3 o4 o5 hb => l_mo_cfT hL hF hE he hb) 4 0 _ _ _ (by omega) (fun u' h' => absurd h' (Nat.not_lt_zero u'))
  · skip
    refine x_bipush (pc := 8) dX12_chase_8 (by decide) ?_
    refine x_rI (pc := 10) dX12_chase_10 rfl ?_
    exact ⟨Or.inl ⟨by split at c_5 <;> omega, rfl⟩, FM.rf, hF⟩
end XCF

