/-! the class: packing, unpacking, reading -/
theorem cPr.fk {o r0 r1 sz : Nat} {A B : List Nat} {t k : Nat} {z : Int} {G : Nat → Nat → Int} (h : cPr o r0 r1 sz A B t G) (h0 : o ≠ r0) (h1 : o ≠ r1) (h2 : o ≠ sz) (hk : k ≠ 2) : cPr o r0 r1 sz A B t (x_up G o k z) := by
  unfold cPr
  rw [x_up_ne (Ne.symm h0), x_up_ne (Ne.symm h1), x_up_ne (Ne.symm h2)]
  exact ⟨h.1, h.2.1, h.2.2.1, h.2.2.2.1, by rw [x_up_k (fun e => hk e.symm)]; exact h.2.2.2.2⟩
theorem zpw_i (x n : Nat) : ((x : Nat) : Int) * 2 ^ n = ((x * 2 ^ n : Nat) : Int) := by rw [Int.natCast_mul, Int.natCast_pow]; rfl
section XPU
variable {L : List Nat} {A0 B0 A B l : List Nat} {t b : Nat}
theorem zgd_dr {A : List Nat} {t n : Nat} : (A.drop t).getD n 0 = A.getD (t + n) 0 := by
  rw [List.getD_eq_getElem?_getD, List.getD_eq_getElem?_getD, List.getElem?_drop]
theorem zgd_l {A B : List Nat} {n : Nat} (h : n < A.length) : (A ++ B).getD n 0 = A.getD n 0 := by
  rw [List.getD_eq_getElem?_getD, List.getD_eq_getElem?_getD, List.getElem?_append, if_pos h]
theorem zgd_r {A B : List Nat} {n : Nat} (h : A.length ≤ n) : (A ++ B).getD n 0 = B.getD (n - A.length) 0 := by
  rw [List.getD_eq_getElem?_getD, List.getD_eq_getElem?_getD, List.getElem?_append, if_neg (by omega)]
theorem l_th_pk0 {Q : x_Q} {G0 : Nat → Nat → Int} (hL : x_SL L) (hM : x_GM L) (hA : A = A0.drop t) (hB : B = B0.drop t) (hl : l = A ++ B) (hv : (∀ x ∈ l, x < 8) ∧ l.length ≤ 24) (ht : t ≤ A0.length ∧ t ≤ B0.length) (hn0 : A0.length ≤ 32 ∧ B0.length ≤ 32) (hb : b ≤ 1000)
    (cont : ∀ (G : Nat → Nat → Int), c_th A0 B0 t G → G 179 3 = ((zpkN l A.length : Nat) : Int) → G 179 4 = ((zpkF l A.length b : Nat) : Int) → FR [179] G0 G → x_Fin xFL G → x_Fin xGL G → X mX6_pack 0 0 0 Q 126 [some (vR 179), some (vI A.length), some (vI 0), some (vI ((t + A.length : Nat) : Int))] [] L G 0 0) :
    ∀ (r n : Nat) (G : Nat → Nat → Int), n + r = A.length → c_th A0 B0 t G → G 179 3 = ((zpkN l n : Nat) : Int) → G 179 4 = ((zpkF l n b : Nat) : Int) → FR [179] G0 G → x_Fin xFL G → x_Fin xGL G →
    X mX6_pack 0 0 0 Q 52 [some (vR 179), some (vI ((n : Nat) : Int)), some (vI 0), some (vI ((t + n : Nat) : Int))] [] L G 0 0 := by
  have lA : A.length = A0.length - t := by rw [hA, List.length_drop]
  have lB : B.length = B0.length - t := by rw [hB, List.length_drop]
  have ll : l.length = A.length + B.length := by rw [hl, List.length_append]
  intro r
  induction r with
  | zero =>
    intro n G hn h e1 e2 hQ hF hG
    have hn : n = A.length := by omega
    subst hn
    have s0 := h.1
    refine x_iloadn (pc := 52) dX6_pack_52 rfl ?_
    refine x_aloadn (pc := 53) dX6_pack_53 rfl ?_
    refine x_getR (183) (pc := 54) dX6_pack_54 fl_X6_16 k_179 (hM 179 (by decide) (by decide)) (f_179_1 hG) ?_
    refine x_iloadn (pc := 57) dX6_pack_57 rfl ?_
    refine x_iald (0) (pc := 58) dX6_pack_58 k_183 (hM 183 (by decide) (by decide)) (⟨rfl, by decide, by decide⟩) ?_
    rw [s0]
    refine x_cge (tgt := 126) (pc := 59) dX6_pack_59 (by decide) (by omega) (fun c_59 => ?_) (fun c_59 => ?_)
    rotate_left
    · skip
      exact absurd c_59 (by omega)
    exact cont G h e1 e2 hQ hF hG
  | succ r ih =>
    intro n G hn h e1 e2 hQ hF hG
    have s0 := h.1
    have hr := h.2.2.1 (t + n) (by omega)
    have hg : l.getD n 0 = A0.getD (t + n) 0 := by rw [hl, zgd_l (by omega), hA, zgd_dr]
    rw [← hg] at hr
    have hx : l.getD n 0 < 8 := by rw [zgd_el (show n < l.length by omega)]; exact hv.1 _ (List.getElem_mem (show n < l.length by omega))
    have hlo := fun h20 => zpkN_lo hv.1 (show n < l.length by omega) h20
    have hhi := fun h20 => zpkF_hi (b := b) hv.1 (show n < l.length by omega) h20 hv.2
    have hflt := zpkF_lt (n := n) (b := b) hv.1 hv.2
    have ihx := ih (n + 1)
    have keepN := fun h20 : 20 ≤ n => zpkN_hi (l := l) h20
    have keepF := fun h20 : n < 20 => zpkF_lo (l := l) (b := b) h20
    obtain ⟨x, hxe⟩ : ∃ x, x = l.getD n 0 := ⟨_, rfl⟩
    rw [← hxe] at hr hx hlo hhi
    refine x_iloadn (pc := 52) dX6_pack_52 rfl ?_
    refine x_aloadn (pc := 53) dX6_pack_53 rfl ?_
    refine x_getR (183) (pc := 54) dX6_pack_54 fl_X6_16 k_179 (hM 179 (by decide) (by decide)) (f_179_1 hG) ?_
    refine x_iloadn (pc := 57) dX6_pack_57 rfl ?_
    refine x_iald (0) (pc := 58) dX6_pack_58 k_183 (hM 183 (by decide) (by decide)) (⟨rfl, by decide, by decide⟩) ?_
    rw [s0]
    refine x_cge (tgt := 126) (pc := 59) dX6_pack_59 (by decide) (by omega) (fun c_59 => ?_) (fun c_59 => ?_)
    · skip
      exact absurd c_59 (by omega)
    refine x_iloadn (pc := 62) dX6_pack_62 rfl ?_
    refine x_bipush (pc := 63) dX6_pack_63 (by decide) ?_
    refine x_cge (tgt := 93) (pc := 65) dX6_pack_65 (by decide) (by omega) (fun c_65 => ?_) (fun c_65 => ?_)
    · skip
      refine x_aloadn (pc := 93) dX6_pack_93 rfl ?_
      refine x_dup (pc := 94) dX6_pack_94 (fun h => by cases h) ?_
      refine x_getI (pc := 95) dX6_pack_95 fl_X6_28 k_179 (hM 179 (by decide) (by decide)) ?_
      rw [e2]
      refine x_aloadn (pc := 98) dX6_pack_98 rfl ?_
      refine x_getR (180) (pc := 99) dX6_pack_99 fl_X6_13 k_179 (hM 179 (by decide) (by decide)) (f_179_0 hG) ?_
      refine x_iloadn (pc := 102) dX6_pack_102 rfl ?_
      refine x_aald (181) (0) (pc := 103) dX6_pack_103 k_180 (by decide) (hM 180 (by decide) (by decide)) (⟨rfl, by decide, by decide⟩) (f_180_0 hG) ?_
      refine x_iloadn (pc := 104) dX6_pack_104 rfl ?_
      refine x_iald (t + n) (pc := 105) dX6_pack_105 k_181 (hM 181 (by decide) (by decide)) (⟨by omega, by omega, by decide⟩) ?_
      rw [hr]
      refine x_iconst (pc := 106) dX6_pack_106 ?_
      refine x_iloadn (pc := 107) dX6_pack_107 rfl ?_
      refine x_bipush (pc := 108) dX6_pack_108 (by decide) ?_
      refine x_isub (pc := 110) dX6_pack_110 ?_
      refine x_imul (pc := 111) dX6_pack_111 ?_
      refine x_ishl (pc := 112) dX6_pack_112 (3 * (n - 20)) (by omega) (by omega) ?_
      rw [zpw_i]
      have k1 := hhi (by omega)
      have k3 : 2 ^ (3 * (n - 20)) ≤ 2 ^ 9 := Nat.pow_le_pow_right (by decide) (by omega)
      have k4 : x * 2 ^ (3 * (n - 20)) ≤ 7 * 2 ^ (3 * (n - 20)) := Nat.mul_le_mul_right _ (by omega)
      refine x_iorN (pc := 113) dX6_pack_113 (zpkF l n b) (x * 2 ^ (3 * (n - 20))) rfl rfl (by omega) ?_
      rw [k1]
      refine x_putIH (pc := 114) dX6_pack_114 fp_X6_28 k_179 (hM 179 (by decide) (by decide)) hF hG (fun hF hG => ?_)
      refine x_iinc (pc := 117) dX6_pack_117 rfl (by decide) rfl ?_
      refine x_iinc (pc := 120) dX6_pack_120 rfl (by decide) rfl ?_
      refine x_goto (tgt := 52) (pc := 123) dX6_pack_123 (by decide) ?_
      first
      | exact ihx _ (by omega) (h.fk (by decide) (by decide) (by decide) (by decide)) x_up_s (by rw [x_up_k (by decide), keepF (by omega)]; exact e2) (hQ.up (by decide)) hF hG
      | exact ihx _ (by omega) (h.fk (by decide) (by decide) (by decide) (by decide)) (by rw [x_up_k (by decide), keepN (by omega)]; exact e1) x_up_s (hQ.up (by decide)) hF hG
    · skip
      refine x_aloadn (pc := 68) dX6_pack_68 rfl ?_
      refine x_dup (pc := 69) dX6_pack_69 (fun h => by cases h) ?_
      refine x_getL (pc := 70) dX6_pack_70 fl_X6_24 k_179 (hM 179 (by decide) (by decide)) ?_
      rw [e1]
      refine x_aloadn (pc := 73) dX6_pack_73 rfl ?_
      refine x_getR (180) (pc := 74) dX6_pack_74 fl_X6_13 k_179 (hM 179 (by decide) (by decide)) (f_179_0 hG) ?_
      refine x_iloadn (pc := 77) dX6_pack_77 rfl ?_
      refine x_aald (181) (0) (pc := 78) dX6_pack_78 k_180 (by decide) (hM 180 (by decide) (by decide)) (⟨rfl, by decide, by decide⟩) (f_180_0 hG) ?_
      refine x_iloadn (pc := 79) dX6_pack_79 rfl ?_
      refine x_iald (t + n) (pc := 80) dX6_pack_80 k_181 (hM 181 (by decide) (by decide)) (⟨by omega, by omega, by decide⟩) ?_
      rw [hr]
      refine x_i2l (pc := 81) dX6_pack_81 (by omega) ?_
      refine x_iconst (pc := 82) dX6_pack_82 ?_
      refine x_iloadn (pc := 83) dX6_pack_83 rfl ?_
      refine x_imul (pc := 84) dX6_pack_84 ?_
      refine x_lshl (pc := 85) dX6_pack_85 (3 * n) (by omega) (by omega) ?_
      rw [zpw_i]
      obtain ⟨k1, k2⟩ := hlo (by omega)
      have k3 : 2 ^ (3 * n) ≤ 2 ^ 57 := Nat.pow_le_pow_right (by decide) (by omega)
      have k4 : x * 2 ^ (3 * n) ≤ 7 * 2 ^ (3 * n) := Nat.mul_le_mul_right _ (by omega)
      refine x_lorN (pc := 86) dX6_pack_86 (zpkN l n) (x * 2 ^ (3 * n)) rfl rfl (by omega) ?_
      rw [k1]
      refine x_putLH (pc := 87) dX6_pack_87 fp_X6_24 k_179 (hM 179 (by decide) (by decide)) hF hG (fun hF hG => ?_)
      refine x_goto (tgt := 117) (pc := 90) dX6_pack_90 (by decide) ?_
      refine x_iinc (pc := 117) dX6_pack_117 rfl (by decide) rfl ?_
      refine x_iinc (pc := 120) dX6_pack_120 rfl (by decide) rfl ?_
      refine x_goto (tgt := 52) (pc := 123) dX6_pack_123 (by decide) ?_
      first
      | exact ihx _ (by omega) (h.fk (by decide) (by decide) (by decide) (by decide)) x_up_s (by rw [x_up_k (by decide), keepF (by omega)]; exact e2) (hQ.up (by decide)) hF hG
      | exact ihx _ (by omega) (h.fk (by decide) (by decide) (by decide) (by decide)) (by rw [x_up_k (by decide), keepN (by omega)]; exact e1) x_up_s (hQ.up (by decide)) hF hG
theorem l_th_pk1 {Q : x_Q} {G0 : Nat → Nat → Int} (hL : x_SL L) (hM : x_GM L) (hA : A = A0.drop t) (hB : B = B0.drop t) (hl : l = A ++ B) (hv : (∀ x ∈ l, x < 8) ∧ l.length ≤ 24) (ht : t ≤ A0.length ∧ t ≤ B0.length) (hn0 : A0.length ≤ 32 ∧ B0.length ≤ 32) (hb : b ≤ 1000)
    (cont : ∀ (G : Nat → Nat → Int), c_th A0 B0 t G → G 179 3 = ((zpkN l l.length : Nat) : Int) → G 179 4 = ((zpkF l l.length b : Nat) : Int) → FR [179] G0 G → x_Fin xFL G → x_Fin xGL G → X mX6_pack 0 0 0 Q 126 [some (vR 179), some (vI l.length), some (vI 1), some (vI ((t + B.length : Nat) : Int))] [] L G 0 0) :
    ∀ (r j : Nat) (G : Nat → Nat → Int), j + r = B.length → c_th A0 B0 t G → G 179 3 = ((zpkN l (A.length + j) : Nat) : Int) → G 179 4 = ((zpkF l (A.length + j) b : Nat) : Int) → FR [179] G0 G → x_Fin xFL G → x_Fin xGL G →
    X mX6_pack 0 0 0 Q 52 [some (vR 179), some (vI (((A.length + j) : Nat) : Int)), some (vI 1), some (vI ((t + j : Nat) : Int))] [] L G 0 0 := by
  have lA : A.length = A0.length - t := by rw [hA, List.length_drop]
  have lB : B.length = B0.length - t := by rw [hB, List.length_drop]
  have ll : l.length = A.length + B.length := by rw [hl, List.length_append]
  intro r
  induction r with
  | zero =>
    intro j G hn h e1 e2 hQ hF hG
    have hn : j = B.length := by omega
    subst hn
    have s0 := h.2.1
    rw [← ll] at e1 e2 ⊢
    refine x_iloadn (pc := 52) dX6_pack_52 rfl ?_
    refine x_aloadn (pc := 53) dX6_pack_53 rfl ?_
    refine x_getR (183) (pc := 54) dX6_pack_54 fl_X6_16 k_179 (hM 179 (by decide) (by decide)) (f_179_1 hG) ?_
    refine x_iloadn (pc := 57) dX6_pack_57 rfl ?_
    refine x_iald (1) (pc := 58) dX6_pack_58 k_183 (hM 183 (by decide) (by decide)) (⟨rfl, by decide, by decide⟩) ?_
    rw [s0]
    refine x_cge (tgt := 126) (pc := 59) dX6_pack_59 (by decide) (by omega) (fun c_59 => ?_) (fun c_59 => ?_)
    rotate_left
    · skip
      exact absurd c_59 (by omega)
    exact cont G h e1 e2 hQ hF hG
  | succ r ih =>
    intro j G hn h e1 e2 hQ hF hG
    have s0 := h.2.1
    have hr := h.2.2.2.1 (t + j) (by omega)
    have hg : l.getD (A.length + j) 0 = B0.getD (t + j) 0 := by rw [hl, zgd_r (by omega), show A.length + j - A.length = j by omega, hB, zgd_dr]
    rw [← hg] at hr
    have hx : l.getD (A.length + j) 0 < 8 := by rw [zgd_el (show (A.length + j) < l.length by omega)]; exact hv.1 _ (List.getElem_mem (show (A.length + j) < l.length by omega))
    have hlo := fun h20 => zpkN_lo hv.1 (show (A.length + j) < l.length by omega) h20
    have hhi := fun h20 => zpkF_hi (b := b) hv.1 (show (A.length + j) < l.length by omega) h20 hv.2
    have hflt := zpkF_lt (n := (A.length + j)) (b := b) hv.1 hv.2
    have ihx := ih (j + 1)
    have keepN := fun h20 : 20 ≤ (A.length + j) => zpkN_hi (l := l) h20
    have keepF := fun h20 : (A.length + j) < 20 => zpkF_lo (l := l) (b := b) h20
    obtain ⟨x, hxe⟩ : ∃ x, x = l.getD (A.length + j) 0 := ⟨_, rfl⟩
    rw [← hxe] at hr hx hlo hhi
    obtain ⟨n, hne⟩ : ∃ n, n = A.length + j := ⟨_, rfl⟩
    rw [show A.length + (j + 1) = n + 1 by omega] at ihx
    rw [← hne] at e1 e2 hlo hhi hflt keepN keepF ⊢
    refine x_iloadn (pc := 52) dX6_pack_52 rfl ?_
    refine x_aloadn (pc := 53) dX6_pack_53 rfl ?_
    refine x_getR (183) (pc := 54) dX6_pack_54 fl_X6_16 k_179 (hM 179 (by decide) (by decide)) (f_179_1 hG) ?_
    refine x_iloadn (pc := 57) dX6_pack_57 rfl ?_
    refine x_iald (1) (pc := 58) dX6_pack_58 k_183 (hM 183 (by decide) (by decide)) (⟨rfl, by decide, by decide⟩) ?_
    rw [s0]
    refine x_cge (tgt := 126) (pc := 59) dX6_pack_59 (by decide) (by omega) (fun c_59 => ?_) (fun c_59 => ?_)
    · skip
      exact absurd c_59 (by omega)
    refine x_iloadn (pc := 62) dX6_pack_62 rfl ?_
    refine x_bipush (pc := 63) dX6_pack_63 (by decide) ?_
    refine x_cge (tgt := 93) (pc := 65) dX6_pack_65 (by decide) (by omega) (fun c_65 => ?_) (fun c_65 => ?_)
    · skip
      refine x_aloadn (pc := 93) dX6_pack_93 rfl ?_
      refine x_dup (pc := 94) dX6_pack_94 (fun h => by cases h) ?_
      refine x_getI (pc := 95) dX6_pack_95 fl_X6_28 k_179 (hM 179 (by decide) (by decide)) ?_
      rw [e2]
      refine x_aloadn (pc := 98) dX6_pack_98 rfl ?_
      refine x_getR (180) (pc := 99) dX6_pack_99 fl_X6_13 k_179 (hM 179 (by decide) (by decide)) (f_179_0 hG) ?_
      refine x_iloadn (pc := 102) dX6_pack_102 rfl ?_
      refine x_aald (182) (1) (pc := 103) dX6_pack_103 k_180 (by decide) (hM 180 (by decide) (by decide)) (⟨rfl, by decide, by decide⟩) (f_180_1 hG) ?_
      refine x_iloadn (pc := 104) dX6_pack_104 rfl ?_
      refine x_iald (t + j) (pc := 105) dX6_pack_105 k_182 (hM 182 (by decide) (by decide)) (⟨by omega, by omega, by decide⟩) ?_
      rw [hr]
      refine x_iconst (pc := 106) dX6_pack_106 ?_
      refine x_iloadn (pc := 107) dX6_pack_107 rfl ?_
      refine x_bipush (pc := 108) dX6_pack_108 (by decide) ?_
      refine x_isub (pc := 110) dX6_pack_110 ?_
      refine x_imul (pc := 111) dX6_pack_111 ?_
      refine x_ishl (pc := 112) dX6_pack_112 (3 * (n - 20)) (by omega) (by omega) ?_
      rw [zpw_i]
      have k1 := hhi (by omega)
      have k3 : 2 ^ (3 * (n - 20)) ≤ 2 ^ 9 := Nat.pow_le_pow_right (by decide) (by omega)
      have k4 : x * 2 ^ (3 * (n - 20)) ≤ 7 * 2 ^ (3 * (n - 20)) := Nat.mul_le_mul_right _ (by omega)
      refine x_iorN (pc := 113) dX6_pack_113 (zpkF l n b) (x * 2 ^ (3 * (n - 20))) rfl rfl (by omega) ?_
      rw [k1]
      refine x_putIH (pc := 114) dX6_pack_114 fp_X6_28 k_179 (hM 179 (by decide) (by decide)) hF hG (fun hF hG => ?_)
      refine x_iinc (pc := 117) dX6_pack_117 rfl (by decide) rfl ?_
      refine x_iinc (pc := 120) dX6_pack_120 rfl (by decide) rfl ?_
      refine x_goto (tgt := 52) (pc := 123) dX6_pack_123 (by decide) ?_
      first
      | exact ihx _ (by omega) (h.fk (by decide) (by decide) (by decide) (by decide)) x_up_s (by rw [x_up_k (by decide), keepF (by omega)]; exact e2) (hQ.up (by decide)) hF hG
      | exact ihx _ (by omega) (h.fk (by decide) (by decide) (by decide) (by decide)) (by rw [x_up_k (by decide), keepN (by omega)]; exact e1) x_up_s (hQ.up (by decide)) hF hG
    · skip
      refine x_aloadn (pc := 68) dX6_pack_68 rfl ?_
      refine x_dup (pc := 69) dX6_pack_69 (fun h => by cases h) ?_
      refine x_getL (pc := 70) dX6_pack_70 fl_X6_24 k_179 (hM 179 (by decide) (by decide)) ?_
      rw [e1]
      refine x_aloadn (pc := 73) dX6_pack_73 rfl ?_
      refine x_getR (180) (pc := 74) dX6_pack_74 fl_X6_13 k_179 (hM 179 (by decide) (by decide)) (f_179_0 hG) ?_
      refine x_iloadn (pc := 77) dX6_pack_77 rfl ?_
      refine x_aald (182) (1) (pc := 78) dX6_pack_78 k_180 (by decide) (hM 180 (by decide) (by decide)) (⟨rfl, by decide, by decide⟩) (f_180_1 hG) ?_
      refine x_iloadn (pc := 79) dX6_pack_79 rfl ?_
      refine x_iald (t + j) (pc := 80) dX6_pack_80 k_182 (hM 182 (by decide) (by decide)) (⟨by omega, by omega, by decide⟩) ?_
      rw [hr]
      refine x_i2l (pc := 81) dX6_pack_81 (by omega) ?_
      refine x_iconst (pc := 82) dX6_pack_82 ?_
      refine x_iloadn (pc := 83) dX6_pack_83 rfl ?_
      refine x_imul (pc := 84) dX6_pack_84 ?_
      refine x_lshl (pc := 85) dX6_pack_85 (3 * n) (by omega) (by omega) ?_
      rw [zpw_i]
      obtain ⟨k1, k2⟩ := hlo (by omega)
      have k3 : 2 ^ (3 * n) ≤ 2 ^ 57 := Nat.pow_le_pow_right (by decide) (by omega)
      have k4 : x * 2 ^ (3 * n) ≤ 7 * 2 ^ (3 * n) := Nat.mul_le_mul_right _ (by omega)
      refine x_lorN (pc := 86) dX6_pack_86 (zpkN l n) (x * 2 ^ (3 * n)) rfl rfl (by omega) ?_
      rw [k1]
      refine x_putLH (pc := 87) dX6_pack_87 fp_X6_24 k_179 (hM 179 (by decide) (by decide)) hF hG (fun hF hG => ?_)
      refine x_goto (tgt := 117) (pc := 90) dX6_pack_90 (by decide) ?_
      refine x_iinc (pc := 117) dX6_pack_117 rfl (by decide) rfl ?_
      refine x_iinc (pc := 120) dX6_pack_120 rfl (by decide) rfl ?_
      refine x_goto (tgt := 52) (pc := 123) dX6_pack_123 (by decide) ?_
      first
      | exact ihx _ (by omega) (h.fk (by decide) (by decide) (by decide) (by decide)) x_up_s (by rw [x_up_k (by decide), keepF (by omega)]; exact e2) (hQ.up (by decide)) hF hG
      | exact ihx _ (by omega) (h.fk (by decide) (by decide) (by decide) (by decide)) (by rw [x_up_k (by decide), keepN (by omega)]; exact e1) x_up_s (hQ.up (by decide)) hF hG
abbrev pPk (L : List Nat) (G0 : Nat → Nat → Int) (A0 B0 : List Nat) (t : Nat) : x_Q := qV L fun G' => c_th A0 B0 t G' ∧ G' 179 3 = ((znr (A0.drop t, B0.drop t) : Nat) : Int) ∧ G' 179 4 = ((zfr (A0.drop t, B0.drop t) : Nat) : Int) ∧ FR [179] G0 G' ∧ x_Fin xFL G' ∧ x_Fin xGL G'
theorem l_th_pkE {G0 G : Nat → Nat → Int} {w1 : Int} {o3 : Option (Nat × Int)} (hA : A = A0.drop t) (hB : B = B0.drop t) (hl : l = A ++ B) (hb : b = A.length + 32 * B.length) (h : c_th A0 B0 t G) (e1 : G 179 3 = ((zpkN l l.length : Nat) : Int)) (e2 : G 179 4 = ((zpkF l l.length b : Nat) : Int)) (hQ : FR [179] G0 G) (hF : x_Fin xFL G) (hG : x_Fin xGL G) :
    X mX6_pack 0 0 0 (pPk L G0 A0 B0 t) 126 [some (vR 179), some (vI w1), some (vI 1), o3] [] L G 0 0 := by
  refine x_iinc (pc := 126) dX6_pack_126 rfl (by decide) rfl ?_
  refine x_goto (tgt := 42) (pc := 129) dX6_pack_129 (by decide) ?_
  refine x_iloadn (pc := 42) dX6_pack_42 rfl ?_
  refine x_iconst (pc := 43) dX6_pack_43 ?_
  refine x_cge (tgt := 132) (pc := 44) dX6_pack_44 (by decide) (by omega) (fun c_44 => ?_) (fun c_44 => ?_)
  rotate_left
  · skip
    exact absurd c_44 (by decide)
  refine x_rV (pc := 132) dX6_pack_132 rfl ?_
  refine ⟨h, ?_, ?_, hQ, hF, hG⟩
  · rw [e1, ← hA, ← hB]; unfold zpkN znr; rw [List.take_length, hl]
  · rw [e2, ← hA, ← hB]; unfold zpkF zfr; rw [List.take_length, hl, hb]
    show ((z8 ((A ++ B).drop 20) + 4096 * (A.length + 32 * B.length) : Nat) : Int) = ((z8 ((A ++ B).drop 20) + 4096 * A.length + 131072 * B.length : Nat) : Int)
    omega
theorem l_th_pkM {G0 G : Nat → Nat → Int} {o3 : Option (Nat × Int)} (hL : x_SL L) (hM : x_GM L) (hA : A = A0.drop t) (hB : B = B0.drop t) (hl : l = A ++ B) (hv : (∀ x ∈ l, x < 8) ∧ l.length ≤ 24) (ht : t ≤ A0.length ∧ t ≤ B0.length) (hn0 : A0.length ≤ 32 ∧ B0.length ≤ 32) (hb : b = A.length + 32 * B.length) (h : c_th A0 B0 t G) (e1 : G 179 3 = ((zpkN l A.length : Nat) : Int)) (e2 : G 179 4 = ((zpkF l A.length b : Nat) : Int)) (hQ : FR [179] G0 G) (hF : x_Fin xFL G) (hG : x_Fin xGL G) :
    X mX6_pack 0 0 0 (pPk L G0 A0 B0 t) 126 [some (vR 179), some (vI A.length), some (vI 0), o3] [] L G 0 0 := by
  have st := h.2.2.2.2
  have ll : l.length = A.length + B.length := by rw [hl, List.length_append]
  refine x_iinc (pc := 126) dX6_pack_126 rfl (by decide) rfl ?_
  refine x_goto (tgt := 42) (pc := 129) dX6_pack_129 (by decide) ?_
  refine x_iloadn (pc := 42) dX6_pack_42 rfl ?_
  refine x_iconst (pc := 43) dX6_pack_43 ?_
  refine x_cge (tgt := 132) (pc := 44) dX6_pack_44 (by decide) (by omega) (fun c_44 => ?_) (fun c_44 => ?_)
  · skip
    exact absurd c_44 (by decide)
  refine x_aloadn (pc := 47) dX6_pack_47 rfl ?_
  refine x_getI (pc := 48) dX6_pack_48 fl_X6_20 k_179 (hM 179 (by decide) (by decide)) ?_
  rw [st]
  refine x_istoren (pc := 51) dX6_pack_51 rfl (by decide) rfl ?_
  exact l_th_pk1 hL hM hA hB hl hv ht hn0 (show b ≤ 1000 by omega) (fun _ b1 b2 b3 b4 b5 b6 => l_th_pkE hA hB hl hb b1 b2 b3 b4 b5 b6) B.length 0 G (Nat.zero_add _) h e1 e2 hQ hF hG
theorem c_th_pack {G : Nat → Nat → Int} (hL : x_SL L) (hM : x_GM L) (hF : x_Fin xFL G) (hG : x_Fin xGL G) (h : c_th A0 B0 t G) (hv : zvS (A0.drop t, B0.drop t)) (ht : t ≤ A0.length ∧ t ≤ B0.length) (hn0 : A0.length ≤ 32 ∧ B0.length ≤ 32) :
    CM yX6_pack mX6_pack 0 0 0 [vR 179] L G (pPk L G A0 B0 t) := by
  obtain ⟨A, hA⟩ : ∃ A, A = A0.drop t := ⟨_, rfl⟩
  obtain ⟨B, hB⟩ : ∃ B, B = B0.drop t := ⟨_, rfl⟩
  obtain ⟨l, hl⟩ : ∃ l, l = A ++ B := ⟨_, rfl⟩
  have hva := hv.all
  rw [show ((A0.drop t, B0.drop t).1 ++ (A0.drop t, B0.drop t).2) = l by rw [hl, hA, hB]] at hva
  have lA : A.length = A0.length - t := by rw [hA, List.length_drop]
  have lB : B.length = B0.length - t := by rw [hB, List.length_drop]
  have ll : l.length = A.length + B.length := by rw [hl, List.length_append]
  have h1 : ((A0.length : Nat) : Int) - ((t : Nat) : Int) = ((A.length : Nat) : Int) := by omega
  have h2 : ((B0.length : Nat) : Int) - ((t : Nat) : Int) = ((B.length : Nat) : Int) := by omega
  have h3 : A.length * 2 ^ 12 ||| B.length * 2 ^ 17 = 4096 * (A.length + 32 * B.length) := by
    rw [zor_lo (show A.length * 2 ^ 12 < 2 ^ 17 by omega)]; omega
  have hN0 : zpkN l 0 = 0 := rfl
  have hF0 : zpkF l 0 (A.length + 32 * B.length) = 4096 * (A.length + 32 * B.length) := by
    show z8 (([] : List Nat).drop 20) + 4096 * (A.length + 32 * B.length) = _
    rw [List.drop_nil, z8]; omega
  obtain ⟨s0, s1, a3, a4, st⟩ := id h
  refine Ct.of_X (μ := mX6_pack) rfl rfl (by decide) (fun h => by cases h) (Nat.le_of_ble_eq_true rfl) rfl ?_
  refine x_aloadn (pc := 0) dX6_pack_0 rfl ?_
  refine x_lconst (x := 0) (pc := 1) dX6_pack_1 (by decide) ?_
  refine x_putLH (pc := 2) dX6_pack_2 fp_X6_24 k_179 (hM 179 (by decide) (by decide)) hF hG (fun hF hG => ?_)
  refine x_aloadn (pc := 5) dX6_pack_5 rfl ?_
  refine x_aloadn (pc := 6) dX6_pack_6 rfl ?_
  refine x_getR (183) (pc := 7) dX6_pack_7 fl_X6_16 k_179 (hM 179 (by decide) (by decide)) (f_179_1 hG) ?_
  refine x_iconst (pc := 10) dX6_pack_10 ?_
  refine x_iald (0) (pc := 11) dX6_pack_11 k_183 (hM 183 (by decide) (by decide)) (⟨rfl, by decide, by decide⟩) ?_
  rw [x_up_ne (by decide), s0]
  refine x_aloadn (pc := 12) dX6_pack_12 rfl ?_
  refine x_getI (pc := 13) dX6_pack_13 fl_X6_20 k_179 (hM 179 (by decide) (by decide)) ?_
  rw [x_up_k (by decide), st]
  refine x_isub (pc := 16) dX6_pack_16 ?_
  rw [h1]
  refine x_bipush (pc := 17) dX6_pack_17 (by decide) ?_
  refine x_ishl (pc := 19) dX6_pack_19 12 (by decide) (by decide) ?_
  rw [zpw_i]
  refine x_aloadn (pc := 20) dX6_pack_20 rfl ?_
  refine x_getR (183) (pc := 21) dX6_pack_21 fl_X6_16 k_179 (hM 179 (by decide) (by decide)) (f_179_1 hG) ?_
  refine x_iconst (pc := 24) dX6_pack_24 ?_
  refine x_iald (1) (pc := 25) dX6_pack_25 k_183 (hM 183 (by decide) (by decide)) (⟨rfl, by decide, by decide⟩) ?_
  rw [x_up_ne (by decide), s1]
  refine x_aloadn (pc := 26) dX6_pack_26 rfl ?_
  refine x_getI (pc := 27) dX6_pack_27 fl_X6_20 k_179 (hM 179 (by decide) (by decide)) ?_
  rw [x_up_k (by decide), st]
  refine x_isub (pc := 30) dX6_pack_30 ?_
  rw [h2]
  refine x_bipush (pc := 31) dX6_pack_31 (by decide) ?_
  refine x_ishl (pc := 33) dX6_pack_33 17 (by decide) (by decide) ?_
  rw [zpw_i]
  refine x_iorN (pc := 34) dX6_pack_34 (A.length * 2 ^ 12) (B.length * 2 ^ 17) rfl rfl (by omega) ?_
  rw [h3]
  refine x_putIH (pc := 35) dX6_pack_35 fp_X6_28 k_179 (hM 179 (by decide) (by decide)) hF hG (fun hF hG => ?_)
  refine x_iconst (pc := 38) dX6_pack_38 ?_
  refine x_istoren (pc := 39) dX6_pack_39 rfl (by decide) rfl ?_
  refine x_iconst (pc := 40) dX6_pack_40 ?_
  refine x_istoren (pc := 41) dX6_pack_41 rfl (by decide) rfl ?_
  refine x_iloadn (pc := 42) dX6_pack_42 rfl ?_
  refine x_iconst (pc := 43) dX6_pack_43 ?_
  refine x_cge (tgt := 132) (pc := 44) dX6_pack_44 (by decide) (by omega) (fun c_44 => ?_) (fun c_44 => ?_)
  · skip
    exact absurd c_44 (by decide)
  refine x_aloadn (pc := 47) dX6_pack_47 rfl ?_
  refine x_getI (pc := 48) dX6_pack_48 fl_X6_20 k_179 (hM 179 (by decide) (by decide)) ?_
  rw [x_up_k (by decide), x_up_k (by decide), st]
  refine x_istoren (pc := 51) dX6_pack_51 rfl (by decide) rfl ?_
  exact l_th_pk0 hL hM hA hB hl hva ht hn0 (show A.length + 32 * B.length ≤ 1000 by omega) (fun _ b1 b2 b3 b4 b5 b6 => l_th_pkM hL hM hA hB hl hva ht hn0 rfl b1 b2 b3 b4 b5 b6) A.length 0 _ (Nat.zero_add _) ((h.fk (by decide) (by decide) (by decide) (by decide)).fk (by decide) (by decide) (by decide) (by decide)) (by rw [hN0, x_up_k (by decide), x_up_s]; rfl) (by rw [hF0, x_up_s]) ((FR.rf.up (by decide)).up (by decide)) hF hG
/-! unpacking -/
theorem ztk_z {A : List Nat} (n : Nat) (h : A.length ≤ n) : A.take n = A := List.take_of_length_le h
abbrev pUp (L : List Nat) (G0 : Nat → Nat → Int) (s : zSt) : x_Q := qV L fun G' => c_he s.1 s.2 0 G' ∧ FR z_heS G0 G' ∧ x_Fin xFL G' ∧ x_Fin xGL G'
theorem l_he_up {s : zSt} {G0 : Nat → Nat → Int} (hL : x_SL L) (hM : x_GM L) (hv : zvS s) :
    ∀ (r n : Nat) (G : Nat → Nat → Int) (o7 : Option (Nat × Int)), n + r = s.1.length + s.2.length → c_he (s.1.take n) (s.2.take (n - s.1.length)) 0 G → FR z_heS G0 G → x_Fin xFL G → x_Fin xGL G →
    X mX6_unpack 1 0 0 (pUp L G0 s) 28 [some (vR 174), some (vL ((znr s : Nat) : Int)), none, some (vI ((zfr s : Nat) : Int)), some (vI s.1.length), some (vI ((s.1.length + s.2.length : Nat) : Int)), some (vI n), o7] [] L G 0 0 := by
  obtain ⟨f1, f2, f3⟩ := zfr_len hv
  have f4 := znr_lt hv
  have f5 := hv.2.2.1
  have ll : (s.1 ++ s.2).length = s.1.length + s.2.length := List.length_append
  intro r
  induction r with
  | zero =>
    intro n G o7 hn h hQ hF hG
    rw [ztk_z n (by omega), ztk_z _ (by omega)] at h
    refine x_iload (pc := 28) dX6_unpack_28 rfl ?_
    refine x_iload (pc := 30) dX6_unpack_30 rfl ?_
    refine x_cge (tgt := 94) (pc := 32) dX6_unpack_32 (by decide) (by omega) (fun c_32 => ?_) (fun c_32 => ?_)
    rotate_left
    · skip
      exact absurd c_32 (by omega)
    refine x_rV (pc := 94) dX6_unpack_94 rfl ?_
    exact ⟨h, hQ, hF, hG⟩
  | succ r ih =>
    intro n G o7 hn h hQ hF hG
    have hd1 := fun h20 => znr_dig hv (show n < (s.1 ++ s.2).length by omega) h20
    have hd2 := fun h20 => zfr_dig hv (show n < (s.1 ++ s.2).length by omega) h20
    have hx : (s.1 ++ s.2).getD n 0 < 8 := by rw [zgd_el (show n < (s.1 ++ s.2).length by omega)]; exact hv.all.1 _ (List.getElem_mem (show n < (s.1 ++ s.2).length by omega))
    have q1 : n < s.1.length → s.1.take (n + 1) = s.1.take n ++ [(s.1 ++ s.2).getD n 0] ∧ s.2.take (n + 1 - s.1.length) = s.2.take (n - s.1.length) := fun w => ⟨by rw [zgd_l w, ztk_at w], by rw [show n + 1 - s.1.length = 0 by omega, show n - s.1.length = 0 by omega]⟩
    have q2 : s.1.length ≤ n → s.1.take (n + 1) = s.1.take n ∧ s.2.take (n + 1 - s.1.length) = s.2.take (n - s.1.length) ++ [(s.1 ++ s.2).getD n 0] := fun w => ⟨by rw [ztk_z _ (by omega), ztk_z _ (by omega)], by rw [zgd_r w, show n + 1 - s.1.length = n - s.1.length + 1 by omega, ztk_at (by omega)]⟩
    obtain ⟨x, hxe⟩ : ∃ x, x = (s.1 ++ s.2).getD n 0 := ⟨_, rfl⟩
    rw [← hxe] at hd1 hd2 hx q1 q2
    have i1 : n < 20 → ((znr s : Nat) : Int) / 2 ^ (3 * n) % 8 = ((x : Nat) : Int) := fun w => by rw [← hd1 w, Int.natCast_emod, Int.natCast_ediv, Int.natCast_pow]; rfl
    have i2 : 20 ≤ n → ((zfr s : Nat) : Int) / 2 ^ (3 * (n - 20)) % 8 = ((x : Nat) : Int) := fun w => by rw [← hd2 w, Int.natCast_emod, Int.natCast_ediv, Int.natCast_pow]; rfl
    have t1 : (s.1.take n).length ≤ 24 := by rw [List.length_take]; omega
    have t2 : (s.2.take (n - s.1.length)).length ≤ 24 := by rw [List.length_take]; omega
    have ihx := fun G o7 => ih (n + 1) G o7 (by omega)
    refine x_iload (pc := 28) dX6_unpack_28 rfl ?_
    refine x_iload (pc := 30) dX6_unpack_30 rfl ?_
    refine x_cge (tgt := 94) (pc := 32) dX6_unpack_32 (by decide) (by omega) (fun c_32 => ?_) (fun c_32 => ?_)
    · skip
      exact absurd c_32 (by omega)
    refine x_iload (pc := 35) dX6_unpack_35 rfl ?_
    refine x_bipush (pc := 37) dX6_unpack_37 (by decide) ?_
    refine x_cge (tgt := 56) (pc := 39) dX6_unpack_39 (by decide) (by omega) (fun c_39 => ?_) (fun c_39 => ?_)
    · skip
      refine x_iloadn (pc := 56) dX6_unpack_56 rfl ?_
      refine x_iconst (pc := 57) dX6_unpack_57 ?_
      refine x_iload (pc := 58) dX6_unpack_58 rfl ?_
      refine x_bipush (pc := 60) dX6_unpack_60 (by decide) ?_
      refine x_isub (pc := 62) dX6_unpack_62 ?_
      refine x_imul (pc := 63) dX6_unpack_63 ?_
      refine x_ishr (pc := 64) dX6_unpack_64 (3 * (n - 20)) (by omega) (by omega) (by omega) ?_
      refine x_bipush (pc := 65) dX6_unpack_65 (by decide) ?_
      refine x_iandm (pc := 67) dX6_unpack_67 3 8 (by decide) (by decide) (by decide) ?_
      rw [i2 (by omega)]
      refine x_istore (pc := 68) dX6_unpack_68 (by decide) rfl ?_
      refine x_aloadn (pc := 70) dX6_unpack_70 rfl ?_
      refine x_iload (pc := 71) dX6_unpack_71 rfl ?_
      refine x_iload (pc := 73) dX6_unpack_73 rfl ?_
      refine x_cge (tgt := 82) (pc := 75) dX6_unpack_75 (by decide) (by omega) (fun c_75 => ?_) (fun c_75 => ?_)
      · skip
        refine x_iconst (pc := 82) dX6_unpack_82 ?_
        refine x_iload (pc := 83) dX6_unpack_83 rfl ?_
        first
        | (refine x_cVV (pc := 85) dX6_unpack_85 lk_X6_44 (c_he_add0 hL hM hF hG h (by omega)) k_174 ⟨by decide, rfl⟩ (hM 174 (by decide) (by decide)) ⟨by decide, by decide⟩ (Nat.le_of_ble_eq_true rfl) rfl ?_
           rintro G2 ⟨k1, k2, hF, hG⟩
           refine x_iinc (pc := 88) dX6_unpack_88 rfl (by decide) rfl ?_
           refine x_goto (tgt := 28) (pc := 91) dX6_unpack_91 (by decide) ?_
           rw [(q1 (by omega)).1, (q1 (by omega)).2] at ihx
           exact ihx _ _ k1 (hQ.tr k2) hF hG)
        | (refine x_cVV (pc := 85) dX6_unpack_85 lk_X6_44 (c_he_add1 hL hM hF hG h (by omega)) k_174 ⟨by decide, rfl⟩ (hM 174 (by decide) (by decide)) ⟨by decide, by decide⟩ (Nat.le_of_ble_eq_true rfl) rfl ?_
           rintro G2 ⟨k1, k2, hF, hG⟩
           refine x_iinc (pc := 88) dX6_unpack_88 rfl (by decide) rfl ?_
           refine x_goto (tgt := 28) (pc := 91) dX6_unpack_91 (by decide) ?_
           rw [(q2 (by omega)).1, (q2 (by omega)).2] at ihx
           exact ihx _ _ k1 (hQ.tr k2) hF hG)
      · skip
        refine x_iconst (pc := 78) dX6_unpack_78 ?_
        refine x_goto (tgt := 83) (pc := 79) dX6_unpack_79 (by decide) ?_
        refine x_iload (pc := 83) dX6_unpack_83 rfl ?_
        first
        | (refine x_cVV (pc := 85) dX6_unpack_85 lk_X6_44 (c_he_add0 hL hM hF hG h (by omega)) k_174 ⟨by decide, rfl⟩ (hM 174 (by decide) (by decide)) ⟨by decide, by decide⟩ (Nat.le_of_ble_eq_true rfl) rfl ?_
           rintro G2 ⟨k1, k2, hF, hG⟩
           refine x_iinc (pc := 88) dX6_unpack_88 rfl (by decide) rfl ?_
           refine x_goto (tgt := 28) (pc := 91) dX6_unpack_91 (by decide) ?_
           rw [(q1 (by omega)).1, (q1 (by omega)).2] at ihx
           exact ihx _ _ k1 (hQ.tr k2) hF hG)
        | (refine x_cVV (pc := 85) dX6_unpack_85 lk_X6_44 (c_he_add1 hL hM hF hG h (by omega)) k_174 ⟨by decide, rfl⟩ (hM 174 (by decide) (by decide)) ⟨by decide, by decide⟩ (Nat.le_of_ble_eq_true rfl) rfl ?_
           rintro G2 ⟨k1, k2, hF, hG⟩
           refine x_iinc (pc := 88) dX6_unpack_88 rfl (by decide) rfl ?_
           refine x_goto (tgt := 28) (pc := 91) dX6_unpack_91 (by decide) ?_
           rw [(q2 (by omega)).1, (q2 (by omega)).2] at ihx
           exact ihx _ _ k1 (hQ.tr k2) hF hG)
    · skip
      refine x_lloadn (pc := 42) dX6_unpack_42 rfl ?_
      refine x_iconst (pc := 43) dX6_unpack_43 ?_
      refine x_iload (pc := 44) dX6_unpack_44 rfl ?_
      refine x_imul (pc := 46) dX6_unpack_46 ?_
      refine x_lshr (pc := 47) dX6_unpack_47 (3 * n) (by omega) (by omega) (by omega) ?_
      refine x_ldc2 (pc := 48) dX6_unpack_48 co_X6_67 ?_
      refine x_landm (pc := 51) dX6_unpack_51 3 8 (by decide) (by decide) (by decide) ?_
      rw [i1 (by omega)]
      refine x_l2i (pc := 52) dX6_unpack_52 ?_
      refine x_goto (tgt := 68) (pc := 53) dX6_unpack_53 (by decide) ?_
      refine x_istore (pc := 68) dX6_unpack_68 (by decide) rfl ?_
      refine x_aloadn (pc := 70) dX6_unpack_70 rfl ?_
      refine x_iload (pc := 71) dX6_unpack_71 rfl ?_
      refine x_iload (pc := 73) dX6_unpack_73 rfl ?_
      refine x_cge (tgt := 82) (pc := 75) dX6_unpack_75 (by decide) (by omega) (fun c_75 => ?_) (fun c_75 => ?_)
      · skip
        refine x_iconst (pc := 82) dX6_unpack_82 ?_
        refine x_iload (pc := 83) dX6_unpack_83 rfl ?_
        first
        | (refine x_cVV (pc := 85) dX6_unpack_85 lk_X6_44 (c_he_add0 hL hM hF hG h (by omega)) k_174 ⟨by decide, rfl⟩ (hM 174 (by decide) (by decide)) ⟨by decide, by decide⟩ (Nat.le_of_ble_eq_true rfl) rfl ?_
           rintro G2 ⟨k1, k2, hF, hG⟩
           refine x_iinc (pc := 88) dX6_unpack_88 rfl (by decide) rfl ?_
           refine x_goto (tgt := 28) (pc := 91) dX6_unpack_91 (by decide) ?_
           rw [(q1 (by omega)).1, (q1 (by omega)).2] at ihx
           exact ihx _ _ k1 (hQ.tr k2) hF hG)
        | (refine x_cVV (pc := 85) dX6_unpack_85 lk_X6_44 (c_he_add1 hL hM hF hG h (by omega)) k_174 ⟨by decide, rfl⟩ (hM 174 (by decide) (by decide)) ⟨by decide, by decide⟩ (Nat.le_of_ble_eq_true rfl) rfl ?_
           rintro G2 ⟨k1, k2, hF, hG⟩
           refine x_iinc (pc := 88) dX6_unpack_88 rfl (by decide) rfl ?_
           refine x_goto (tgt := 28) (pc := 91) dX6_unpack_91 (by decide) ?_
           rw [(q2 (by omega)).1, (q2 (by omega)).2] at ihx
           exact ihx _ _ k1 (hQ.tr k2) hF hG)
      · skip
        refine x_iconst (pc := 78) dX6_unpack_78 ?_
        refine x_goto (tgt := 83) (pc := 79) dX6_unpack_79 (by decide) ?_
        refine x_iload (pc := 83) dX6_unpack_83 rfl ?_
        first
        | (refine x_cVV (pc := 85) dX6_unpack_85 lk_X6_44 (c_he_add0 hL hM hF hG h (by omega)) k_174 ⟨by decide, rfl⟩ (hM 174 (by decide) (by decide)) ⟨by decide, by decide⟩ (Nat.le_of_ble_eq_true rfl) rfl ?_
           rintro G2 ⟨k1, k2, hF, hG⟩
           refine x_iinc (pc := 88) dX6_unpack_88 rfl (by decide) rfl ?_
           refine x_goto (tgt := 28) (pc := 91) dX6_unpack_91 (by decide) ?_
           rw [(q1 (by omega)).1, (q1 (by omega)).2] at ihx
           exact ihx _ _ k1 (hQ.tr k2) hF hG)
        | (refine x_cVV (pc := 85) dX6_unpack_85 lk_X6_44 (c_he_add1 hL hM hF hG h (by omega)) k_174 ⟨by decide, rfl⟩ (hM 174 (by decide) (by decide)) ⟨by decide, by decide⟩ (Nat.le_of_ble_eq_true rfl) rfl ?_
           rintro G2 ⟨k1, k2, hF, hG⟩
           refine x_iinc (pc := 88) dX6_unpack_88 rfl (by decide) rfl ?_
           refine x_goto (tgt := 28) (pc := 91) dX6_unpack_91 (by decide) ?_
           rw [(q2 (by omega)).1, (q2 (by omega)).2] at ihx
           exact ihx _ _ k1 (hQ.tr k2) hF hG)
theorem c_he_unpack {s : zSt} {G : Nat → Nat → Int} (hL : x_SL L) (hM : x_GM L) (hF : x_Fin xFL G) (hG : x_Fin xGL G) (hv : zvS s) :
    CM yX6_unpack mX6_unpack 1 0 0 [vR 174, vL ((znr s : Nat) : Int), vI ((zfr s : Nat) : Int)] L G (pUp L G s) := by
  obtain ⟨f1, f2, f3⟩ := zfr_len hv
  have e1 : ((zfr s : Nat) : Int) / 2 ^ 12 % 32 = ((s.1.length : Nat) : Int) := by omega
  have e2 : ((zfr s : Nat) : Int) / 2 ^ 17 % 32 = ((s.2.length : Nat) : Int) := by omega
  refine Ct.of_X (μ := mX6_unpack) rfl rfl (by decide) (fun h => by cases h) (Nat.le_of_ble_eq_true rfl) rfl ?_
  refine x_aloadn (pc := 0) dX6_unpack_0 rfl ?_
  refine x_cVV (pc := 1) dX6_unpack_1 lk_X6_31 (c_he_begin hL hM hF hG) k_174 ⟨by decide, rfl⟩ (hM 174 (by decide) (by decide)) (⟨by decide, by decide⟩) (Nat.le_of_ble_eq_true rfl) rfl ?_
  rintro G1 ⟨k1, k2, hF, hG⟩
  refine x_iloadn (pc := 4) dX6_unpack_4 rfl ?_
  refine x_bipush (pc := 5) dX6_unpack_5 (by decide) ?_
  refine x_ishr (pc := 7) dX6_unpack_7 12 (by decide) (by decide) (by omega) ?_
  refine x_bipush (pc := 8) dX6_unpack_8 (by decide) ?_
  refine x_iandm (pc := 10) dX6_unpack_10 5 32 (by decide) (by decide) (by decide) ?_
  rw [e1]
  refine x_istore (pc := 11) dX6_unpack_11 (by decide) rfl ?_
  refine x_iload (pc := 13) dX6_unpack_13 rfl ?_
  refine x_iloadn (pc := 15) dX6_unpack_15 rfl ?_
  refine x_bipush (pc := 16) dX6_unpack_16 (by decide) ?_
  refine x_ishr (pc := 18) dX6_unpack_18 17 (by decide) (by decide) (by omega) ?_
  refine x_bipush (pc := 19) dX6_unpack_19 (by decide) ?_
  refine x_iandm (pc := 21) dX6_unpack_21 5 32 (by decide) (by decide) (by decide) ?_
  rw [e2]
  refine x_iadd (pc := 22) dX6_unpack_22 ?_
  rw [show ((s.1.length : Nat) : Int) + ((s.2.length : Nat) : Int) = ((s.1.length + s.2.length : Nat) : Int) by omega]
  refine x_istore (pc := 23) dX6_unpack_23 (by decide) rfl ?_
  refine x_iconst (pc := 25) dX6_unpack_25 ?_
  refine x_istore (pc := 26) dX6_unpack_26 (by decide) rfl ?_
  exact l_he_up hL hM hv (s.1.length + s.2.length) 0 G1 _ (Nat.zero_add _) (by rw [Nat.zero_sub, List.take_zero, List.take_zero]; exact k1) k2 hF hG
/-! reading -/
def zrwl (I : Nat → Nat → Nat) (q n : Nat) : List Nat := (List.range n).map (I q)
theorem zrwl_s (I : Nat → Nat → Nat) (q n : Nat) : zrwl I q (n + 1) = zrwl I q n ++ [I q n] := by unfold zrwl; rw [List.range_succ, List.map_append]; rfl
theorem zrwl_len (I : Nat → Nat → Nat) (q n : Nat) : (zrwl I q n).length = n := by unfold zrwl; rw [List.length_map, List.length_range]
section XRD
variable {I : Nat → Nat → Nat} {q1 q2 n1 n2 r1 r2 : Nat}
abbrev pRd (L : List Nat) (G0 : Nat → Nat → Int) (I : Nat → Nat → Nat) (q1 q2 n1 n2 : Nat) : x_Q := qV L fun G' => c_th (zrwl I q1 n1) (zrwl I q2 n2) 0 G' ∧ FR z_thS G0 G' ∧ x_Fin xFL G' ∧ x_Fin xGL G'
theorem zth_no {r : Nat} (h : xSd r) (i : Nat) (hi : i ≤ 4) : r + i ∉ z_thS := fun w => by
  have h1 := sd_b h
  have h2 : r + i = 179 ∨ r + i = 181 ∨ r + i = 182 ∨ r + i = 183 := by simpa [z_thS] using w
  rcases h with ⟨k, k1, rfl⟩ | ⟨k, k1, rfl⟩ <;> omega
theorem l_th_rd1 {G0 : Nat → Nat → Int} (hL : x_SL L) (hM : x_GM L) (x1 : xSd r1) (x2 : xSd r2) (h2 : cSd r2 n2 I q2 G0) :
    ∀ (r i : Nat) (G : Nat → Nat → Int), i + r = n2 → c_th (zrwl I q1 n1) (zrwl I q2 i) 0 G → FR z_thS G0 G → x_Fin xFL G → x_Fin xGL G →
    X mX6_read 1 0 0 (pRd L G0 I q1 q2 n1 n2) 32 [some (vR 179), some (vR r1), some (vR r2), some (vI i)] [] L G 0 0 := by
  have hn := h2.2.1
  intro r
  induction r with
  | zero =>
    intro i G hi h hQ hF hG
    have hi : i = n2 := by omega
    subst hi
    have h2' : cSd r2 i I q2 G := h2.FR hQ (zth_no x2 0 (by decide)) (zth_no x2 1 (by decide)) (zth_no x2 2 (by decide))
    refine x_iloadn (pc := 32) dX6_read_32 rfl ?_
    refine x_aloadn (pc := 33) dX6_read_33 rfl ?_
    refine x_cVI (pc := 34) dX6_read_34 lk_X6_34 (c_Sd_length x2 hL h2') (sd_k x2).1 ⟨by decide, rfl⟩ (sd_m x2 hL 0 (by decide)) (⟨by decide, by decide⟩) (Nat.le_of_ble_eq_true rfl) rfl ?_
    rintro x G' ⟨rfl, rfl⟩
    refine x_cge (tgt := 56) (pc := 37) dX6_read_37 (by decide) (by omega) (fun c_37 => ?_) (fun c_37 => ?_)
    rotate_left
    · skip
      exact absurd c_37 (by omega)
    refine x_rV (pc := 56) dX6_read_56 rfl ?_
    exact ⟨h, hQ, hF, hG⟩
  | succ r ih =>
    intro i G hi h hQ hF hG
    have h2' : cSd r2 n2 I q2 G := h2.FR hQ (zth_no x2 0 (by decide)) (zth_no x2 1 (by decide)) (zth_no x2 2 (by decide))
    have hl := zrwl_len I q2 i
    refine x_iloadn (pc := 32) dX6_read_32 rfl ?_
    refine x_aloadn (pc := 33) dX6_read_33 rfl ?_
    refine x_cVI (pc := 34) dX6_read_34 lk_X6_34 (c_Sd_length x2 hL h2') (sd_k x2).1 ⟨by decide, rfl⟩ (sd_m x2 hL 0 (by decide)) (⟨by decide, by decide⟩) (Nat.le_of_ble_eq_true rfl) rfl ?_
    rintro x G' ⟨rfl, rfl⟩
    refine x_cge (tgt := 56) (pc := 37) dX6_read_37 (by decide) (by omega) (fun c_37 => ?_) (fun c_37 => ?_)
    · skip
      exact absurd c_37 (by omega)
    refine x_aloadn (pc := 40) dX6_read_40 rfl ?_
    refine x_iconst (pc := 41) dX6_read_41 ?_
    refine x_aloadn (pc := 42) dX6_read_42 rfl ?_
    refine x_iloadn (pc := 43) dX6_read_43 rfl ?_
    refine x_cVI (pc := 44) dX6_read_44 lk_X6_40 (c_Sd_at (a := (i : Int)) x2 hL hF h2' (by omega)) (sd_k x2).1 ⟨by decide, rfl⟩ (sd_m x2 hL 0 (by decide)) (⟨by decide, by decide⟩) (Nat.le_of_ble_eq_true rfl) rfl ?_
    rintro x G' ⟨rfl, rfl⟩
    rw [if_pos (by omega), Int.toNat_natCast]
    refine x_cVV (pc := 47) dX6_read_47 lk_X6_44 (c_th_add1 hL hM hF hG h (by omega)) k_179 ⟨by decide, rfl⟩ (hM 179 (by decide) (by decide)) (⟨by decide, by decide⟩) (Nat.le_of_ble_eq_true rfl) rfl ?_
    rintro G2 ⟨k1, k2, hF, hG⟩
    refine x_iinc (pc := 50) dX6_read_50 rfl (by decide) rfl ?_
    refine x_goto (tgt := 32) (pc := 53) dX6_read_53 (by decide) ?_
    exact ih (i + 1) G2 (by omega) (by rw [zrwl_s]; exact k1) (hQ.tr k2) hF hG
theorem l_th_rd0 {G0 : Nat → Nat → Int} (hL : x_SL L) (hM : x_GM L) (x1 : xSd r1) (x2 : xSd r2) (h1 : cSd r1 n1 I q1 G0) (h2 : cSd r2 n2 I q2 G0) :
    ∀ (r i : Nat) (G : Nat → Nat → Int), i + r = n1 → c_th (zrwl I q1 i) [] 0 G → FR z_thS G0 G → x_Fin xFL G → x_Fin xGL G →
    X mX6_read 1 0 0 (pRd L G0 I q1 q2 n1 n2) 6 [some (vR 179), some (vR r1), some (vR r2), some (vI i)] [] L G 0 0 := by
  have hn := h1.2.1
  intro r
  induction r with
  | zero =>
    intro i G hi h hQ hF hG
    have hi : i = n1 := by omega
    subst hi
    have h1' : cSd r1 i I q1 G := h1.FR hQ (zth_no x1 0 (by decide)) (zth_no x1 1 (by decide)) (zth_no x1 2 (by decide))
    refine x_iloadn (pc := 6) dX6_read_6 rfl ?_
    refine x_aloadn (pc := 7) dX6_read_7 rfl ?_
    refine x_cVI (pc := 8) dX6_read_8 lk_X6_34 (c_Sd_length x1 hL h1') (sd_k x1).1 ⟨by decide, rfl⟩ (sd_m x1 hL 0 (by decide)) (⟨by decide, by decide⟩) (Nat.le_of_ble_eq_true rfl) rfl ?_
    rintro x G' ⟨rfl, rfl⟩
    refine x_cge (tgt := 30) (pc := 11) dX6_read_11 (by decide) (by omega) (fun c_11 => ?_) (fun c_11 => ?_)
    rotate_left
    · skip
      exact absurd c_11 (by omega)
    refine x_iconst (pc := 30) dX6_read_30 ?_
    refine x_istoren (pc := 31) dX6_read_31 rfl (by decide) rfl ?_
    exact l_th_rd1 hL hM x1 x2 h2 n2 0 _ (Nat.zero_add _) h hQ hF hG
  | succ r ih =>
    intro i G hi h hQ hF hG
    have h1' : cSd r1 n1 I q1 G := h1.FR hQ (zth_no x1 0 (by decide)) (zth_no x1 1 (by decide)) (zth_no x1 2 (by decide))
    have hl := zrwl_len I q1 i
    refine x_iloadn (pc := 6) dX6_read_6 rfl ?_
    refine x_aloadn (pc := 7) dX6_read_7 rfl ?_
    refine x_cVI (pc := 8) dX6_read_8 lk_X6_34 (c_Sd_length x1 hL h1') (sd_k x1).1 ⟨by decide, rfl⟩ (sd_m x1 hL 0 (by decide)) (⟨by decide, by decide⟩) (Nat.le_of_ble_eq_true rfl) rfl ?_
    rintro x G' ⟨rfl, rfl⟩
    refine x_cge (tgt := 30) (pc := 11) dX6_read_11 (by decide) (by omega) (fun c_11 => ?_) (fun c_11 => ?_)
    · skip
      exact absurd c_11 (by omega)
    refine x_aloadn (pc := 14) dX6_read_14 rfl ?_
    refine x_iconst (pc := 15) dX6_read_15 ?_
    refine x_aloadn (pc := 16) dX6_read_16 rfl ?_
    refine x_iloadn (pc := 17) dX6_read_17 rfl ?_
    refine x_cVI (pc := 18) dX6_read_18 lk_X6_40 (c_Sd_at (a := (i : Int)) x1 hL hF h1' (by omega)) (sd_k x1).1 ⟨by decide, rfl⟩ (sd_m x1 hL 0 (by decide)) (⟨by decide, by decide⟩) (Nat.le_of_ble_eq_true rfl) rfl ?_
    rintro x G' ⟨rfl, rfl⟩
    rw [if_pos (by omega), Int.toNat_natCast]
    refine x_cVV (pc := 21) dX6_read_21 lk_X6_44 (c_th_add0 hL hM hF hG h (by omega)) k_179 ⟨by decide, rfl⟩ (hM 179 (by decide) (by decide)) (⟨by decide, by decide⟩) (Nat.le_of_ble_eq_true rfl) rfl ?_
    rintro G2 ⟨k1, k2, hF, hG⟩
    refine x_iinc (pc := 24) dX6_read_24 rfl (by decide) rfl ?_
    refine x_goto (tgt := 6) (pc := 27) dX6_read_27 (by decide) ?_
    exact ih (i + 1) G2 (by omega) (by rw [zrwl_s]; exact k1) (hQ.tr k2) hF hG
theorem c_th_read {G : Nat → Nat → Int} (hL : x_SL L) (hM : x_GM L) (hF : x_Fin xFL G) (hG : x_Fin xGL G) (x1 : xSd r1) (x2 : xSd r2) (h1 : cSd r1 n1 I q1 G) (h2 : cSd r2 n2 I q2 G) :
    CM yX6_read mX6_read 1 0 0 [vR 179, vR r1, vR r2] L G (pRd L G I q1 q2 n1 n2) := by
  refine Ct.of_X (μ := mX6_read) rfl rfl (by decide) (fun h => by cases h) (Nat.le_of_ble_eq_true rfl) rfl ?_
  refine x_aloadn (pc := 0) dX6_read_0 rfl ?_
  refine x_cVV (pc := 1) dX6_read_1 lk_X6_31 (c_th_begin hL hM hF hG) k_179 ⟨by decide, rfl⟩ (hM 179 (by decide) (by decide)) (⟨by decide, by decide⟩) (Nat.le_of_ble_eq_true rfl) rfl ?_
  rintro G1 ⟨k1, k2, hF, hG⟩
  refine x_iconst (pc := 4) dX6_read_4 ?_
  refine x_istoren (pc := 5) dX6_read_5 rfl (by decide) rfl ?_
  exact l_th_rd0 hL hM x1 x2 h1 h2 n1 0 G1 (Nat.zero_add _) k1 k2 hF hG
end XRD
end XPU

