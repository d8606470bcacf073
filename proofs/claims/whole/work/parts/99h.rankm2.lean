/-! the reference's rankNow -/
def zrmo (g a T : Nat → Nat) (p : Nat) : Prop := zbt (a (g p)) (T p) = 1 ∧ T (g p) = T p
def zrm (g a T : Nat → Nat) : Nat → Nat
  | 0 => 0
  | p + 1 => if g p = p then zrm g a T p * zpop (a p) + zps (a p) (T p) else zrm g a T p
theorem zmin_mul {A P s M : Nat} (h : 1 ≤ P) : min (min A M * P + s) M = min (A * P + s) M := by
  rcases Nat.le_total A M with c | c
  · rw [Nat.min_eq_left c]
  · rw [Nat.min_eq_right c]
    have h1 : M ≤ M * P := Nat.le_mul_of_pos_right M h
    have h2 : A ≤ A * P := Nat.le_mul_of_pos_right A h
    omega
section XRN
variable {L : List Nat} {z tn g a : Nat → Nat} {tw : Nat → Int}
theorem l_mo_less0 {Q : x_Q} {a l x : Nat} {w1 w3 : Int} {o7 : Option (Nat × Int)} {G : Nat → Nat → Int} (hL : x_SL L) (hF : x_Fin xFL G) (hc : G 147 x = ((a : Nat) : Int)) (ha : a < 8) (hx : x < 35) (hl : l < 4) {n : Int}
    (cont : X mX12_rankNow 1 0 0 Q 136 [some (vR 127), some (vL w1), none, some (vL w3), none, some (vI x), some (vI l), o7, some (vI n), some (vI ((zps a l : Nat) : Int)), some (vI l)] [] L G 0 0) :
    X mX12_rankNow 1 0 0 Q 106 [some (vR 127), some (vL w1), none, some (vL w3), none, some (vI x), some (vI l), o7, some (vI n), some (vI 0), some (vI 0)] [] L G 0 0 :=
  l_mo_less (o6 := none) (o8 := none) hL hF hc ha hx hl cont l 0 (Nat.zero_add l)
theorem l_mo_rkE {Q : x_Q} {w x A P s B l R : Nat} {o7 o10 : Option (Nat × Int)} {G : Nat → Nat → Int} (hBi : ((min A 1000000001 : Nat) : Int) * ((P : Nat) : Int) + ((s : Nat) : Int) = ((B : Nat) : Int)) (hBb : B ≤ 1000000001 * 3 + 3) (hP : P ≤ 3) (hs : s ≤ 3) (hmm : min B 1000000001 = min R 1000000001)
    (cont : X mX12_rankNow 1 0 0 Q 5 [some (vR 127), some (vL w), none, some (vL ((min R 1000000001 : Nat) : Int)), none, some (vI ((x + 1 : Nat) : Int)), some (vI l), o7, some (vI P), some (vI s), o10] [] L G 0 0) :
    X mX12_rankNow 1 0 0 Q 136 [some (vR 127), some (vL w), none, some (vL ((min A 1000000001 : Nat) : Int)), none, some (vI x), some (vI l), o7, some (vI P), some (vI s), o10] [] L G 0 0 := by
  rw [← hmm] at cont
  refine x_lloadn (pc := 136) dX12_rankNow_136 rfl ?_
  refine x_iload (pc := 137) dX12_rankNow_137 rfl ?_
  refine x_i2l (pc := 139) dX12_rankNow_139 (by omega) ?_
  refine x_lmul (pc := 140) dX12_rankNow_140 ?_
  refine x_iload (pc := 141) dX12_rankNow_141 rfl ?_
  refine x_i2l (pc := 143) dX12_rankNow_143 (by omega) ?_
  refine x_ladd (pc := 144) dX12_rankNow_144 ?_
  rw [hBi]
  refine x_ldc2 (pc := 145) dX12_rankNow_145 co_X12_186 ?_
  refine x_lcmp (pc := 148) dX12_rankNow_148 (by omega) ?_
  refine x_ile (tgt := 158) (pc := 149) dX12_rankNow_149 (by decide) (zl_rg) (fun c_149 => ?_) (fun c_149 => ?_)
  · skip
    have c_149 := zl_le c_149
    refine x_lloadn (pc := 158) dX12_rankNow_158 rfl ?_
    refine x_iload (pc := 159) dX12_rankNow_159 rfl ?_
    refine x_i2l (pc := 161) dX12_rankNow_161 (by omega) ?_
    refine x_lmul (pc := 162) dX12_rankNow_162 ?_
    refine x_iload (pc := 163) dX12_rankNow_163 rfl ?_
    refine x_i2l (pc := 165) dX12_rankNow_165 (by omega) ?_
    refine x_ladd (pc := 166) dX12_rankNow_166 ?_
    rw [hBi]
    refine x_lstoren (pc := 167) dX12_rankNow_167 rfl (by decide) rfl ?_
    refine x_iinc (pc := 168) dX12_rankNow_168 rfl (by decide) rfl ?_
    refine x_goto (tgt := 5) (pc := 171) dX12_rankNow_171 (by decide) ?_
    first
    | (rw [show min B 1000000001 = 1000000001 by omega] at cont; exact cont)
    | (rw [show min B 1000000001 = B by omega] at cont; exact cont)
  · skip
    have c_149 := zl_g c_149
    refine x_ldc2 (pc := 152) dX12_rankNow_152 co_X12_186 ?_
    refine x_goto (tgt := 167) (pc := 155) dX12_rankNow_155 (by decide) ?_
    refine x_lstoren (pc := 167) dX12_rankNow_167 rfl (by decide) rfl ?_
    refine x_iinc (pc := 168) dX12_rankNow_168 rfl (by decide) rfl ?_
    refine x_goto (tgt := 5) (pc := 171) dX12_rankNow_171 (by decide) ?_
    first
    | (rw [show min B 1000000001 = 1000000001 by omega] at cont; exact cont)
    | (rw [show min B 1000000001 = B by omega] at cont; exact cont)
abbrev pRm (L : List Nat) (G : Nat → Nat → Int) (N w : Nat) (g a T : Nat → Nat) : x_Q := qI L fun x G' => (((∀ p, p < N → zrmo g a T p) ∧ x = ((min (w + zrm g a T N) 1000000001 : Nat) : Int)) ∨ ((¬ ∀ p, p < N → zrmo g a T p) ∧ x = -1)) ∧ G' = G
theorem l_mo_rkN {w : Nat} {G : Nat → Nat → Int} (hL : x_SL L) (hF : x_Fin xFL G) (hz : mFL z G) (hb : mBg z G) (hT : mTd tw tn G) (hw : w < 4611686018427387904) (hp : G 127 22 = ((zbg z 4 : Nat) : Int)) (hU : mLd g G) (hc : ∀ x, x < zbg z 4 → g x = x → G 147 x = ((a x : Nat) : Int) ∧ a x < 8 ∧ a x ≠ 0) :
    ∀ (r x : Nat) (o6 o7 o8 o9 o10 : Option (Nat × Int)), x + r = zbg z 4 → (∀ p, p < x → zrmo g a (zTp z tw) p) →
    X mX12_rankNow 1 0 0 (pRm L G (zbg z 4) w g a (zTp z tw)) 5 [some (vR 127), some (vL w), none, some (vL ((min (zrm g a (zTp z tw) x) 1000000001 : Nat) : Int)), none, some (vI x), o6, o7, o8, o9, o10] [] L G 0 0 := by
  have hN := zbg_4 (fun u hu => (hz u hu).2) 4 (Nat.le_refl _)
  intro r
  induction r with
  | zero =>
    intro x o6 o7 o8 o9 o10 hx hok
    have hx : x = zbg z 4 := by omega
    subst hx
    obtain ⟨A, hA⟩ : ∃ A, A = zrm g a (zTp z tw) (zbg z 4) := ⟨_, rfl⟩
    rw [← hA]
    refine x_iload (pc := 5) dX12_rankNow_5 rfl ?_
    refine x_aloadn (pc := 7) dX12_rankNow_7 rfl ?_
    refine x_getI (pc := 8) dX12_rankNow_8 fl_X12_172 k_127 (hL 127 (by decide) (by decide)) ?_
    rw [hp]
    refine x_cge (tgt := 174) (pc := 11) dX12_rankNow_11 (by decide) (by omega) (fun c_11 => ?_) (fun c_11 => ?_)
    rotate_left
    · skip
      exact absurd c_11 (by omega)
    refine x_lloadn (pc := 174) dX12_rankNow_174 rfl ?_
    refine x_lloadn (pc := 175) dX12_rankNow_175 rfl ?_
    refine x_ladd (pc := 176) dX12_rankNow_176 ?_
    refine x_ldc2 (pc := 177) dX12_rankNow_177 co_X12_221 ?_
    refine x_lcmp (pc := 180) dX12_rankNow_180 (by omega) ?_
    refine x_ile (tgt := 189) (pc := 181) dX12_rankNow_181 (by decide) (zl_rg) (fun c_181 => ?_) (fun c_181 => ?_)
    · skip
      have c_181 := zl_le c_181
      refine x_lloadn (pc := 189) dX12_rankNow_189 rfl ?_
      refine x_lloadn (pc := 190) dX12_rankNow_190 rfl ?_
      refine x_ladd (pc := 191) dX12_rankNow_191 ?_
      refine x_l2i (pc := 192) dX12_rankNow_192 ?_
      refine x_rI (pc := 193) dX12_rankNow_193 rfl ?_
      exact ⟨Or.inl ⟨hok, by rw [← hA]; omega⟩, rfl⟩
    · skip
      have c_181 := zl_g c_181
      refine x_ldc (pc := 184) dX12_rankNow_184 co_X12_223 ?_
      refine x_goto (tgt := 193) (pc := 186) dX12_rankNow_186 (by decide) ?_
      refine x_rI (pc := 193) dX12_rankNow_193 rfl ?_
      exact ⟨Or.inl ⟨hok, by rw [← hA]; omega⟩, rfl⟩
  | succ r ih =>
    intro x o6 o7 o8 o9 o10 hx hok
    obtain ⟨l, l1, l2, l3, l4, l5, l6⟩ := hU x (by omega)
    have hTx := zTp_le (z := z) (tw := tw) x
    have hok2 : zrmo g a (zTp z tw) x → ∀ p, p < x + 1 → zrmo g a (zTp z tw) p := fun q p hp => by
      by_cases e : p = x
      · rw [e]; exact q
      · exact hok p (by omega)
    have hrs : zrm g a (zTp z tw) (x + 1) = if g x = x then zrm g a (zTp z tw) x * zpop (a x) + zps (a x) (zTp z tw x) else zrm g a (zTp z tw) x := rfl
    obtain ⟨A, hA⟩ : ∃ A, A = zrm g a (zTp z tw) x := ⟨_, rfl⟩
    rw [← hA] at hrs ⊢
    have bad : ¬ zrmo g a (zTp z tw) x → ¬ ∀ p, p < zbg z 4 → zrmo g a (zTp z tw) p := fun w q => w (q x (by omega))
    by_cases c : g x = x
    · obtain ⟨k1, k2, k3⟩ := hc x (by omega) c
      have hpo := zpop_i k2
      have h3 := zpop_3 _ k2
      have hnz := zpop_nz _ k2 k3
      have hbz := zbt_01 (a x) (zTp z tw x)
      have hbi := zbt_int (a := a x) (n := zTp z tw x)
      have hz0 : zps (a x) 0 = 0 := rfl
      have hs3 : zps (a x) (zTp z tw x) ≤ 3 := by
        have hall : ∀ a, a < 8 → ∀ l, l < 4 → zps a l ≤ 3 := by decide
        exact hall _ k2 _ (by omega)
      rw [if_pos c] at hrs
      obtain ⟨P, hP⟩ : ∃ R, R = zpop (a x) := ⟨_, rfl⟩
      obtain ⟨s, hs⟩ : ∃ R, R = zps (a x) (zTp z tw x) := ⟨_, rfl⟩
      rw [← hP, ← hs] at hrs
      rw [← hP] at hpo h3 hnz
      rw [← hs] at hs3
      have hmm := zmin_mul (A := A) (P := P) (s := s) (M := 1000000001) (by omega)
      rw [← hrs] at hmm
      obtain ⟨B, hB⟩ : ∃ B, B = min A 1000000001 * P + s := ⟨_, rfl⟩
      have hBb : B ≤ 1000000001 * 3 + 3 := by
        have h1 : min A 1000000001 * P ≤ 1000000001 * 3 := Nat.mul_le_mul (Nat.min_le_right _ _) h3
        omega
      have hBi : ((min A 1000000001 : Nat) : Int) * ((P : Nat) : Int) + ((s : Nat) : Int) = ((B : Nat) : Int) := by rw [hB, Int.natCast_add, Int.natCast_mul]
      rw [← hB] at hmm
      have ihx := fun (o6 o7 o8 o9 o10 : Option (Nat × Int)) hq => ih (x + 1) o6 o7 o8 o9 o10 (by omega) (hok2 hq)
      refine x_iload (pc := 5) dX12_rankNow_5 rfl ?_
      refine x_aloadn (pc := 7) dX12_rankNow_7 rfl ?_
      refine x_getI (pc := 8) dX12_rankNow_8 fl_X12_172 k_127 (hL 127 (by decide) (by decide)) ?_
      rw [hp]
      refine x_cge (tgt := 174) (pc := 11) dX12_rankNow_11 (by decide) (by omega) (fun c_11 => ?_) (fun c_11 => ?_)
      · skip
        exact absurd c_11 (by omega)
      refine x_aloadn (pc := 14) dX12_rankNow_14 rfl ?_
      refine x_iload (pc := 15) dX12_rankNow_15 rfl ?_
      refine x_cVI (pc := 17) dX12_rankNow_17 lk_X12_218 (c_mo_toldAt (p := x) hL hF hz hb hT (by omega)) k_127 ⟨by decide, rfl⟩ (hL 127 (by decide) (by decide)) (⟨by decide, by decide⟩) (Nat.le_of_ble_eq_true rfl) rfl ?_
      rintro x G' ⟨rfl, rfl⟩
      refine x_istore (pc := 20) dX12_rankNow_20 (by decide) rfl ?_
      refine x_aloadn (pc := 22) dX12_rankNow_22 rfl ?_
      refine x_iload (pc := 23) dX12_rankNow_23 rfl ?_
      refine x_cVI (pc := 25) dX12_rankNow_25 lk_X12_166 (c_mo_leadOf (x := x) hL hF hU (by omega)) k_127 ⟨by decide, rfl⟩ (hL 127 (by decide) (by decide)) (⟨by decide, by decide⟩) (Nat.le_of_ble_eq_true rfl) rfl ?_
      rintro x G' ⟨rfl, rfl⟩
      rw [c]
      refine x_istore (pc := 28) dX12_rankNow_28 (by decide) rfl ?_
      refine x_aloadn (pc := 30) dX12_rankNow_30 rfl ?_
      refine x_getR (147) (pc := 31) dX12_rankNow_31 fl_X12_67 k_127 (hL 127 (by decide) (by decide)) (f_127_24 hF) ?_
      refine x_iload (pc := 34) dX12_rankNow_34 rfl ?_
      refine x_iald (x) (pc := 36) dX12_rankNow_36 k_147 (hL 147 (by decide) (by decide)) (⟨by omega, by omega, by decide⟩) ?_
      rw [k1]
      refine x_iload (pc := 37) dX12_rankNow_37 rfl ?_
      refine x_ishr (pc := 39) dX12_rankNow_39 (zTp z tw x) rfl (by omega) (by omega) ?_
      refine x_iconst (pc := 40) dX12_rankNow_40 ?_
      refine x_iandm (pc := 41) dX12_rankNow_41 1 2 (by decide) (by decide) (by decide) ?_
      rw [hbi]
      refine x_ieq (tgt := 56) (pc := 42) dX12_rankNow_42 (by decide) (by omega) (fun c_42 => ?_) (fun c_42 => ?_)
      · skip
        refine x_iconst (pc := 56) dX12_rankNow_56 ?_
        refine x_rI (pc := 57) dX12_rankNow_57 rfl ?_
        exact ⟨Or.inr ⟨bad (fun w => by have h1 := w.1; rw [c] at h1; omega), rfl⟩, rfl⟩
      · skip
        refine x_aloadn (pc := 45) dX12_rankNow_45 rfl ?_
        refine x_iload (pc := 46) dX12_rankNow_46 rfl ?_
        refine x_cVI (pc := 48) dX12_rankNow_48 lk_X12_218 (c_mo_toldAt (p := x) hL hF hz hb hT (by omega)) k_127 ⟨by decide, rfl⟩ (hL 127 (by decide) (by decide)) (⟨by decide, by decide⟩) (Nat.le_of_ble_eq_true rfl) rfl ?_
        rintro x G' ⟨rfl, rfl⟩
        refine x_iload (pc := 51) dX12_rankNow_51 rfl ?_
        refine x_ceq (tgt := 58) (pc := 53) dX12_rankNow_53 (by decide) (by omega) (fun c_53 => ?_) (fun c_53 => ?_)
        rotate_left
        · skip
          exact absurd rfl c_53
        refine x_iload (pc := 58) dX12_rankNow_58 rfl ?_
        refine x_iload (pc := 60) dX12_rankNow_60 rfl ?_
        refine x_cne (tgt := 168) (pc := 62) dX12_rankNow_62 (by decide) (by omega) (fun c_62 => ?_) (fun c_62 => ?_)
        · skip
          exact absurd rfl c_62
        refine x_aloadn (pc := 65) dX12_rankNow_65 rfl ?_
        refine x_getR (147) (pc := 66) dX12_rankNow_66 fl_X12_67 k_127 (hL 127 (by decide) (by decide)) (f_127_24 hF) ?_
        refine x_iload (pc := 69) dX12_rankNow_69 rfl ?_
        refine x_iald (x) (pc := 71) dX12_rankNow_71 k_147 (hL 147 (by decide) (by decide)) (⟨by omega, by omega, by decide⟩) ?_
        rw [k1]
        refine x_iconst (pc := 72) dX12_rankNow_72 ?_
        refine x_iandm (pc := 73) dX12_rankNow_73 1 2 (by decide) (by decide) (by decide) ?_
        refine x_aloadn (pc := 74) dX12_rankNow_74 rfl ?_
        refine x_getR (147) (pc := 75) dX12_rankNow_75 fl_X12_67 k_127 (hL 127 (by decide) (by decide)) (f_127_24 hF) ?_
        refine x_iload (pc := 78) dX12_rankNow_78 rfl ?_
        refine x_iald (x) (pc := 80) dX12_rankNow_80 k_147 (hL 147 (by decide) (by decide)) (⟨by omega, by omega, by decide⟩) ?_
        rw [k1]
        refine x_iconst (pc := 81) dX12_rankNow_81 ?_
        refine x_ishr (pc := 82) dX12_rankNow_82 1 (by decide) (by decide) (by omega) ?_
        refine x_iconst (pc := 83) dX12_rankNow_83 ?_
        refine x_iandm (pc := 84) dX12_rankNow_84 1 2 (by decide) (by decide) (by decide) ?_
        refine x_iadd (pc := 85) dX12_rankNow_85 ?_
        refine x_aloadn (pc := 86) dX12_rankNow_86 rfl ?_
        refine x_getR (147) (pc := 87) dX12_rankNow_87 fl_X12_67 k_127 (hL 127 (by decide) (by decide)) (f_127_24 hF) ?_
        refine x_iload (pc := 90) dX12_rankNow_90 rfl ?_
        refine x_iald (x) (pc := 92) dX12_rankNow_92 k_147 (hL 147 (by decide) (by decide)) (⟨by omega, by omega, by decide⟩) ?_
        rw [k1]
        refine x_iconst (pc := 93) dX12_rankNow_93 ?_
        refine x_ishr (pc := 94) dX12_rankNow_94 2 (by decide) (by decide) (by omega) ?_
        refine x_iconst (pc := 95) dX12_rankNow_95 ?_
        refine x_iandm (pc := 96) dX12_rankNow_96 1 2 (by decide) (by decide) (by decide) ?_
        refine x_iadd (pc := 97) dX12_rankNow_97 ?_
        rw [hpo]
        refine x_istore (pc := 98) dX12_rankNow_98 (by decide) rfl ?_
        refine x_iconst (pc := 100) dX12_rankNow_100 ?_
        refine x_istore (pc := 101) dX12_rankNow_101 (by decide) rfl ?_
        refine x_iconst (pc := 103) dX12_rankNow_103 ?_
        refine x_istore (pc := 104) dX12_rankNow_104 (by decide) rfl ?_
        have hq : zrmo g a (zTp z tw) x := ⟨by rw [c]; omega, by rw [c]⟩
        refine l_mo_less0 (a := a x) (l := zTp z tw x) (x := x) hL hF k1 k2 (by omega) (by omega) ?_
        rw [← hs]
        exact l_mo_rkE hBi hBb h3 hs3 hmm (ihx _ _ _ _ _ hq)
    · obtain ⟨g1, g2⟩ : g x < x ∧ g (g x) = g x := ⟨by omega, l6⟩
      rw [if_neg c] at hrs
      obtain ⟨D, hD⟩ : ∃ D, D = g x := ⟨_, rfl⟩
      rw [← hD] at g1 g2
      obtain ⟨k1, k2, k3⟩ := hc D (by omega) g2
      have hbz := zbt_01 (a D) (zTp z tw x)
      have hbi := zbt_int (a := a D) (n := zTp z tw x)
      have hTd := zTp_le (z := z) (tw := tw) D
      refine x_iload (pc := 5) dX12_rankNow_5 rfl ?_
      refine x_aloadn (pc := 7) dX12_rankNow_7 rfl ?_
      refine x_getI (pc := 8) dX12_rankNow_8 fl_X12_172 k_127 (hL 127 (by decide) (by decide)) ?_
      rw [hp]
      refine x_cge (tgt := 174) (pc := 11) dX12_rankNow_11 (by decide) (by omega) (fun c_11 => ?_) (fun c_11 => ?_)
      · skip
        exact absurd c_11 (by omega)
      refine x_aloadn (pc := 14) dX12_rankNow_14 rfl ?_
      refine x_iload (pc := 15) dX12_rankNow_15 rfl ?_
      refine x_cVI (pc := 17) dX12_rankNow_17 lk_X12_218 (c_mo_toldAt (p := x) hL hF hz hb hT (by omega)) k_127 ⟨by decide, rfl⟩ (hL 127 (by decide) (by decide)) (⟨by decide, by decide⟩) (Nat.le_of_ble_eq_true rfl) rfl ?_
      rintro x G' ⟨rfl, rfl⟩
      refine x_istore (pc := 20) dX12_rankNow_20 (by decide) rfl ?_
      refine x_aloadn (pc := 22) dX12_rankNow_22 rfl ?_
      refine x_iload (pc := 23) dX12_rankNow_23 rfl ?_
      refine x_cVI (pc := 25) dX12_rankNow_25 lk_X12_166 (c_mo_leadOf (x := x) hL hF hU (by omega)) k_127 ⟨by decide, rfl⟩ (hL 127 (by decide) (by decide)) (⟨by decide, by decide⟩) (Nat.le_of_ble_eq_true rfl) rfl ?_
      rintro x G' ⟨rfl, rfl⟩
      rw [← hD]
      refine x_istore (pc := 28) dX12_rankNow_28 (by decide) rfl ?_
      refine x_aloadn (pc := 30) dX12_rankNow_30 rfl ?_
      refine x_getR (147) (pc := 31) dX12_rankNow_31 fl_X12_67 k_127 (hL 127 (by decide) (by decide)) (f_127_24 hF) ?_
      refine x_iload (pc := 34) dX12_rankNow_34 rfl ?_
      refine x_iald (D) (pc := 36) dX12_rankNow_36 k_147 (hL 147 (by decide) (by decide)) (⟨by omega, by omega, by decide⟩) ?_
      rw [k1]
      refine x_iload (pc := 37) dX12_rankNow_37 rfl ?_
      refine x_ishr (pc := 39) dX12_rankNow_39 (zTp z tw x) rfl (by omega) (by omega) ?_
      refine x_iconst (pc := 40) dX12_rankNow_40 ?_
      refine x_iandm (pc := 41) dX12_rankNow_41 1 2 (by decide) (by decide) (by decide) ?_
      rw [hbi]
      refine x_ieq (tgt := 56) (pc := 42) dX12_rankNow_42 (by decide) (by omega) (fun c_42 => ?_) (fun c_42 => ?_)
      · skip
        refine x_iconst (pc := 56) dX12_rankNow_56 ?_
        refine x_rI (pc := 57) dX12_rankNow_57 rfl ?_
        exact ⟨Or.inr ⟨bad (fun w => by have h1 := w.1; have h2 := w.2; rw [← hD] at h1 h2; omega), rfl⟩, rfl⟩
      · skip
        refine x_aloadn (pc := 45) dX12_rankNow_45 rfl ?_
        refine x_iload (pc := 46) dX12_rankNow_46 rfl ?_
        refine x_cVI (pc := 48) dX12_rankNow_48 lk_X12_218 (c_mo_toldAt (p := D) hL hF hz hb hT (by omega)) k_127 ⟨by decide, rfl⟩ (hL 127 (by decide) (by decide)) (⟨by decide, by decide⟩) (Nat.le_of_ble_eq_true rfl) rfl ?_
        rintro x G' ⟨rfl, rfl⟩
        refine x_iload (pc := 51) dX12_rankNow_51 rfl ?_
        refine x_ceq (tgt := 58) (pc := 53) dX12_rankNow_53 (by decide) (by omega) (fun c_53 => ?_) (fun c_53 => ?_)
        · skip
          refine x_iload (pc := 58) dX12_rankNow_58 rfl ?_
          refine x_iload (pc := 60) dX12_rankNow_60 rfl ?_
          refine x_cne (tgt := 168) (pc := 62) dX12_rankNow_62 (by decide) (by omega) (fun c_62 => ?_) (fun c_62 => ?_)
          rotate_left
          · skip
            exact absurd c_62 (by omega)
          refine x_iinc (pc := 168) dX12_rankNow_168 rfl (by decide) rfl ?_
          refine x_goto (tgt := 5) (pc := 171) dX12_rankNow_171 (by decide) ?_
          have e := ih (x + 1) (some (vI ((zTp z tw x : Nat) : Int))) (some (vI ((D : Nat) : Int))) o8 o9 o10 (by omega) (hok2 ⟨by rw [← hD]; omega, by rw [← hD]; omega⟩)
          rw [hrs] at e
          exact e
        · skip
          refine x_iconst (pc := 56) dX12_rankNow_56 ?_
          refine x_rI (pc := 57) dX12_rankNow_57 rfl ?_
          exact ⟨Or.inr ⟨bad (fun w => by have h1 := w.1; have h2 := w.2; rw [← hD] at h1 h2; omega), rfl⟩, rfl⟩
theorem c_mo_rankNow {w : Nat} {G : Nat → Nat → Int} (hL : x_SL L) (hF : x_Fin xFL G) (hz : mFL z G) (hb : mBg z G) (hT : mTd tw tn G) (hw : w < 4611686018427387904) (hp : G 127 22 = ((zbg z 4 : Nat) : Int)) (hU : mLd g G) (hc : ∀ x, x < zbg z 4 → g x = x → G 147 x = ((a x : Nat) : Int) ∧ a x < 8 ∧ a x ≠ 0) :
    CM yX12_rankNow mX12_rankNow 1 0 0 [vR 127, vL w] L G (pRm L G (zbg z 4) w g a (zTp z tw)) := by
  refine Ct.of_X (μ := mX12_rankNow) rfl rfl (by decide) (fun h => by cases h) (Nat.le_of_ble_eq_true rfl) rfl ?_
  refine x_lconst (x := 0) (pc := 0) dX12_rankNow_0 (by decide) ?_
  refine x_lstoren (pc := 1) dX12_rankNow_1 rfl (by decide) rfl ?_
  refine x_iconst (pc := 2) dX12_rankNow_2 ?_
  refine x_istore (pc := 3) dX12_rankNow_3 (by decide) rfl ?_
  exact l_mo_rkN hL hF hz hb hT hw hp hU hc (zbg z 4) 0 none none none none none (by omega) (fun p hp => absurd hp (Nat.not_lt_zero p))
end XRN

