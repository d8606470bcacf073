/-! the reference: rings, walked -/
def zdl (T : Nat → Int) (ld : Nat → Nat) (x k : Nat) : Nat → Nat
  | 0 => 0
  | j + 1 => zdl T ld x k j + (if ld x = 1 ∧ T (4 * k + j) = ((x : Nat) : Int) then 1 else 0)
section XRW
variable {L : List Nat} {n : Nat} {T : Nat → Int} {B : Nat → Prop} {ld : Nat → Nat}
theorem zoc_dl {off : Nat → Nat} {x k : Nat} (h0 : off x = 0) : ∀ j, zoc T ld off k j = zoc T ld (zup off x 1) k j + zdl T ld x k j
  | 0 => rfl
  | j + 1 => by
    have ih := zoc_dl (k := k) h0 j
    rw [zoc, zoc, zdl]
    by_cases c : ld x = 1
    · have e := zoe_up (T := T) (e := 4 * k + j) h0 c
      by_cases d : T (4 * k + j) = ((x : Nat) : Int)
      · rw [if_pos d] at e; rw [if_pos ⟨c, d⟩]; omega
      · rw [if_neg d] at e; rw [if_neg (fun w => d w.2)]; omega
    · have e := zoe_no (T := T) (off := off) (e := 4 * k + j) c
      rw [if_neg (fun w => c w.1)]; omega
def mLg (n : Nat) (ld : Nat → Nat) (G : Nat → Nat → Int) : Prop := ∀ k, k < n → (G 153 k = -1 ∧ ld k = 0) ∨ (0 ≤ G 153 k ∧ G 153 k < 1000000 ∧ ld k = 1)
theorem mLg.FM {S F : List Nat} {G G' : Nat → Nat → Int} (h : mLg n ld G) (k : FM S F G G') (h1 : 153 ∉ S) : mLg n ld G' := fun j hj => by
  rw [k 153 _ h1 (fun w => absurd w (by decide))]; exact h j hj
abbrev pTkm (L : List Nat) (G0 : Nat → Nat → Int) (n : Nat) (T : Nat → Int) (ld : Nat → Nat) (x : Nat) : x_Q := qV L fun G' => (∀ k, k < n → G' 157 k = G0 157 k - ((zdl T ld x k 4 : Nat) : Int)) ∧ FM [157] [] G0 G' ∧ x_Fin xFL G'
theorem l_mo_tkJ {Q : x_Q} {x k : Nat} {G0 : Nat → Nat → Int} (hL : x_SL L) (ht : mTg n T G0) (hT : ∀ e, e < 4 * n → T e = -1 ∨ (0 ≤ T e ∧ T e < n)) (hlg : mLg n ld G0) (hld : ∀ y, y < n → (ld y = 1 ↔ zLe n T B y)) (hx : x < n) (hk : k < n) {V : Int}
    (cont : ∀ G : Nat → Nat → Int, G 157 k = V - ((zdl T ld x k 4 : Nat) : Int) → (∀ k', k' ≠ k → G 157 k' = G0 157 k') → FM [157] [] G0 G → x_Fin xFL G → X mX12_takeOff 0 0 0 Q 71 [some (vR 127), some (vI x), some (vI k), some (vI 4)] [] L G 0 0) :
    ∀ (r j : Nat) (G : Nat → Nat → Int), j + r = 4 → G 157 k = V - ((zdl T ld x k j : Nat) : Int) → (∀ k', k' ≠ k → G 157 k' = G0 157 k') → FM [157] [] G0 G → x_Fin xFL G →
    X mX12_takeOff 0 0 0 Q 12 [some (vR 127), some (vI x), some (vI k), some (vI j)] [] L G 0 0 := by
  have hn := ht.2.1
  intro r
  induction r with
  | zero =>
    intro j G hj ho ho2 hQ hF
    have hj : j = 4 := by omega
    subst hj
    refine x_iloadn (pc := 12) dX12_takeOff_12 rfl ?_
    refine x_iconst (pc := 13) dX12_takeOff_13 ?_
    refine x_cge (tgt := 71) (pc := 14) dX12_takeOff_14 (by decide) (by omega) (fun c_14 => ?_) (fun c_14 => ?_)
    rotate_left
    · skip
      exact absurd c_14 (by decide)
    exact cont G ho ho2 hQ hF
  | succ r ih =>
    intro j G hj ho ho2 hQ hF
    have ht' := ht.FM hQ (by decide) (by decide) (by decide)
    have hlg' := hlg.FM hQ (by decide)
    have hei : 4 * ((k : Nat) : Int) + ((j : Nat) : Int) = ((4 * k + j : Nat) : Int) := by omega
    have hTe := ht'.2.2 (4 * k + j) (by omega)
    have hTb : -1 ≤ T (4 * k + j) ∧ T (4 * k + j) < n := by rcases hT (4 * k + j) (by omega) with w | w <;> omega
    have hz : zdl T ld x k (j + 1) = zdl T ld x k j + (if ld x = 1 ∧ T (4 * k + j) = ((x : Nat) : Int) then 1 else 0) := rfl
    have hkx : ld x = 1 → T (4 * k + j) = ((x : Nat) : Int) → ld k = 1 := fun w1 w2 => (hld k hk).mpr (((hld x hx).mp w1).bk hk (by omega) w2)
    have dk := hlg' k hk
    have dx := hlg' x hx
    have ihx := ih (j + 1)
    rw [hz] at ihx
    obtain ⟨te, hte⟩ : ∃ te, te = T (4 * k + j) := ⟨_, rfl⟩
    rw [← hte] at hTe hTb hkx ihx
    refine x_iloadn (pc := 12) dX12_takeOff_12 rfl ?_
    refine x_iconst (pc := 13) dX12_takeOff_13 ?_
    refine x_cge (tgt := 71) (pc := 14) dX12_takeOff_14 (by decide) (by omega) (fun c_14 => ?_) (fun c_14 => ?_)
    · skip
      exact absurd c_14 (by omega)
    refine x_aloadn (pc := 17) dX12_takeOff_17 rfl ?_
    refine x_getR (157) (pc := 18) dX12_takeOff_18 fl_X12_99 k_127 (hL 127 (by decide) (by decide)) (f_127_41 hF) ?_
    refine x_iloadn (pc := 21) dX12_takeOff_21 rfl ?_
    refine x_dup2 (pc := 22) dX12_takeOff_22 (fun h => by cases h) (fun h => by cases h) ?_
    refine x_iald (k) (pc := 23) dX12_takeOff_23 k_157 (hL 157 (by decide) (by decide)) (⟨by omega, by omega, by decide⟩) ?_
    rw [ho]
    refine x_aloadn (pc := 24) dX12_takeOff_24 rfl ?_
    refine x_getR (153) (pc := 25) dX12_takeOff_25 fl_X12_87 k_127 (hL 127 (by decide) (by decide)) (f_127_31 hF) ?_
    refine x_iloadn (pc := 28) dX12_takeOff_28 rfl ?_
    refine x_iald (k) (pc := 29) dX12_takeOff_29 k_153 (hL 153 (by decide) (by decide)) (⟨by omega, by omega, by decide⟩) ?_
    refine x_iconst (pc := 30) dX12_takeOff_30 ?_
    refine x_ceq (tgt := 62) (pc := 31) dX12_takeOff_31 (by decide) (by omega) (fun c_31 => ?_) (fun c_31 => ?_)
    · skip
      refine x_iconst (pc := 62) dX12_takeOff_62 ?_
      refine x_isub (pc := 63) dX12_takeOff_63 ?_
      refine x_iastF (k) (pc := 64) dX12_takeOff_64 k_157 (hL 157 (by decide) (by decide)) (⟨by omega, by omega, by decide⟩) hF (fun hF => ?_)
      refine x_iinc (pc := 65) dX12_takeOff_65 rfl (by decide) rfl ?_
      refine x_goto (tgt := 12) (pc := 68) dX12_takeOff_68 (by decide) ?_
      first
      | (rw [if_neg (fun w => by have := hkx w.1 w.2; omega)] at ihx
         exact ihx _ (by omega) (by rw [x_up_s]; omega) (fun k' hk' => by rw [x_up_k hk']; exact ho2 k' hk') (hQ.upA (by decide)) hF)
      | (rw [if_pos ⟨by omega, by omega⟩] at ihx
         exact ihx _ (by omega) (by rw [x_up_s]; omega) (fun k' hk' => by rw [x_up_k hk']; exact ho2 k' hk') (hQ.upA (by decide)) hF)
    · skip
      refine x_aloadn (pc := 34) dX12_takeOff_34 rfl ?_
      refine x_getR (153) (pc := 35) dX12_takeOff_35 fl_X12_87 k_127 (hL 127 (by decide) (by decide)) (f_127_31 hF) ?_
      refine x_iloadn (pc := 38) dX12_takeOff_38 rfl ?_
      refine x_iald (x) (pc := 39) dX12_takeOff_39 k_153 (hL 153 (by decide) (by decide)) (⟨by omega, by omega, by decide⟩) ?_
      refine x_iconst (pc := 40) dX12_takeOff_40 ?_
      refine x_ceq (tgt := 62) (pc := 41) dX12_takeOff_41 (by decide) (by omega) (fun c_41 => ?_) (fun c_41 => ?_)
      · skip
        refine x_iconst (pc := 62) dX12_takeOff_62 ?_
        refine x_isub (pc := 63) dX12_takeOff_63 ?_
        refine x_iastF (k) (pc := 64) dX12_takeOff_64 k_157 (hL 157 (by decide) (by decide)) (⟨by omega, by omega, by decide⟩) hF (fun hF => ?_)
        refine x_iinc (pc := 65) dX12_takeOff_65 rfl (by decide) rfl ?_
        refine x_goto (tgt := 12) (pc := 68) dX12_takeOff_68 (by decide) ?_
        first
        | (rw [if_neg (fun w => by have := hkx w.1 w.2; omega)] at ihx
           exact ihx _ (by omega) (by rw [x_up_s]; omega) (fun k' hk' => by rw [x_up_k hk']; exact ho2 k' hk') (hQ.upA (by decide)) hF)
        | (rw [if_pos ⟨by omega, by omega⟩] at ihx
           exact ihx _ (by omega) (by rw [x_up_s]; omega) (fun k' hk' => by rw [x_up_k hk']; exact ho2 k' hk') (hQ.upA (by decide)) hF)
      · skip
        refine x_aloadn (pc := 44) dX12_takeOff_44 rfl ?_
        refine x_getR (151) (pc := 45) dX12_takeOff_45 fl_X12_80 k_127 (hL 127 (by decide) (by decide)) (f_127_29 hF) ?_
        refine x_iconst (pc := 48) dX12_takeOff_48 ?_
        refine x_iloadn (pc := 49) dX12_takeOff_49 rfl ?_
        refine x_imul (pc := 50) dX12_takeOff_50 ?_
        refine x_iloadn (pc := 51) dX12_takeOff_51 rfl ?_
        refine x_iadd (pc := 52) dX12_takeOff_52 ?_
        rw [hei]
        refine x_iald (4 * k + j) (pc := 53) dX12_takeOff_53 k_151 (hL 151 (by decide) (by decide)) (⟨by omega, by omega, by decide⟩) ?_
        rw [hTe]
        refine x_iloadn (pc := 54) dX12_takeOff_54 rfl ?_
        refine x_cne (tgt := 62) (pc := 55) dX12_takeOff_55 (by decide) (by omega) (fun c_55 => ?_) (fun c_55 => ?_)
        · skip
          refine x_iconst (pc := 62) dX12_takeOff_62 ?_
          refine x_isub (pc := 63) dX12_takeOff_63 ?_
          refine x_iastF (k) (pc := 64) dX12_takeOff_64 k_157 (hL 157 (by decide) (by decide)) (⟨by omega, by omega, by decide⟩) hF (fun hF => ?_)
          refine x_iinc (pc := 65) dX12_takeOff_65 rfl (by decide) rfl ?_
          refine x_goto (tgt := 12) (pc := 68) dX12_takeOff_68 (by decide) ?_
          first
          | (rw [if_neg (fun w => by have := hkx w.1 w.2; omega)] at ihx
             exact ihx _ (by omega) (by rw [x_up_s]; omega) (fun k' hk' => by rw [x_up_k hk']; exact ho2 k' hk') (hQ.upA (by decide)) hF)
          | (rw [if_pos ⟨by omega, by omega⟩] at ihx
             exact ihx _ (by omega) (by rw [x_up_s]; omega) (fun k' hk' => by rw [x_up_k hk']; exact ho2 k' hk') (hQ.upA (by decide)) hF)
        · skip
          refine x_iconst (pc := 58) dX12_takeOff_58 ?_
          refine x_goto (tgt := 63) (pc := 59) dX12_takeOff_59 (by decide) ?_
          refine x_isub (pc := 63) dX12_takeOff_63 ?_
          refine x_iastF (k) (pc := 64) dX12_takeOff_64 k_157 (hL 157 (by decide) (by decide)) (⟨by omega, by omega, by decide⟩) hF (fun hF => ?_)
          refine x_iinc (pc := 65) dX12_takeOff_65 rfl (by decide) rfl ?_
          refine x_goto (tgt := 12) (pc := 68) dX12_takeOff_68 (by decide) ?_
          first
          | (rw [if_neg (fun w => by have := hkx w.1 w.2; omega)] at ihx
             exact ihx _ (by omega) (by rw [x_up_s]; omega) (fun k' hk' => by rw [x_up_k hk']; exact ho2 k' hk') (hQ.upA (by decide)) hF)
          | (rw [if_pos ⟨by omega, by omega⟩] at ihx
             exact ihx _ (by omega) (by rw [x_up_s]; omega) (fun k' hk' => by rw [x_up_k hk']; exact ho2 k' hk') (hQ.upA (by decide)) hF)
theorem l_mo_tkK {x : Nat} {G0 : Nat → Nat → Int} (hL : x_SL L) (ht : mTg n T G0) (hT : ∀ e, e < 4 * n → T e = -1 ∨ (0 ≤ T e ∧ T e < n)) (hlg : mLg n ld G0) (hld : ∀ y, y < n → (ld y = 1 ↔ zLe n T B y)) (hx : x < n) :
    ∀ (r k : Nat) (G : Nat → Nat → Int) (o3 : Option (Nat × Int)), k + r = n → (∀ k', k' < k → G 157 k' = G0 157 k' - ((zdl T ld x k' 4 : Nat) : Int)) → (∀ k', k ≤ k' → G 157 k' = G0 157 k') → FM [157] [] G0 G → x_Fin xFL G →
    X mX12_takeOff 0 0 0 (pTkm L G0 n T ld x) 2 [some (vR 127), some (vI x), some (vI k), o3] [] L G 0 0 := by
  have hn := ht.2.1
  intro r
  induction r with
  | zero =>
    intro k G o3 hk h1 h2 hQ hF
    have hk : k = n := by omega
    subst hk
    have ht' := ht.FM hQ (by decide) (by decide) (by decide)
    refine x_iloadn (pc := 2) dX12_takeOff_2 rfl ?_
    refine x_aloadn (pc := 3) dX12_takeOff_3 rfl ?_
    refine x_getI (pc := 4) dX12_takeOff_4 fl_X12_234 k_127 (hL 127 (by decide) (by decide)) ?_
    rw [ht'.1]
    refine x_cge (tgt := 77) (pc := 7) dX12_takeOff_7 (by decide) (by omega) (fun c_7 => ?_) (fun c_7 => ?_)
    rotate_left
    · skip
      exact absurd c_7 (by omega)
    refine x_rV (pc := 77) dX12_takeOff_77 rfl ?_
    exact ⟨h1, hQ, hF⟩
  | succ r ih =>
    intro k G o3 hk h1 h2 hQ hF
    have ht' := ht.FM hQ (by decide) (by decide) (by decide)
    refine x_iloadn (pc := 2) dX12_takeOff_2 rfl ?_
    refine x_aloadn (pc := 3) dX12_takeOff_3 rfl ?_
    refine x_getI (pc := 4) dX12_takeOff_4 fl_X12_234 k_127 (hL 127 (by decide) (by decide)) ?_
    rw [ht'.1]
    refine x_cge (tgt := 77) (pc := 7) dX12_takeOff_7 (by decide) (by omega) (fun c_7 => ?_) (fun c_7 => ?_)
    · skip
      exact absurd c_7 (by omega)
    refine x_iconst (pc := 10) dX12_takeOff_10 ?_
    refine x_istoren (pc := 11) dX12_takeOff_11 rfl (by decide) rfl ?_
    refine l_mo_tkJ (V := G0 157 k) hL ht' hT (hlg.FM hQ (by decide)) hld hx (show k < n by omega) (fun G2 b1 b2 b3 hF => ?_) 4 0 G (Nat.zero_add _) (by rw [h2 k (Nat.le_refl _)]; show _ = _ - ((0 : Nat) : Int); omega) (fun _ _ => rfl) FM.rf hF
    refine x_iinc (pc := 71) dX12_takeOff_71 rfl (by decide) rfl ?_
    refine x_goto (tgt := 2) (pc := 74) dX12_takeOff_74 (by decide) ?_
    refine ih (k + 1) G2 _ (by omega) (fun k' hk' => ?_) (fun k' hk' => by rw [b2 k' (by omega)]; exact h2 k' (by omega)) (hQ.tr b3) hF
    by_cases c : k' = k
    · rw [c]; exact b1
    · rw [b2 k' c]; exact h1 k' (by omega)
theorem c_mo_takeOff {x : Nat} {G : Nat → Nat → Int} (hL : x_SL L) (hF : x_Fin xFL G) (ht : mTg n T G) (hT : ∀ e, e < 4 * n → T e = -1 ∨ (0 ≤ T e ∧ T e < n)) (hlg : mLg n ld G) (hld : ∀ y, y < n → (ld y = 1 ↔ zLe n T B y)) (hx : x < n) :
    CM yX12_takeOff mX12_takeOff 0 0 0 [vR 127, vI x] L G (pTkm L G n T ld x) := by
  refine Ct.of_X (μ := mX12_takeOff) rfl rfl (by decide) (fun h => by cases h) (Nat.le_of_ble_eq_true rfl) rfl ?_
  refine x_iconst (pc := 0) dX12_takeOff_0 ?_
  refine x_istoren (pc := 1) dX12_takeOff_1 rfl (by decide) rfl ?_
  exact l_mo_tkK hL ht hT hlg hld hx n 0 G _ (Nat.zero_add _) (fun k' h' => absurd h' (Nat.not_lt_zero k')) (fun _ _ => rfl) FM.rf hF
/-- the table of those left -/
def mOp (n : Nat) (T : Nat → Int) (ld off : Nat → Nat) (G : Nat → Nat → Int) : Prop := ∀ k, k < n → (off k = 0 ∧ G 157 k = ((zoc T ld off k 4 : Nat) : Int)) ∨ (off k ≠ 0 ∧ G 157 k = -1 ∧ zoc T ld off k 4 = 0)
theorem zoc_mono {off : Nat → Nat} {x k : Nat} (h0 : off x = 0) (h : zoc T ld off k 4 = 0) : zoc T ld (zup off x 1) k 4 = 0 ∧ zdl T ld x k 4 = 0 := by
  have e := zoc_dl (T := T) (ld := ld) (k := k) h0 4
  omega
abbrev pRn (L : List Nat) (G0 : Nat → Nat → Int) (n : Nat) (T : Nat → Int) (B : Nat → Prop) (fq : Prop) : x_Q := qI L fun x G' => ((x = 2 ∧ fq) ∨ (x = 1 ∧ ¬ fq ∧ ¬ zAc n T B) ∨ (x = 0 ∧ ¬ fq ∧ zAc n T B)) ∧ FM [157] [] G0 G' ∧ x_Fin xFL G'
/-- a round -/
theorem l_mo_rnK {Q : x_Q} {e0 w2 w3 : Int} {off0 : Nat → Nat} {G0 : Nat → Nat → Int} (hL : x_SL L) (ht : mTg n T G0) (hT : ∀ e, e < 4 * n → T e = -1 ∨ (0 ≤ T e ∧ T e < n)) (hlg : mLg n ld G0) (hld : ∀ y, y < n → (ld y = 1 ↔ zLe n T B y))
    (cont : ∀ (off : Nat → Nat) (G : Nat → Nat → Int) (mo' : Int) (o6 : Option (Nat × Int)), zTo n T B off → mOp n T ld off G → FM [157] [] G0 G → ((mo' = 0 ∧ off = off0 ∧ ∀ k', k' < n → off k' = 0 → zoc T ld off k' 4 ≠ 0) ∨ (mo' = 1 ∧ zhn off0 n < zhn off n)) → x_Fin xFL G → X mX12_ring 3 0 0 Q 219 [some (vR 127), some (vI e0), some (vI w2), some (vI w3), some (vI mo'), some (vI (((n - zhn off n : Nat) : Int))), o6] [] L G 0 0) :
    ∀ (r k : Nat) (off : Nat → Nat) (G : Nat → Nat → Int) (mo' : Int), k + r = n → zTo n T B off → mOp n T ld off G → FM [157] [] G0 G → ((mo' = 0 ∧ off = off0 ∧ ∀ k', k' < k → off k' = 0 → zoc T ld off k' 4 ≠ 0) ∨ (mo' = 1 ∧ zhn off0 n < zhn off n)) → x_Fin xFL G →
    X mX12_ring 3 0 0 Q 174 [some (vR 127), some (vI e0), some (vI w2), some (vI w3), some (vI mo'), some (vI (((n - zhn off n : Nat) : Int))), some (vI k)] [] L G 0 0 := by
  have hn := ht.2.1
  intro r
  induction r with
  | zero =>
    intro k off G mo' hk hto hop hQ hst hF
    have hk : k = n := by omega
    subst hk
    have ht' := ht.FM hQ (by decide) (by decide) (by decide)
    refine x_iload (pc := 174) dX12_ring_174 rfl ?_
    refine x_aloadn (pc := 176) dX12_ring_176 rfl ?_
    refine x_getI (pc := 177) dX12_ring_177 fl_X12_234 k_127 (hL 127 (by decide) (by decide)) ?_
    rw [ht'.1]
    refine x_cge (tgt := 219) (pc := 180) dX12_ring_180 (by decide) (by omega) (fun c_180 => ?_) (fun c_180 => ?_)
    rotate_left
    · skip
      exact absurd c_180 (by omega)
    exact cont off G mo' _ hto hop hQ hst hF
  | succ r ih =>
    intro k off G mo' hk hto hop hQ hst hF
    have ht' := ht.FM hQ (by decide) (by decide) (by decide)
    have hlg' := hlg.FM hQ (by decide)
    have hzl := zoc_le (T := T) (ld := ld) (off := off) (k := k) 4
    have skip : ¬ (off k = 0 ∧ zoc T ld off k 4 = 0) → ((mo' = 0 ∧ off = off0 ∧ ∀ k', k' < k + 1 → off k' = 0 → zoc T ld off k' 4 ≠ 0) ∨ (mo' = 1 ∧ zhn off0 n < zhn off n)) := fun w => by
      rcases hst with ⟨h1, h2, h3⟩ | h
      · refine Or.inl ⟨h1, h2, fun k' hk' ho hz => ?_⟩
        by_cases c : k' = k
        · rw [c] at ho hz; exact w ⟨ho, hz⟩
        · exact h3 k' (by omega) ho hz
      · exact Or.inr h
    rcases hop k (by omega) with ⟨o1, o2⟩ | ⟨o1, o2, o3⟩
    · by_cases cz : zoc T ld off k 4 = 0
      · have hlt := zhn_lt o1 n (show k < n by omega)
        have hup := zhn_up (t := off) (t' := zup off k 1) (j := k) o1 (by rw [zups]; decide) (fun i hi => zupk hi) n (by omega)
        have hto2 := hto.take o1 hld cz
        have hnn : ((n - zhn off n : Nat) : Int) + -1 = ((n - zhn (zup off k 1) n : Nat) : Int) := by omega
        rw [cz] at o2
        have q1 : FM [157] [] G0 (x_up G 157 k (-1)) := hQ.upA (by decide)
        refine x_iload (pc := 174) dX12_ring_174 rfl ?_
        refine x_aloadn (pc := 176) dX12_ring_176 rfl ?_
        refine x_getI (pc := 177) dX12_ring_177 fl_X12_234 k_127 (hL 127 (by decide) (by decide)) ?_
        rw [ht'.1]
        refine x_cge (tgt := 219) (pc := 180) dX12_ring_180 (by decide) (by omega) (fun c_180 => ?_) (fun c_180 => ?_)
        · skip
          exact absurd c_180 (by omega)
        refine x_aloadn (pc := 183) dX12_ring_183 rfl ?_
        refine x_getR (157) (pc := 184) dX12_ring_184 fl_X12_99 k_127 (hL 127 (by decide) (by decide)) (f_127_41 hF) ?_
        refine x_iload (pc := 187) dX12_ring_187 rfl ?_
        refine x_iald (k) (pc := 189) dX12_ring_189 k_157 (hL 157 (by decide) (by decide)) (⟨by omega, by omega, by decide⟩) ?_
        rw [o2]
        refine x_ine (tgt := 213) (pc := 190) dX12_ring_190 (by decide) (by omega) (fun c_190 => ?_) (fun c_190 => ?_)
        · skip
          exact absurd rfl c_190
        refine x_aloadn (pc := 193) dX12_ring_193 rfl ?_
        refine x_getR (157) (pc := 194) dX12_ring_194 fl_X12_99 k_127 (hL 127 (by decide) (by decide)) (f_127_41 hF) ?_
        refine x_iload (pc := 197) dX12_ring_197 rfl ?_
        refine x_iconst (pc := 199) dX12_ring_199 ?_
        refine x_iastF (k) (pc := 200) dX12_ring_200 k_157 (hL 157 (by decide) (by decide)) (⟨by omega, by omega, by decide⟩) hF (fun hF => ?_)
        refine x_iinc (pc := 201) dX12_ring_201 rfl (by decide) rfl ?_
        refine x_iconst (pc := 204) dX12_ring_204 ?_
        refine x_istore (pc := 205) dX12_ring_205 (by decide) rfl ?_
        refine x_aloadn (pc := 207) dX12_ring_207 rfl ?_
        refine x_iload (pc := 208) dX12_ring_208 rfl ?_
        refine x_cVV (pc := 210) dX12_ring_210 lk_X12_277 (c_mo_takeOff (B := B) hL hF (ht.FM q1 (by decide) (by decide) (by decide)) hT (hlg.FM q1 (by decide)) hld (show k < n by omega)) k_127 ⟨by decide, rfl⟩ (hL 127 (by decide) (by decide)) (⟨by decide, by decide⟩) (Nat.le_of_ble_eq_true rfl) rfl ?_
        rintro G3 ⟨b1, b2, hF⟩
        refine x_iinc (pc := 213) dX12_ring_213 rfl (by decide) rfl ?_
        refine x_goto (tgt := 174) (pc := 216) dX12_ring_216 (by decide) ?_
        rw [hnn]
        refine ih (k + 1) (zup off k 1) G3 1 (by omega) hto2 (fun k' hk' => ?_) (q1.tr b2) (Or.inr ⟨rfl, ?_⟩) hF
        · have e := zoc_dl (T := T) (ld := ld) (k := k') o1 4
          rw [b1 k' hk']
          by_cases c : k' = k
          · rw [c, zups, x_up_s]
            rw [c] at e
            exact Or.inr ⟨by decide, by omega, by omega⟩
          · rw [zupk c, x_up_k c]
            rcases hop k' hk' with ⟨p1, p2⟩ | ⟨p1, p2, p3⟩
            · exact Or.inl ⟨p1, by rw [p2]; omega⟩
            · exact Or.inr ⟨p1, by rw [p2]; omega, by omega⟩
        · rcases hst with ⟨_, h2, _⟩ | ⟨_, h⟩
          · rw [h2] at hup ⊢; omega
          · omega
      · skip
        refine x_iload (pc := 174) dX12_ring_174 rfl ?_
        refine x_aloadn (pc := 176) dX12_ring_176 rfl ?_
        refine x_getI (pc := 177) dX12_ring_177 fl_X12_234 k_127 (hL 127 (by decide) (by decide)) ?_
        rw [ht'.1]
        refine x_cge (tgt := 219) (pc := 180) dX12_ring_180 (by decide) (by omega) (fun c_180 => ?_) (fun c_180 => ?_)
        · skip
          exact absurd c_180 (by omega)
        refine x_aloadn (pc := 183) dX12_ring_183 rfl ?_
        refine x_getR (157) (pc := 184) dX12_ring_184 fl_X12_99 k_127 (hL 127 (by decide) (by decide)) (f_127_41 hF) ?_
        refine x_iload (pc := 187) dX12_ring_187 rfl ?_
        refine x_iald (k) (pc := 189) dX12_ring_189 k_157 (hL 157 (by decide) (by decide)) (⟨by omega, by omega, by decide⟩) ?_
        rw [o2]
        refine x_ine (tgt := 213) (pc := 190) dX12_ring_190 (by decide) (by omega) (fun c_190 => ?_) (fun c_190 => ?_)
        rotate_left
        · skip
          exact absurd (by omega) cz
        refine x_iinc (pc := 213) dX12_ring_213 rfl (by decide) rfl ?_
        refine x_goto (tgt := 174) (pc := 216) dX12_ring_216 (by decide) ?_
        exact ih (k + 1) off G mo' (by omega) hto hop hQ (skip (fun w => cz w.2)) hF
    · skip
      refine x_iload (pc := 174) dX12_ring_174 rfl ?_
      refine x_aloadn (pc := 176) dX12_ring_176 rfl ?_
      refine x_getI (pc := 177) dX12_ring_177 fl_X12_234 k_127 (hL 127 (by decide) (by decide)) ?_
      rw [ht'.1]
      refine x_cge (tgt := 219) (pc := 180) dX12_ring_180 (by decide) (by omega) (fun c_180 => ?_) (fun c_180 => ?_)
      · skip
        exact absurd c_180 (by omega)
      refine x_aloadn (pc := 183) dX12_ring_183 rfl ?_
      refine x_getR (157) (pc := 184) dX12_ring_184 fl_X12_99 k_127 (hL 127 (by decide) (by decide)) (f_127_41 hF) ?_
      refine x_iload (pc := 187) dX12_ring_187 rfl ?_
      refine x_iald (k) (pc := 189) dX12_ring_189 k_157 (hL 157 (by decide) (by decide)) (⟨by omega, by omega, by decide⟩) ?_
      rw [o2]
      refine x_ine (tgt := 213) (pc := 190) dX12_ring_190 (by decide) (by omega) (fun c_190 => ?_) (fun c_190 => ?_)
      rotate_left
      · skip
        exact absurd c_190 (by decide)
      refine x_iinc (pc := 213) dX12_ring_213 rfl (by decide) rfl ?_
      refine x_goto (tgt := 174) (pc := 216) dX12_ring_216 (by decide) ?_
      exact ih (k + 1) off G mo' (by omega) hto hop hQ (skip (fun w => o1 w.1)) hF
theorem l_mo_rnE {e0 w2 w3 : Int} {fq : Prop} {off : Nat → Nat} {o6 : Option (Nat × Int)} {G0 G : Nat → Nat → Int} (hn : n ≤ 1500) (hT : ∀ e, e < 4 * n → T e = -1 ∨ (0 ≤ T e ∧ T e < n)) (hld : ∀ y, y < n → (ld y = 1 ↔ zLe n T B y)) (hw3 : (w3 = 1 ∧ fq) ∨ (w3 = 0 ∧ ¬ fq)) (hto : zTo n T B off) (hall : ∀ k', k' < n → off k' = 0 → zoc T ld off k' 4 ≠ 0) (hQ : FM [157] [] G0 G) (hF : x_Fin xFL G) :
    X mX12_ring 3 0 0 (pRn L G0 n T B fq) 163 [some (vR 127), some (vI e0), some (vI w2), some (vI w3), some (vI 0), some (vI (((n - zhn off n : Nat) : Int))), o6] [] L G 0 0 := by
  obtain ⟨f1, f2⟩ := hto.fin hld hT hall
  have hzl := zhn_le (t := off) n
  rcases hw3 with ⟨rfl, hf⟩ | ⟨rfl, hf⟩
  · skip
    refine x_iload (pc := 163) dX12_ring_163 rfl ?_
    refine x_ieq (tgt := 222) (pc := 165) dX12_ring_165 (by decide) (by omega) (fun c_165 => ?_) (fun c_165 => ?_)
    rotate_left
    · skip
      exact absurd rfl c_165
    refine x_iloadn (pc := 222) dX12_ring_222 rfl ?_
    refine x_ieq (tgt := 230) (pc := 223) dX12_ring_223 (by decide) (by omega) (fun c_223 => ?_) (fun c_223 => ?_)
    · skip
      exact absurd c_223 (by decide)
    refine x_iconst (pc := 226) dX12_ring_226 ?_
    refine x_goto (tgt := 240) (pc := 227) dX12_ring_227 (by decide) ?_
    refine x_rI (pc := 240) dX12_ring_240 rfl ?_
    exact ⟨Or.inl ⟨rfl, hf⟩, hQ, hF⟩
  · skip
    refine x_iload (pc := 163) dX12_ring_163 rfl ?_
    refine x_ieq (tgt := 222) (pc := 165) dX12_ring_165 (by decide) (by omega) (fun c_165 => ?_) (fun c_165 => ?_)
    rotate_left
    · skip
      exact absurd rfl c_165
    refine x_iloadn (pc := 222) dX12_ring_222 rfl ?_
    refine x_ieq (tgt := 230) (pc := 223) dX12_ring_223 (by decide) (by omega) (fun c_223 => ?_) (fun c_223 => ?_)
    rotate_left
    · skip
      exact absurd rfl c_223
    refine x_iload (pc := 230) dX12_ring_230 rfl ?_
    refine x_ile (tgt := 239) (pc := 232) dX12_ring_232 (by decide) (by omega) (fun c_232 => ?_) (fun c_232 => ?_)
    · skip
      refine x_iconst (pc := 239) dX12_ring_239 ?_
      refine x_rI (pc := 240) dX12_ring_240 rfl ?_
      first
      | exact ⟨Or.inr (Or.inl ⟨rfl, hf, f1 (by omega)⟩), hQ, hF⟩
      | exact ⟨Or.inr (Or.inr ⟨rfl, hf, f2 (by omega)⟩), hQ, hF⟩
    · skip
      refine x_iconst (pc := 235) dX12_ring_235 ?_
      refine x_goto (tgt := 240) (pc := 236) dX12_ring_236 (by decide) ?_
      refine x_rI (pc := 240) dX12_ring_240 rfl ?_
      first
      | exact ⟨Or.inr (Or.inl ⟨rfl, hf, f1 (by omega)⟩), hQ, hF⟩
      | exact ⟨Or.inr (Or.inr ⟨rfl, hf, f2 (by omega)⟩), hQ, hF⟩
theorem l_mo_rnR {e0 w2 w3 : Int} {fq : Prop} {G0 : Nat → Nat → Int} (hL : x_SL L) (ht : mTg n T G0) (hT : ∀ e, e < 4 * n → T e = -1 ∨ (0 ≤ T e ∧ T e < n)) (hlg : mLg n ld G0) (hld : ∀ y, y < n → (ld y = 1 ↔ zLe n T B y)) (hw3 : (w3 = 1 ∧ fq) ∨ (w3 = 0 ∧ ¬ fq)) :
    ∀ (r : Nat) (off : Nat → Nat) (G : Nat → Nat → Int) (o6 : Option (Nat × Int)), n - zhn off n ≤ r → zTo n T B off → mOp n T ld off G → FM [157] [] G0 G → x_Fin xFL G →
    X mX12_ring 3 0 0 (pRn L G0 n T B fq) 163 [some (vR 127), some (vI e0), some (vI w2), some (vI w3), some (vI 1), some (vI (((n - zhn off n : Nat) : Int))), o6] [] L G 0 0 := by
  have hn := ht.2.1
  intro r
  induction r with
  | zero =>
    intro off G o6 hr hto hop hQ hF
    have ht' := ht.FM hQ (by decide) (by decide) (by decide)
    have hlg' := hlg.FM hQ (by decide)
    refine x_iload (pc := 163) dX12_ring_163 rfl ?_
    refine x_ieq (tgt := 222) (pc := 165) dX12_ring_165 (by decide) (by omega) (fun c_165 => ?_) (fun c_165 => ?_)
    · skip
      exact absurd c_165 (by decide)
    refine x_iconst (pc := 168) dX12_ring_168 ?_
    refine x_istore (pc := 169) dX12_ring_169 (by decide) rfl ?_
    refine x_iconst (pc := 171) dX12_ring_171 ?_
    refine x_istore (pc := 172) dX12_ring_172 (by decide) rfl ?_
    refine l_mo_rnK (off0 := off) hL ht' hT hlg' hld (fun off2 G2 mo' o6 b1 b2 b3 b4 hF => ?_) n 0 off G 0 (Nat.zero_add _) hto hop FM.rf (Or.inl ⟨rfl, rfl, fun k' h' => absurd h' (Nat.not_lt_zero k')⟩) hF
    refine x_goto (tgt := 163) (pc := 219) dX12_ring_219 (by decide) ?_
    rcases b4 with ⟨rfl, _, b5⟩ | ⟨_, b5⟩
    · exact l_mo_rnE hn hT hld hw3 b1 b5 (hQ.tr b3) hF
    · have := zhn_le (t := off2) n
      omega
  | succ r ih =>
    intro off G o6 hr hto hop hQ hF
    have ht' := ht.FM hQ (by decide) (by decide) (by decide)
    have hlg' := hlg.FM hQ (by decide)
    refine x_iload (pc := 163) dX12_ring_163 rfl ?_
    refine x_ieq (tgt := 222) (pc := 165) dX12_ring_165 (by decide) (by omega) (fun c_165 => ?_) (fun c_165 => ?_)
    · skip
      exact absurd c_165 (by decide)
    refine x_iconst (pc := 168) dX12_ring_168 ?_
    refine x_istore (pc := 169) dX12_ring_169 (by decide) rfl ?_
    refine x_iconst (pc := 171) dX12_ring_171 ?_
    refine x_istore (pc := 172) dX12_ring_172 (by decide) rfl ?_
    refine l_mo_rnK (off0 := off) hL ht' hT hlg' hld (fun off2 G2 mo' o6 b1 b2 b3 b4 hF => ?_) n 0 off G 0 (Nat.zero_add _) hto hop FM.rf (Or.inl ⟨rfl, rfl, fun k' h' => absurd h' (Nat.not_lt_zero k')⟩) hF
    refine x_goto (tgt := 163) (pc := 219) dX12_ring_219 (by decide) ?_
    rcases b4 with ⟨rfl, _, b5⟩ | ⟨rfl, b5⟩
    · exact l_mo_rnE hn hT hld hw3 b1 b5 (hQ.tr b3) hF
    · have := zhn_le (t := off2) n
      exact ih off2 G2 _ (by omega) b1 b2 (hQ.tr b3) hF
end XRW

