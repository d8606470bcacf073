/-! classes of places: the reference's call -/
theorem l_mo_clX {p q n : Nat} {w : Int} {c : Nat → Nat} {o6 o7 o8 : Option (Nat × Int)} {L : List Nat} {G0 G : Nat → Nat → Int} (hL : x_SL L) (hn : 1 ≤ n ∧ n ≤ 60) (hp : 1 ≤ p ∧ p ≤ 60) (hq : 1 ≤ q ∧ q ≤ 60) (hw : -1 ≤ w ∧ w < n) (hC : mCl n (zCE n p q) c G) (hcl : ∀ j, j < n → zCl n p q c j) (hR : FM [162] [] G0 G) (hF : x_Fin xFL G) :
    X mX12_classes 2 0 0 (pClM L G0 p q n w) 82 [some (vR 127), some (vI p), some (vI q), some (vI n), some (vI w), some (vI 0), o6, o7, o8] [] L G 0 0 := by
  have hM := zCl_mn hp.1 hq.1 hC hcl
  refine x_iload (pc := 82) dX12_classes_82 rfl ?_
  refine x_ieq (tgt := 232) (pc := 84) dX12_classes_84 (by decide) (by omega) (fun c_84 => ?_) (fun c_84 => ?_)
  rotate_left
  · skip
    exact absurd rfl c_84
  refine x_iconst (pc := 232) dX12_classes_232 ?_
  refine x_istore (pc := 233) dX12_classes_233 (by decide) rfl ?_
  refine x_iconst (pc := 235) dX12_classes_235 ?_
  refine x_istore (pc := 236) dX12_classes_236 (by decide) rfl ?_
  refine x_iconst (pc := 238) dX12_classes_238 ?_
  refine x_istore (pc := 239) dX12_classes_239 (by decide) rfl ?_
  exact l_mo_clE hL hF hn hp hq hw hM (fun i hi => by rw [(hC i hi).1]; show (c i : Int) = ((if i < n then c i else i : Nat) : Int); rw [if_pos hi]) hR n 0 0 (by omega) (by rw [if_neg (fun z => Nat.not_lt_zero _ z.2)])
theorem l_mo_clO {p q n : Nat} {w : Int} {L : List Nat} {G0 : Nat → Nat → Int} (hL : x_SL L) (hn : 1 ≤ n ∧ n ≤ 60) (hp : 1 ≤ p ∧ p ≤ 60) (hq : 1 ≤ q ∧ q ≤ 60) (hw : -1 ≤ w ∧ w < n) :
    ∀ (s : Nat) (c : Nat → Nat) (F : Int) (G : Nat → Nat → Int) (o6 o7 o8 : Option (Nat × Int)), zsm c n < s → mCl n (zCE n p q) c G → (F = 1 ∨ F = 0 ∧ ∀ j, j < n → zCl n p q c j) → FM [162] [] G0 G → x_Fin xFL G →
    X mX12_classes 2 0 0 (pClM L G0 p q n w) 82 [some (vR 127), some (vI p), some (vI q), some (vI n), some (vI w), some (vI F), o6, o7, o8] [] L G 0 0 := by
  intro s
  induction s with
  | zero => intro c F G o6 o7 o8 hs; exact absurd hs (Nat.not_lt_zero _)
  | succ s ih =>
    intro c F G o6 o7 o8 hs hC hN hR hF
    rcases hN with rfl | ⟨rfl, hcl⟩
    · skip
      refine x_iload (pc := 82) dX12_classes_82 rfl ?_
      refine x_ieq (tgt := 232) (pc := 84) dX12_classes_84 (by decide) (by omega) (fun c_84 => ?_) (fun c_84 => ?_)
      · skip
        exact absurd c_84 (by decide)
      refine x_iconst (pc := 87) dX12_classes_87 ?_
      refine x_istore (pc := 88) dX12_classes_88 (by decide) rfl ?_
      refine x_iconst (pc := 90) dX12_classes_90 ?_
      refine x_istore (pc := 91) dX12_classes_91 (by decide) rfl ?_
      refine l_mo_clI (E := zCE n p q) (c0 := c) hL hn.2 hp hq (fun i hi => .base (Or.inl ⟨rfl, hi⟩)) (fun i hi => .base (Or.inr ⟨rfl, hi⟩)) (fun c' F' G' o6' b1 b2 b3 b4 => ?_) n 0 c 0 G (by omega) hC (Or.inr ⟨rfl, rfl, fun j hj => absurd hj (Nat.not_lt_zero j)⟩) hR hF
      rcases b2 with ⟨e1, e2⟩ | ⟨e1, e2, e3⟩
      · exact ih c' F' G' _ _ _ (by omega) b1 (Or.inl e1) b3 b4
      · subst e1; subst e2
        exact l_mo_clX hL hn hp hq hw b1 e3 b3 b4
    · exact l_mo_clX hL hn hp hq hw hC hcl hR hF
theorem l_mo_cl58 {p q n : Nat} {w : Int} {o6 o7 o8 : Option (Nat × Int)} {L : List Nat} {G0 : Nat → Nat → Int} (hL : x_SL L) (hn : 1 ≤ n ∧ n ≤ 60) (hp : 1 ≤ p ∧ p ≤ 60) (hq : 1 ≤ q ∧ q ≤ 60) (hw : -1 ≤ w ∧ w < n) :
    ∀ (r t : Nat) (G : Nat → Nat → Int), t + r = n → (∀ i, i < t → G 162 i = i) → FM [162] [] G0 G → x_Fin xFL G →
    X mX12_classes 2 0 0 (pClM L G0 p q n w) 58 [some (vR 127), some (vI p), some (vI q), some (vI n), some (vI w), some (vI t), o6, o7, o8] [] L G 0 0 := by
  intro r
  induction r with
  | zero =>
    intro t G ht h1 hR hF
    refine x_iload (pc := 58) dX12_classes_58 rfl ?_
    refine x_iloadn (pc := 60) dX12_classes_60 rfl ?_
    refine x_cge (tgt := 79) (pc := 61) dX12_classes_61 (by decide) (by omega) (fun c_61 => ?_) (fun c_61 => ?_)
    rotate_left
    · skip
      exact absurd c_61 (by omega)
    refine x_iconst (pc := 79) dX12_classes_79 ?_
    refine x_istore (pc := 80) dX12_classes_80 (by decide) rfl ?_
    exact l_mo_clO hL hn hp hq hw (zsm (fun i => i) n + 1) (fun i => i) 1 _ _ _ _ (by omega) (fun i hi => ⟨h1 i (by omega), Nat.le_refl _, .refl i⟩) (Or.inl rfl) hR hF
  | succ r ih =>
    intro t G ht h1 hR hF
    refine x_iload (pc := 58) dX12_classes_58 rfl ?_
    refine x_iloadn (pc := 60) dX12_classes_60 rfl ?_
    refine x_cge (tgt := 79) (pc := 61) dX12_classes_61 (by decide) (by omega) (fun c_61 => ?_) (fun c_61 => ?_)
    · skip
      exact absurd c_61 (by omega)
    refine x_aloadn (pc := 64) dX12_classes_64 rfl ?_
    refine x_getR (162) (pc := 65) dX12_classes_65 fl_X12_114 k_127 (hL 127 (by decide) (by decide)) (f_127_46 hF) ?_
    refine x_iload (pc := 68) dX12_classes_68 rfl ?_
    refine x_iload (pc := 70) dX12_classes_70 rfl ?_
    refine x_iastF (t) (pc := 72) dX12_classes_72 k_162 (hL 162 (by decide) (by decide)) (⟨by omega, by omega, by decide⟩) hF (fun hF => ?_)
    refine x_iinc (pc := 73) dX12_classes_73 rfl (by decide) rfl ?_
    refine x_goto (tgt := 58) (pc := 76) dX12_classes_76 (by decide) ?_
    refine ih (t + 1) _ (by omega) (fun i hi => ?_) (hR.upA (by decide)) hF
    by_cases c : i = t
    · subst c; exact x_up_s
    · rw [x_up_k c]; exact h1 i (by omega)
theorem c_mo_classes {p q n w : Int} {L : List Nat} {G : Nat → Nat → Int} (hL : x_SL L) (hF : x_Fin xFL G) (hp : -2147483648 ≤ p ∧ p < 2147483648) (hq : -2147483648 ≤ q ∧ q < 2147483648) (hn : -2147483648 ≤ n ∧ n < 2147483648) (hw : -2147483648 ≤ w ∧ w < 2147483648) :
    CM yX12_classes mX12_classes 2 0 0 [vR 127, vI p, vI q, vI n, vI w] L G (pClM L G p q n w) := by
  refine Ct.of_X (μ := mX12_classes) rfl rfl (by decide) (fun h => by cases h) (Nat.le_of_ble_eq_true rfl) rfl ?_
  refine x_iloadn (pc := 0) dX12_classes_0 rfl ?_
  refine x_i2l (pc := 1) dX12_classes_1 (by omega) ?_
  refine x_lconst (x := 1) (pc := 2) dX12_classes_2 (by decide) ?_
  refine x_ldc2 (pc := 3) dX12_classes_3 co_X12_318 ?_
  refine x_cSI (pc := 6) dX12_classes_6 lk_X12_131 (c_mo_in (by omega)) (⟨by decide, by decide⟩) (Nat.le_of_ble_eq_true rfl) rfl ?_
  rintro x G' ⟨rfl, rfl⟩
  refine x_ieq (tgt := 52) (pc := 9) dX12_classes_9 (by decide) (by split <;> omega) (fun c_9 => ?_) (fun c_9 => ?_)
  · skip
    refine x_bipush (pc := 52) dX12_classes_52 (by decide) ?_
    refine x_rI (pc := 54) dX12_classes_54 rfl ?_
    refine Or.inl ⟨?_, rfl, rfl⟩
    first | (split at c_9 <;> omega; done) | (split at c_21 <;> omega; done) | (split at c_33 <;> omega; done) | (split at c_49 <;> omega; done)
  · skip
    refine x_iloadn (pc := 12) dX12_classes_12 rfl ?_
    refine x_i2l (pc := 13) dX12_classes_13 (by omega) ?_
    refine x_lconst (x := 1) (pc := 14) dX12_classes_14 (by decide) ?_
    refine x_ldc2 (pc := 15) dX12_classes_15 co_X12_318 ?_
    refine x_cSI (pc := 18) dX12_classes_18 lk_X12_131 (c_mo_in (by omega)) (⟨by decide, by decide⟩) (Nat.le_of_ble_eq_true rfl) rfl ?_
    rintro x G' ⟨rfl, rfl⟩
    refine x_ieq (tgt := 52) (pc := 21) dX12_classes_21 (by decide) (by split <;> omega) (fun c_21 => ?_) (fun c_21 => ?_)
    · skip
      refine x_bipush (pc := 52) dX12_classes_52 (by decide) ?_
      refine x_rI (pc := 54) dX12_classes_54 rfl ?_
      refine Or.inl ⟨?_, rfl, rfl⟩
      first | (split at c_9 <;> omega; done) | (split at c_21 <;> omega; done) | (split at c_33 <;> omega; done) | (split at c_49 <;> omega; done)
    · skip
      refine x_iloadn (pc := 24) dX12_classes_24 rfl ?_
      refine x_i2l (pc := 25) dX12_classes_25 (by omega) ?_
      refine x_lconst (x := 1) (pc := 26) dX12_classes_26 (by decide) ?_
      refine x_ldc2 (pc := 27) dX12_classes_27 co_X12_318 ?_
      refine x_cSI (pc := 30) dX12_classes_30 lk_X12_131 (c_mo_in (by omega)) (⟨by decide, by decide⟩) (Nat.le_of_ble_eq_true rfl) rfl ?_
      rintro x G' ⟨rfl, rfl⟩
      refine x_ieq (tgt := 52) (pc := 33) dX12_classes_33 (by decide) (by split <;> omega) (fun c_33 => ?_) (fun c_33 => ?_)
      · skip
        refine x_bipush (pc := 52) dX12_classes_52 (by decide) ?_
        refine x_rI (pc := 54) dX12_classes_54 rfl ?_
        refine Or.inl ⟨?_, rfl, rfl⟩
        first | (split at c_9 <;> omega; done) | (split at c_21 <;> omega; done) | (split at c_33 <;> omega; done) | (split at c_49 <;> omega; done)
      · skip
        refine x_iload (pc := 36) dX12_classes_36 rfl ?_
        refine x_i2l (pc := 38) dX12_classes_38 (by omega) ?_
        refine x_ldc2 (pc := 39) dX12_classes_39 co_X12_320 ?_
        refine x_iloadn (pc := 42) dX12_classes_42 rfl ?_
        refine x_iconst (pc := 43) dX12_classes_43 ?_
        refine x_isub (pc := 44) dX12_classes_44 ?_
        refine x_i2l (pc := 45) dX12_classes_45 (by omega) ?_
        refine x_cSI (pc := 46) dX12_classes_46 lk_X12_131 (c_mo_in (by omega)) (⟨by decide, by decide⟩) (Nat.le_of_ble_eq_true rfl) rfl ?_
        rintro x G' ⟨rfl, rfl⟩
        refine x_ine (tgt := 55) (pc := 49) dX12_classes_49 (by decide) (by split <;> omega) (fun c_49 => ?_) (fun c_49 => ?_)
        · skip
          refine x_iconst (pc := 55) dX12_classes_55 ?_
          refine x_istore (pc := 56) dX12_classes_56 (by decide) rfl ?_
          have g1 : 1 ≤ p ∧ p ≤ 60 := by split at c_9 <;> omega
          have g2 : 1 ≤ q ∧ q ≤ 60 := by split at c_21 <;> omega
          have g3 : 1 ≤ n ∧ n ≤ 60 := by split at c_33 <;> omega
          have g4 : -1 ≤ w ∧ w ≤ n - 1 := by split at c_49 <;> omega
          obtain ⟨p, rfl⟩ : ∃ j : Nat, p = j := ⟨p.toNat, by omega⟩
          obtain ⟨q, rfl⟩ : ∃ j : Nat, q = j := ⟨q.toNat, by omega⟩
          obtain ⟨n, rfl⟩ : ∃ j : Nat, n = j := ⟨n.toNat, by omega⟩
          exact l_mo_cl58 (p := p) (q := q) (n := n) hL (by omega) (by omega) (by omega) (by omega) n 0 _ (by omega) (fun i hi => absurd hi (Nat.not_lt_zero i)) FM.rf hF
        · skip
          refine x_bipush (pc := 52) dX12_classes_52 (by decide) ?_
          refine x_rI (pc := 54) dX12_classes_54 rfl ?_
          refine Or.inl ⟨?_, rfl, rfl⟩
          first | (split at c_9 <;> omega; done) | (split at c_21 <;> omega; done) | (split at c_33 <;> omega; done) | (split at c_49 <;> omega; done)

