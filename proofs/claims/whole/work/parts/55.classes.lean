/-! classes of places: the class -/
def zCE (n p q i j : Nat) : Prop := zPE n p i j ∨ zPE n q i j
abbrev pClC (L : List Nat) (G : Nat → Nat → Int) (p q n w : Int) : x_Q := qI L fun x G' => (¬ ((1 ≤ p ∧ p ≤ 60) ∧ (1 ≤ q ∧ q ≤ 60) ∧ (1 ≤ n ∧ n ≤ 60) ∧ -1 ≤ w ∧ w < n) ∧ x = -3 ∧ G' = G) ∨ (((1 ≤ p ∧ p ≤ 60) ∧ (1 ≤ q ∧ q ≤ 60) ∧ (1 ≤ n ∧ n ≤ 60) ∧ -1 ≤ w ∧ w < n) ∧ (∃ f, zMn (zCE n.toNat p.toNat q.toNat) f ∧ x = zld f (if w = -1 then n.toNat else f w.toNat)) ∧ FR [84, 85, 86] G G' ∧ x_Fin xFL G')
theorem c_ts_classes {p q n w : Int} {L : List Nat} {G : Nat → Nat → Int} (hL : x_SL L) (hF : x_Fin xFL G) (hp : -2147483648 ≤ p ∧ p < 2147483648) (hq : -2147483648 ≤ q ∧ q < 2147483648) (hn : -2147483648 ≤ n ∧ n < 2147483648) (hw : -2147483648 ≤ w ∧ w < 2147483648) :
    CM yX11_classes mX11_classes 3 0 0 [vR 1, vI p, vI q, vI n, vI w] L G (pClC L G p q n w) := by
  have hA : xAl 84 := Or.inr rfl
  refine Ct.of_X (μ := mX11_classes) rfl rfl (by decide) (fun h => by cases h) (Nat.le_of_ble_eq_true rfl) rfl ?_
  refine x_iloadn (pc := 0) dX11_classes_0 rfl ?_
  refine x_iconst (pc := 1) dX11_classes_1 ?_
  refine x_clt (tgt := 22) (pc := 2) dX11_classes_2 (by decide) (by omega) (fun c_2 => ?_) (fun c_2 => ?_)
  · skip
    refine x_bipush (pc := 22) dX11_classes_22 (by decide) ?_
    refine x_rI (pc := 24) dX11_classes_24 rfl ?_
    exact Or.inl ⟨by omega, rfl, rfl⟩
  · skip
    refine x_iloadn (pc := 5) dX11_classes_5 rfl ?_
    refine x_bipush (pc := 6) dX11_classes_6 (by decide) ?_
    refine x_cgt (tgt := 22) (pc := 8) dX11_classes_8 (by decide) (by omega) (fun c_8 => ?_) (fun c_8 => ?_)
    · skip
      refine x_bipush (pc := 22) dX11_classes_22 (by decide) ?_
      refine x_rI (pc := 24) dX11_classes_24 rfl ?_
      exact Or.inl ⟨by omega, rfl, rfl⟩
    · skip
      refine x_iloadn (pc := 11) dX11_classes_11 rfl ?_
      refine x_iconst (pc := 12) dX11_classes_12 ?_
      refine x_clt (tgt := 22) (pc := 13) dX11_classes_13 (by decide) (by omega) (fun c_13 => ?_) (fun c_13 => ?_)
      · skip
        refine x_bipush (pc := 22) dX11_classes_22 (by decide) ?_
        refine x_rI (pc := 24) dX11_classes_24 rfl ?_
        exact Or.inl ⟨by omega, rfl, rfl⟩
      · skip
        refine x_iloadn (pc := 16) dX11_classes_16 rfl ?_
        refine x_bipush (pc := 17) dX11_classes_17 (by decide) ?_
        refine x_cle (tgt := 25) (pc := 19) dX11_classes_19 (by decide) (by omega) (fun c_19 => ?_) (fun c_19 => ?_)
        · skip
          refine x_iloadn (pc := 25) dX11_classes_25 rfl ?_
          refine x_iconst (pc := 26) dX11_classes_26 ?_
          refine x_clt (tgt := 48) (pc := 27) dX11_classes_27 (by decide) (by omega) (fun c_27 => ?_) (fun c_27 => ?_)
          · skip
            refine x_bipush (pc := 48) dX11_classes_48 (by decide) ?_
            refine x_rI (pc := 50) dX11_classes_50 rfl ?_
            exact Or.inl ⟨by omega, rfl, rfl⟩
          · skip
            refine x_iloadn (pc := 30) dX11_classes_30 rfl ?_
            refine x_bipush (pc := 31) dX11_classes_31 (by decide) ?_
            refine x_cgt (tgt := 48) (pc := 33) dX11_classes_33 (by decide) (by omega) (fun c_33 => ?_) (fun c_33 => ?_)
            · skip
              refine x_bipush (pc := 48) dX11_classes_48 (by decide) ?_
              refine x_rI (pc := 50) dX11_classes_50 rfl ?_
              exact Or.inl ⟨by omega, rfl, rfl⟩
            · skip
              refine x_iload (pc := 36) dX11_classes_36 rfl ?_
              refine x_iconst (pc := 38) dX11_classes_38 ?_
              refine x_clt (tgt := 48) (pc := 39) dX11_classes_39 (by decide) (by omega) (fun c_39 => ?_) (fun c_39 => ?_)
              · skip
                refine x_bipush (pc := 48) dX11_classes_48 (by decide) ?_
                refine x_rI (pc := 50) dX11_classes_50 rfl ?_
                exact Or.inl ⟨by omega, rfl, rfl⟩
              · skip
                refine x_iload (pc := 42) dX11_classes_42 rfl ?_
                refine x_iloadn (pc := 44) dX11_classes_44 rfl ?_
                refine x_clt (tgt := 51) (pc := 45) dX11_classes_45 (by decide) (by omega) (fun c_45 => ?_) (fun c_45 => ?_)
                · skip
                  obtain ⟨p, rfl⟩ : ∃ j : Nat, p = j := ⟨p.toNat, by omega⟩
                  obtain ⟨q, rfl⟩ : ∃ j : Nat, q = j := ⟨q.toNat, by omega⟩
                  obtain ⟨n, rfl⟩ : ∃ j : Nat, n = j := ⟨n.toNat, by omega⟩
                  refine x_aloadn (pc := 51) dX11_classes_51 rfl ?_
                  refine x_getR (84) (pc := 52) dX11_classes_52 fl_X11_46 k_1 (hL 1 (by decide) (by decide)) (f_1_5 hF) ?_
                  refine x_iloadn (pc := 55) dX11_classes_55 rfl ?_
                  refine x_cVV (pc := 56) dX11_classes_56 lk_X11_195 (c_Al_begin hA hL hF (by omega)) k_84 ⟨by decide, rfl⟩ (hL 84 (by decide) (by decide)) (⟨by decide, by decide⟩) (Nat.le_of_ble_eq_true rfl) rfl ?_
                  rintro G1 ⟨a1, a2, hF⟩
                  refine x_aloadn (pc := 59) dX11_classes_59 rfl ?_
                  refine x_getR (84) (pc := 60) dX11_classes_60 fl_X11_46 k_1 (hL 1 (by decide) (by decide)) (f_1_5 hF) ?_
                  refine x_iloadn (pc := 63) dX11_classes_63 rfl ?_
                  refine x_cVV (pc := 64) dX11_classes_64 lk_X11_198 (c_Al_ja (E := fun _ _ => False) hA hL hF (by omega) a1 zMn.id) k_84 ⟨by decide, rfl⟩ (hL 84 (by decide) (by decide)) (⟨by decide, by decide⟩) (Nat.le_of_ble_eq_true rfl) rfl ?_
                  rintro G2 ⟨⟨f2, mk2, b1, b2⟩, b3, hF⟩
                  refine x_aloadn (pc := 67) dX11_classes_67 rfl ?_
                  refine x_getR (84) (pc := 68) dX11_classes_68 fl_X11_46 k_1 (hL 1 (by decide) (by decide)) (f_1_5 hF) ?_
                  refine x_iloadn (pc := 71) dX11_classes_71 rfl ?_
                  refine x_cVV (pc := 72) dX11_classes_72 lk_X11_198 (c_Al_ja hA hL hF (by omega) b1 b2) k_84 ⟨by decide, rfl⟩ (hL 84 (by decide) (by decide)) (⟨by decide, by decide⟩) (Nat.le_of_ble_eq_true rfl) rfl ?_
                  rintro G3 ⟨⟨f3, mk3, d1, d2⟩, d3, hF⟩
                  have hM : zMn (zCE n p q) f3 := fun i => ⟨(d2 i).1, zQ.mono (fun i j e => .base (by rcases e with (e | e) | e; exact e.elim; exact Or.inl e; exact Or.inr e)) (d2 i).2.1, fun j e => (d2 i).2.2 j (by rcases e with e | e; exact Or.inl (Or.inr e); exact Or.inr e)⟩
                  refine x_aloadn (pc := 75) dX11_classes_75 rfl ?_
                  refine x_getR (84) (pc := 76) dX11_classes_76 fl_X11_46 k_1 (hL 1 (by decide) (by decide)) (f_1_5 hF) ?_
                  refine x_iload (pc := 79) dX11_classes_79 rfl ?_
                  refine x_iconst (pc := 81) dX11_classes_81 ?_
                  refine x_cne (tgt := 89) (pc := 82) dX11_classes_82 (by decide) (by omega) (fun c_82 => ?_) (fun c_82 => ?_)
                  · skip
                    refine x_aloadn (pc := 89) dX11_classes_89 rfl ?_
                    refine x_getR (84) (pc := 90) dX11_classes_90 fl_X11_46 k_1 (hL 1 (by decide) (by decide)) (f_1_5 hF) ?_
                    refine x_iload (pc := 93) dX11_classes_93 rfl ?_
                    refine x_cVI (pc := 95) dX11_classes_95 lk_X11_201 (c_Al_first hA hL hF d1.1 d1.2.1 (by omega)) k_84 ⟨by decide, rfl⟩ (hL 84 (by decide) (by decide)) (⟨by decide, by decide⟩) (Nat.le_of_ble_eq_true rfl) rfl ?_
                    rintro x G' ⟨hx, hG⟩
                    subst hG
                    obtain ⟨w, rfl⟩ : ∃ j : Nat, w = j := ⟨w.toNat, by omega⟩
                    have hx2 : x = f3 w := by rw [hx, if_pos (by omega), Int.toNat_natCast]; exact (d1.2.2.1 w (by omega)).1
                    subst hx2
                    have hfw := (hM w).1
                    have hzl := zld_le (f := f3) (f3 w)
                    refine x_cVI (pc := 98) dX11_classes_98 lk_X11_204 (c_Al_ca hA hL hF d1 (by omega)) k_84 ⟨by decide, rfl⟩ (hL 84 (by decide) (by decide)) (⟨by decide, by decide⟩) (Nat.le_of_ble_eq_true rfl) rfl ?_
                    rintro x G' ⟨rfl, rfl⟩
                    refine x_rI (pc := 101) dX11_classes_101 rfl ?_
                    refine Or.inr ⟨by omega, ⟨f3, by rw [Int.toNat_natCast, Int.toNat_natCast, Int.toNat_natCast]; exact hM, ?_⟩, (a2.tr (b3.mono (by simp))).tr (d3.mono (by simp)), hF⟩
                    first
                    | (rw [if_neg (by omega), Int.toNat_natCast]; done)
                    | (rw [if_pos (by omega), Int.toNat_natCast]; done)
                  · skip
                    refine x_iloadn (pc := 85) dX11_classes_85 rfl ?_
                    refine x_goto (tgt := 98) (pc := 86) dX11_classes_86 (by decide) ?_
                    refine x_cVI (pc := 98) dX11_classes_98 lk_X11_204 (c_Al_ca hA hL hF d1 (by omega)) k_84 ⟨by decide, rfl⟩ (hL 84 (by decide) (by decide)) (⟨by decide, by decide⟩) (Nat.le_of_ble_eq_true rfl) rfl ?_
                    rintro x G' ⟨rfl, rfl⟩
                    refine x_rI (pc := 101) dX11_classes_101 rfl ?_
                    refine Or.inr ⟨by omega, ⟨f3, by rw [Int.toNat_natCast, Int.toNat_natCast, Int.toNat_natCast]; exact hM, ?_⟩, (a2.tr (b3.mono (by simp))).tr (d3.mono (by simp)), hF⟩
                    first
                    | (rw [if_neg (by omega), Int.toNat_natCast]; done)
                    | (rw [if_pos (by omega), Int.toNat_natCast]; done)
                · skip
                  refine x_bipush (pc := 48) dX11_classes_48 (by decide) ?_
                  refine x_rI (pc := 50) dX11_classes_50 rfl ?_
                  exact Or.inl ⟨by omega, rfl, rfl⟩
        · skip
          refine x_bipush (pc := 22) dX11_classes_22 (by decide) ?_
          refine x_rI (pc := 24) dX11_classes_24 rfl ?_
          exact Or.inl ⟨by omega, rfl, rfl⟩

