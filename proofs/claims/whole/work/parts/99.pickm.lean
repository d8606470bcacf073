/-! the reference: one of the letters left -/
theorem zbt_int {a n : Nat} : ((a : Nat) : Int) / 2 ^ n % 2 = ((zbt a n : Nat) : Int) := by unfold zbt; rw [Int.natCast_emod, Int.natCast_ediv, Int.natCast_pow]; rfl
theorem zps_up : ∀ a, a < 8 → ∀ l, l < 3 → zps a (l + 1) = zps a l + zbt a l := by decide
theorem zps_3 : ∀ a, a < 8 → zps a 3 = zpop a := by decide
section XPK
variable {L : List Nat}
theorem l_mo_pk2 {a k : Nat} {G : Nat → Nat → Int} (ha : a < 8) (hk : k < zpop a) :
    ∀ (r l : Nat) (v : Int), l + r = 3 → ((zps a l ≤ k ∧ zlaf a k r l = zla a k) ∨ (k < zps a l ∧ v = zla a k)) → X mX12_pick 0 0 0 (qI L fun x G' => x = zla a k ∧ G' = G) 38 [some (vI a), some (vI k), some (vI ((k : Int) - (zps a l : Nat))), some (vI v), some (vI l)] [] L G 0 0 := by
  have hp3 := zpop_3 a ha
  intro r
  induction r with
  | zero =>
    intro l v hl hv
    have hl : l = 3 := by omega
    subst hl
    have h3 := zps_3 a ha
    rcases hv with ⟨h, _⟩ | ⟨_, h⟩
    · omega
    subst h
    refine x_iload (pc := 38) dX12_pick_38 rfl ?_
    refine x_iconst (pc := 40) dX12_pick_40 ?_
    refine x_cge (tgt := 74) (pc := 41) dX12_pick_41 (by decide) (by omega) (fun c_41 => ?_) (fun c_41 => ?_)
    rotate_left
    · skip
      exact absurd c_41 (by decide)
    refine x_iloadn (pc := 74) dX12_pick_74 rfl ?_
    refine x_rI (pc := 75) dX12_pick_75 rfl ?_
    exact ⟨rfl, rfl⟩
  | succ r ih =>
    intro l v hl hv
    have hup := zps_up a ha l (by omega)
    have hb := zbt_01 a l
    have hz := zbt_int (a := a) (n := l)
    have hun : zlaf a k (r + 1) l = if zbt a l = 1 ∧ ((zps a l : Nat) : Int) = (k : Int) then ((l : Nat) : Int) else zlaf a k r (l + 1) := rfl
    have hps : zps a l ≤ 3 := by
      have hall : ∀ a, a < 8 → ∀ l, l < 3 → zps a l ≤ 3 := by decide
      exact hall a ha l (by omega)
    have nx0 : zbt a l = 0 → ((zps a (l + 1) ≤ k ∧ zlaf a k r (l + 1) = zla a k) ∨ (k < zps a (l + 1) ∧ v = zla a k)) := fun e => by
      rw [if_neg (fun w => by omega)] at hun
      rcases hv with ⟨h1, h2⟩ | ⟨h1, h2⟩
      · exact Or.inl ⟨by omega, by rw [← hun]; exact h2⟩
      · exact Or.inr ⟨by omega, h2⟩
    have nx1 : zbt a l = 1 → k ≠ zps a l → ((zps a (l + 1) ≤ k ∧ zlaf a k r (l + 1) = zla a k) ∨ (k < zps a (l + 1) ∧ v = zla a k)) := fun e e2 => by
      rw [if_neg (fun w => by omega)] at hun
      rcases hv with ⟨h1, h2⟩ | ⟨h1, h2⟩
      · exact Or.inl ⟨by omega, by rw [← hun]; exact h2⟩
      · exact Or.inr ⟨by omega, h2⟩
    have nx2 : zbt a l = 1 → k = zps a l → ((zps a (l + 1) ≤ k ∧ zlaf a k r (l + 1) = zla a k) ∨ (k < zps a (l + 1) ∧ ((l : Nat) : Int) = zla a k)) := fun e e2 => by
      rw [if_pos ⟨e, by omega⟩] at hun
      rcases hv with ⟨h1, h2⟩ | ⟨h1, h2⟩
      · exact Or.inr ⟨by omega, by rw [← hun]; exact h2⟩
      · omega
    refine x_iload (pc := 38) dX12_pick_38 rfl ?_
    refine x_iconst (pc := 40) dX12_pick_40 ?_
    refine x_cge (tgt := 74) (pc := 41) dX12_pick_41 (by decide) (by omega) (fun c_41 => ?_) (fun c_41 => ?_)
    · skip
      exact absurd c_41 (by omega)
    refine x_iloadn (pc := 44) dX12_pick_44 rfl ?_
    refine x_iload (pc := 45) dX12_pick_45 rfl ?_
    refine x_ishr (pc := 47) dX12_pick_47 l (by omega) (by omega) (by omega) ?_
    refine x_iconst (pc := 48) dX12_pick_48 ?_
    refine x_iandm (pc := 49) dX12_pick_49 1 2 (by decide) (by decide) (by decide) ?_
    rw [hz]
    refine x_iconst (pc := 50) dX12_pick_50 ?_
    refine x_cne (tgt := 68) (pc := 51) dX12_pick_51 (by decide) (by omega) (fun c_51 => ?_) (fun c_51 => ?_)
    · skip
      refine x_iinc (pc := 68) dX12_pick_68 rfl (by decide) rfl ?_
      refine x_goto (tgt := 38) (pc := 71) dX12_pick_71 (by decide) ?_
      first
      | (have e := ih (l + 1) v (by omega) (nx0 (by omega))
         rw [hup, show zbt a l = 0 by omega] at e
         exact e)
      | (have e := ih (l + 1) v (by omega) (nx1 (by omega) (by omega))
         rw [show ((k : Int) - (zps a (l + 1) : Nat)) = (k : Int) - (zps a l : Nat) + (-1) by omega] at e
         exact e)
      | (have e := ih (l + 1) l (by omega) (nx2 (by omega) (by omega))
         rw [show ((k : Int) - (zps a (l + 1) : Nat)) = (k : Int) - (zps a l : Nat) + (-1) by omega] at e
         exact e)
    · skip
      refine x_iloadn (pc := 54) dX12_pick_54 rfl ?_
      refine x_ine (tgt := 63) (pc := 55) dX12_pick_55 (by decide) (by omega) (fun c_55 => ?_) (fun c_55 => ?_)
      · skip
        refine x_iloadn (pc := 63) dX12_pick_63 rfl ?_
        refine x_istoren (pc := 64) dX12_pick_64 rfl (by decide) rfl ?_
        refine x_iinc (pc := 65) dX12_pick_65 rfl (by decide) rfl ?_
        refine x_iinc (pc := 68) dX12_pick_68 rfl (by decide) rfl ?_
        refine x_goto (tgt := 38) (pc := 71) dX12_pick_71 (by decide) ?_
        first
        | (have e := ih (l + 1) v (by omega) (nx0 (by omega))
           rw [hup, show zbt a l = 0 by omega] at e
           exact e)
        | (have e := ih (l + 1) v (by omega) (nx1 (by omega) (by omega))
           rw [show ((k : Int) - (zps a (l + 1) : Nat)) = (k : Int) - (zps a l : Nat) + (-1) by omega] at e
           exact e)
        | (have e := ih (l + 1) l (by omega) (nx2 (by omega) (by omega))
           rw [show ((k : Int) - (zps a (l + 1) : Nat)) = (k : Int) - (zps a l : Nat) + (-1) by omega] at e
           exact e)
      · skip
        refine x_iload (pc := 58) dX12_pick_58 rfl ?_
        refine x_goto (tgt := 64) (pc := 60) dX12_pick_60 (by decide) ?_
        refine x_istoren (pc := 64) dX12_pick_64 rfl (by decide) rfl ?_
        refine x_iinc (pc := 65) dX12_pick_65 rfl (by decide) rfl ?_
        refine x_iinc (pc := 68) dX12_pick_68 rfl (by decide) rfl ?_
        refine x_goto (tgt := 38) (pc := 71) dX12_pick_71 (by decide) ?_
        first
        | (have e := ih (l + 1) v (by omega) (nx0 (by omega))
           rw [hup, show zbt a l = 0 by omega] at e
           exact e)
        | (have e := ih (l + 1) v (by omega) (nx1 (by omega) (by omega))
           rw [show ((k : Int) - (zps a (l + 1) : Nat)) = (k : Int) - (zps a l : Nat) + (-1) by omega] at e
           exact e)
        | (have e := ih (l + 1) l (by omega) (nx2 (by omega) (by omega))
           rw [show ((k : Int) - (zps a (l + 1) : Nat)) = (k : Int) - (zps a l : Nat) + (-1) by omega] at e
           exact e)
theorem l_mo_pk1 {a k : Nat} {G : Nat → Nat → Int} (ha : a < 8) (hk : k < zpop a) :
    ∀ (n : Nat) (v : Int), n ≤ 3 → X mX12_pick 0 0 0 (qI L fun x G' => x = zla a k ∧ G' = G) 7 [some (vI a), some (vI k), some (vI k), some (vI v), some (vI ((n : Int) - 1))] [] L G 0 0 := by
  have hp3 := zpop_3 a ha
  have hz0 : zps a 0 = 0 := by
    have hall : ∀ a, a < 8 → zps a 0 = 0 := by decide
    exact hall a ha
  intro n
  induction n with
  | zero =>
    intro v hn
    refine x_iload (pc := 7) dX12_pick_7 rfl ?_
    refine x_ilt (tgt := 35) (pc := 9) dX12_pick_9 (by decide) (by omega) (fun c_9 => ?_) (fun c_9 => ?_)
    rotate_left
    · skip
      exact absurd c_9 (by omega)
    refine x_iconst (pc := 35) dX12_pick_35 ?_
    refine x_istore (pc := 36) dX12_pick_36 (by decide) rfl ?_
    have e := l_mo_pk2 (L := L) (G := G) ha hk 3 0 v (by omega) (Or.inl ⟨by omega, rfl⟩)
    rw [hz0] at e
    rw [show ((k : Int) - ((0 : Nat) : Int)) = (k : Int) by omega] at e
    exact e
  | succ n ih =>
    intro v hn
    have hz := zbt_int (a := a) (n := n)
    have hb := zbt_01 a n
    have ihv := fun v => ih v (by omega)
    rw [show ((n + 1 : Nat) : Int) - 1 = (n : Int) by omega]
    refine x_iload (pc := 7) dX12_pick_7 rfl ?_
    refine x_ilt (tgt := 35) (pc := 9) dX12_pick_9 (by decide) (by omega) (fun c_9 => ?_) (fun c_9 => ?_)
    · skip
      exact absurd c_9 (by omega)
    refine x_iloadn (pc := 12) dX12_pick_12 rfl ?_
    refine x_iload (pc := 13) dX12_pick_13 rfl ?_
    refine x_ishr (pc := 15) dX12_pick_15 n (by omega) (by omega) (by omega) ?_
    refine x_iconst (pc := 16) dX12_pick_16 ?_
    refine x_iandm (pc := 17) dX12_pick_17 1 2 (by decide) (by decide) (by decide) ?_
    rw [hz]
    refine x_iconst (pc := 18) dX12_pick_18 ?_
    refine x_cne (tgt := 27) (pc := 19) dX12_pick_19 (by decide) (by omega) (fun c_19 => ?_) (fun c_19 => ?_)
    · skip
      refine x_iloadn (pc := 27) dX12_pick_27 rfl ?_
      refine x_istoren (pc := 28) dX12_pick_28 rfl (by decide) rfl ?_
      refine x_iinc (pc := 29) dX12_pick_29 rfl (by decide) rfl ?_
      refine x_goto (tgt := 7) (pc := 32) dX12_pick_32 (by decide) ?_
      exact ihv _
    · skip
      refine x_iload (pc := 22) dX12_pick_22 rfl ?_
      refine x_goto (tgt := 28) (pc := 24) dX12_pick_24 (by decide) ?_
      refine x_istoren (pc := 28) dX12_pick_28 rfl (by decide) rfl ?_
      refine x_iinc (pc := 29) dX12_pick_29 rfl (by decide) rfl ?_
      refine x_goto (tgt := 7) (pc := 32) dX12_pick_32 (by decide) ?_
      exact ihv _
theorem c_mo_pick {a k : Nat} {G : Nat → Nat → Int} (ha : a < 8) (hk : k < zpop a) :
    CM yX12_pick mX12_pick 0 0 0 [vI a, vI k] L G (qI L fun x G' => x = zla a k ∧ G' = G) := by
  refine Ct.of_X (μ := mX12_pick) rfl rfl (by decide) (fun h => by cases h) (Nat.le_of_ble_eq_true rfl) rfl ?_
  refine x_iloadn (pc := 0) dX12_pick_0 rfl ?_
  refine x_istoren (pc := 1) dX12_pick_1 rfl (by decide) rfl ?_
  refine x_iconst (pc := 2) dX12_pick_2 ?_
  refine x_istoren (pc := 3) dX12_pick_3 rfl (by decide) rfl ?_
  refine x_iconst (pc := 4) dX12_pick_4 ?_
  refine x_istore (pc := 5) dX12_pick_5 (by decide) rfl ?_
  exact l_mo_pk1 ha hk 3 0 (Nat.le_refl _)
end XPK

