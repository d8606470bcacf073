/-! the class: no unknown more than twice -/
section XF5
variable {L : List Nat} {S : Nat → Nat} {I : Nat → Nat → Nat} {e m : Nat}
theorem l_ch_f43 {mc ms k n : Nat} {Q : x_Q} {G : Nat → Nat → Int} (hL : x_SL L) (hF : x_Fin xFL G) (hE : cEq m S I G) (he : e < m) (bad : zbad S I e → Q (some (vI (-4))) L G)
    (good : ¬ zbad S I e → X mX2_follow 6 mc ms Q 67 [some (vR 66), some (vR 4), some (vI e), some (vI 4)] [] L G k n) :
    ∀ (r u : Nat), u + r = 4 → (∀ v, v < u → ¬ 2 < zct I (2 * e) v (S (2 * e)) + zct I (2 * e + 1) v (S (2 * e + 1))) →
      X mX2_follow 6 mc ms Q 43 [some (vR 66), some (vR 4), some (vI e), some (vI u)] [] L G k n := by
  have hm4 := hE.2.1
  intro r
  induction r with
  | zero =>
    intro u hu hz
    have hu : u = 4 := by omega
    subst hu
    refine x_iloadn (pc := 43) dX2_follow_43 rfl ?_
    refine x_iconst (pc := 44) dX2_follow_44 ?_
    refine x_cge (tgt := 67) (pc := 45) dX2_follow_45 (by decide) (by omega) (fun c_45 => ?_) (fun c_45 => ?_)
    rotate_left
    · skip
      exact absurd c_45 (by decide)
    exact good (fun ⟨v, w1, w2⟩ => hz v w1 w2)
  | succ r ih =>
    intro u hu hz
    have hs1 := hE.2.2 (2 * e) (by omega)
    have hs2 := hE.2.2 (2 * e + 1) (by omega)
    have hz1 := zct_le (I := I) (q := 2 * e) (u := u) (S (2 * e))
    have hz2 := zct_le (I := I) (q := 2 * e + 1) (u := u) (S (2 * e + 1))
    have n1 := hs1.2.1
    have n2 := hs2.2.1
    refine x_iloadn (pc := 43) dX2_follow_43 rfl ?_
    refine x_iconst (pc := 44) dX2_follow_44 ?_
    refine x_cge (tgt := 67) (pc := 45) dX2_follow_45 (by decide) (by omega) (fun c_45 => ?_) (fun c_45 => ?_)
    · skip
      exact absurd c_45 (by omega)
    refine x_aloadn (pc := 48) dX2_follow_48 rfl ?_
    refine x_iloadn (pc := 49) dX2_follow_49 rfl ?_
    refine x_iloadn (pc := 50) dX2_follow_50 rfl ?_
    refine x_cVI (pc := 51) dX2_follow_51 lk_X2_47 (c_Eq_times hL hF hE he (show u < 4 by omega)) k_4 ⟨by decide, rfl⟩ (hL 4 (by decide) (by decide)) (⟨by decide, by decide⟩) (Nat.le_of_ble_eq_true rfl) rfl ?_
    rintro x G' ⟨rfl, h_G⟩
    obtain rfl := h_G.symm
    refine x_iconst (pc := 54) dX2_follow_54 ?_
    refine x_cle (tgt := 61) (pc := 55) dX2_follow_55 (by decide) (by omega) (fun c_55 => ?_) (fun c_55 => ?_)
    · skip
      refine x_iinc (pc := 61) dX2_follow_61 rfl (by decide) rfl ?_
      refine x_goto (tgt := 43) (pc := 64) dX2_follow_64 (by decide) ?_
      refine ih (u + 1) (by omega) (fun v hv w => ?_)
      by_cases c : v = u
      · rw [c] at w; omega
      · exact hz v (by omega) w
    · skip
      refine x_bipush (pc := 58) dX2_follow_58 (by decide) ?_
      exact x_iret dX2_follow_60 rfl (bad ⟨u, by omega, by omega⟩)
end XF5

