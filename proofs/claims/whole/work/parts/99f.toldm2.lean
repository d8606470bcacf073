/-! the reference: what is told at a place -/
section XTN
variable {L : List Nat} {z tn : Nat → Nat} {tw : Nat → Int}
theorem l_mo_tA {p : Nat} {G : Nat → Nat → Int} (hL : x_SL L) (hF : x_Fin xFL G) (hz : mFL z G) (hb : mBg z G) (hT : mTd tw tn G) (hp : p < zbg z 4) :
    ∀ (r u : Nat), u = zun z p + r → u < 4 → X mX12_toldAt 0 0 0 (qI L fun x G' => x = ((zTp z tw p : Nat) : Int) ∧ G' = G) 2 [some (vR 127), some (vI p), some (vI u)] [] L G 0 0 := by
  obtain ⟨n1, n2, n3⟩ := zun_in hp
  have hzz := fun u hu => (hz u hu).2
  have hN := zbg_4 hzz 4 (Nat.le_refl _)
  have hbd := zlet_bd (tw (zun z p)) (p - zbg z (zun z p))
  have hTp : ((zTp z tw p : Nat) : Int) = zlet (tw (zun z p)) (p - zbg z (zun z p)) := Int.toNat_of_nonneg hbd.1
  intro r
  induction r with
  | zero =>
    intro u hu h4
    have hu : u = zun z p := by omega
    have b1 := hb u h4
    obtain ⟨z1, z2⟩ := hz u h4
    obtain ⟨t1, _, _, t4, _⟩ := hT u h4
    rw [← hu] at n2 n3 hTp
    have hbl := zbg_4 hzz u (by omega)
    refine x_aloadn (pc := 2) dX12_toldAt_2 rfl ?_
    refine x_getR (145) (pc := 3) dX12_toldAt_3 fl_X12_61 k_127 (hL 127 (by decide) (by decide)) (f_127_21 hF) ?_
    refine x_iloadn (pc := 6) dX12_toldAt_6 rfl ?_
    refine x_iald (u) (pc := 7) dX12_toldAt_7 k_145 (hL 145 (by decide) (by decide)) (⟨by omega, by omega, by decide⟩) ?_
    rw [b1]
    refine x_iloadn (pc := 8) dX12_toldAt_8 rfl ?_
    refine x_cgt (tgt := 21) (pc := 9) dX12_toldAt_9 (by decide) (by omega) (fun c_9 => ?_) (fun c_9 => ?_)
    · skip
      exact absurd c_9 (by omega)
    refine x_aloadn (pc := 12) dX12_toldAt_12 rfl ?_
    refine x_getR (144) (pc := 13) dX12_toldAt_13 fl_X12_58 k_127 (hL 127 (by decide) (by decide)) (f_127_20 hF) ?_
    refine x_iloadn (pc := 16) dX12_toldAt_16 rfl ?_
    refine x_iald (u) (pc := 17) dX12_toldAt_17 k_144 (hL 144 (by decide) (by decide)) (⟨by omega, by omega, by decide⟩) ?_
    rw [z1]
    refine x_ine (tgt := 27) (pc := 18) dX12_toldAt_18 (by decide) (by omega) (fun c_18 => ?_) (fun c_18 => ?_)
    rotate_left
    · skip
      exact absurd c_18 (by omega)
    refine x_aloadn (pc := 27) dX12_toldAt_27 rfl ?_
    refine x_getR (134) (pc := 28) dX12_toldAt_28 fl_X12_28 k_127 (hL 127 (by decide) (by decide)) (f_127_9 hF) ?_
    refine x_iloadn (pc := 31) dX12_toldAt_31 rfl ?_
    refine x_iald (u) (pc := 32) dX12_toldAt_32 k_134 (hL 134 (by decide) (by decide)) (⟨by omega, by omega, by decide⟩) ?_
    rw [t1]
    refine x_iconst (pc := 33) dX12_toldAt_33 ?_
    refine x_iloadn (pc := 34) dX12_toldAt_34 rfl ?_
    refine x_aloadn (pc := 35) dX12_toldAt_35 rfl ?_
    refine x_getR (145) (pc := 36) dX12_toldAt_36 fl_X12_61 k_127 (hL 127 (by decide) (by decide)) (f_127_21 hF) ?_
    refine x_iloadn (pc := 39) dX12_toldAt_39 rfl ?_
    refine x_iald (u) (pc := 40) dX12_toldAt_40 k_145 (hL 145 (by decide) (by decide)) (⟨by omega, by omega, by decide⟩) ?_
    rw [b1]
    refine x_isub (pc := 41) dX12_toldAt_41 ?_
    refine x_imul (pc := 42) dX12_toldAt_42 ?_
    refine x_ishr (pc := 43) dX12_toldAt_43 (2 * (p - zbg z u)) (by omega) (by omega) (by omega) ?_
    refine x_iconst (pc := 44) dX12_toldAt_44 ?_
    refine x_iandm (pc := 45) dX12_toldAt_45 2 4 (by decide) (by decide) (by decide) ?_
    refine x_rI (pc := 46) dX12_toldAt_46 rfl ?_
    exact ⟨by rw [hTp]; rfl, rfl⟩
  | succ r ih =>
    intro u hu h4
    have b1 := hb u h4
    obtain ⟨z1, z2⟩ := hz u h4
    have hle := zbg_le (z := z) (show zun z p + 1 ≤ u by omega)
    have hbs : zbg z (zun z p + 1) = zbg z (zun z p) + z (zun z p) := rfl
    have hbl := zbg_4 hzz u (by omega)
    refine x_aloadn (pc := 2) dX12_toldAt_2 rfl ?_
    refine x_getR (145) (pc := 3) dX12_toldAt_3 fl_X12_61 k_127 (hL 127 (by decide) (by decide)) (f_127_21 hF) ?_
    refine x_iloadn (pc := 6) dX12_toldAt_6 rfl ?_
    refine x_iald (u) (pc := 7) dX12_toldAt_7 k_145 (hL 145 (by decide) (by decide)) (⟨by omega, by omega, by decide⟩) ?_
    rw [b1]
    refine x_iloadn (pc := 8) dX12_toldAt_8 rfl ?_
    refine x_cgt (tgt := 21) (pc := 9) dX12_toldAt_9 (by decide) (by omega) (fun c_9 => ?_) (fun c_9 => ?_)
    rotate_left
    · skip
      exact absurd c_9 (by omega)
    refine x_iinc (pc := 21) dX12_toldAt_21 rfl (by decide) rfl ?_
    refine x_goto (tgt := 2) (pc := 24) dX12_toldAt_24 (by decide) ?_
    have e := ih (u - 1) (by omega) (by omega)
    rw [show ((u - 1 : Nat) : Int) = (u : Int) + -1 by omega] at e
    exact e
theorem c_mo_toldAt {p : Nat} {G : Nat → Nat → Int} (hL : x_SL L) (hF : x_Fin xFL G) (hz : mFL z G) (hb : mBg z G) (hT : mTd tw tn G) (hp : p < zbg z 4) :
    CM yX12_toldAt mX12_toldAt 0 0 0 [vR 127, vI p] L G (qI L fun x G' => x = ((zTp z tw p : Nat) : Int) ∧ G' = G) := by
  obtain ⟨n1, _, _⟩ := zun_in hp
  refine Ct.of_X (μ := mX12_toldAt) rfl rfl (by decide) (fun h => by cases h) (Nat.le_of_ble_eq_true rfl) rfl ?_
  refine x_iconst (pc := 0) dX12_toldAt_0 ?_
  refine x_istoren (pc := 1) dX12_toldAt_1 rfl (by decide) rfl ?_
  exact l_mo_tA hL hF hz hb hT hp (3 - zun z p) 3 (by omega) (by omega)
end XTN

