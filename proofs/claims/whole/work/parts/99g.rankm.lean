/-! the reference's rankNow: letters below the one told -/
section XRM
variable {L : List Nat}
theorem l_mo_less {Q : x_Q} {a l x : Nat} {w1 w3 : Int} {o6 o7 o8 : Option (Nat × Int)} {G : Nat → Nat → Int} (hL : x_SL L) (hF : x_Fin xFL G) (hc : G 147 x = ((a : Nat) : Int)) (ha : a < 8) (hx : x < 35) (hl : l < 4) {n : Int}
    (cont : X mX12_rankNow 1 0 0 Q 136 [some (vR 127), some (vL w1), none, some (vL w3), none, some (vI x), some (vI l), o7, some (vI n), some (vI ((zps a l : Nat) : Int)), some (vI l)] [] L G 0 0) :
    ∀ (r j : Nat), j + r = l → X mX12_rankNow 1 0 0 Q 106 [some (vR 127), some (vL w1), none, some (vL w3), none, some (vI x), some (vI l), o7, some (vI n), some (vI ((zps a j : Nat) : Int)), some (vI j)] [] L G 0 0 := by
  intro r
  induction r with
  | zero =>
    intro j hj
    have hj : j = l := by omega
    subst hj
    refine x_iload (pc := 106) dX12_rankNow_106 rfl ?_
    refine x_iload (pc := 108) dX12_rankNow_108 rfl ?_
    refine x_cge (tgt := 136) (pc := 110) dX12_rankNow_110 (by decide) (by omega) (fun c_110 => ?_) (fun c_110 => ?_)
    rotate_left
    · skip
      exact absurd c_110 (by omega)
    exact cont
  | succ r ih =>
    intro j hj
    have hup := zps_up a ha j (by omega)
    have hb := zbt_01 a j
    have hz := zbt_int (a := a) (n := j)
    refine x_iload (pc := 106) dX12_rankNow_106 rfl ?_
    refine x_iload (pc := 108) dX12_rankNow_108 rfl ?_
    refine x_cge (tgt := 136) (pc := 110) dX12_rankNow_110 (by decide) (by omega) (fun c_110 => ?_) (fun c_110 => ?_)
    · skip
      exact absurd c_110 (by omega)
    refine x_iload (pc := 113) dX12_rankNow_113 rfl ?_
    refine x_aloadn (pc := 115) dX12_rankNow_115 rfl ?_
    refine x_getR (147) (pc := 116) dX12_rankNow_116 fl_X12_67 k_127 (hL 127 (by decide) (by decide)) (f_127_24 hF) ?_
    refine x_iload (pc := 119) dX12_rankNow_119 rfl ?_
    refine x_iald (x) (pc := 121) dX12_rankNow_121 k_147 (hL 147 (by decide) (by decide)) (⟨by omega, by omega, by decide⟩) ?_
    rw [hc]
    refine x_iload (pc := 122) dX12_rankNow_122 rfl ?_
    refine x_ishr (pc := 124) dX12_rankNow_124 j (by omega) (by omega) (by omega) ?_
    refine x_iconst (pc := 125) dX12_rankNow_125 ?_
    refine x_iandm (pc := 126) dX12_rankNow_126 1 2 (by decide) (by decide) (by decide) ?_
    rw [hz]
    refine x_iadd (pc := 127) dX12_rankNow_127 ?_
    refine x_istore (pc := 128) dX12_rankNow_128 (by decide) rfl ?_
    refine x_iinc (pc := 130) dX12_rankNow_130 rfl (by decide) rfl ?_
    refine x_goto (tgt := 106) (pc := 133) dX12_rankNow_133 (by decide) ?_
    have e := ih (j + 1) (by omega)
    rw [hup] at e
    exact e
end XRM

