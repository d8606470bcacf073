/-! the class: follow's beginning, and from 67 with the graph there -/
section XF6
variable {L : List Nat} {S : Nat → Nat} {I : Nat → Nat → Nat} {e q m : Nat}
theorem l_ch_f0 {mc ms k n : Nat} {Q : x_Q} {o3 : Option (Nat × Int)} {G : Nat → Nat → Int} (hL : x_SL L) (hF : x_Fin xFL G) (he : e < 4) (hfo : G 67 e = 0 ∨ G 67 e = 1)
    (c1 : G 67 e = 1 → Q (some (vI (G 68 e))) L G)
    (c2 : G 67 e = 0 → x_Fin xFL (x_up (x_up G 67 e 1) 68 e (-4)) → X mX2_follow 6 mc ms Q 43 [some (vR 66), some (vR 4), some (vI e), some (vI 0)] [] L (x_up (x_up G 67 e 1) 68 e (-4)) k n) :
    X mX2_follow 6 mc ms Q 0 [some (vR 66), some (vR 4), some (vI e), o3] [] L G k n := by
  rcases hfo with h | h
  · have c2 := c2 h
    refine x_iloadn (pc := 0) dX2_follow_0 rfl ?_
    refine x_cSNI (pc := 1) dX2_follow_1 lk_X2_43 (c_ts_none (by omega)) (⟨by decide, by decide⟩) (Nat.le_of_ble_eq_true rfl) rfl ?_
    rintro x G' ⟨rfl, h_G⟩
    obtain rfl := h_G.symm
    refine x_ieq (tgt := 10) (pc := 4) dX2_follow_4 (by decide) (by split <;> omega) (fun c_4 => ?_) (fun c_4 => ?_)
    rotate_left
    · skip
      exact absurd c_4 (by rw [if_pos (by omega)]; decide)
    refine x_aloadn (pc := 10) dX2_follow_10 rfl ?_
    refine x_getR (67) (pc := 11) dX2_follow_11 fl_X2_9 k_66 (hL 66 (by decide) (by decide)) (f_66_0 hF) ?_
    refine x_iloadn (pc := 14) dX2_follow_14 rfl ?_
    refine x_zald (e) (pc := 15) dX2_follow_15 k_67 (hL 67 (by decide) (by decide)) (⟨by omega, by omega, by decide⟩) ?_
    rw [h]
    refine x_ieq (tgt := 26) (pc := 16) dX2_follow_16 (by decide) (by omega) (fun c_16 => ?_) (fun c_16 => ?_)
    rotate_left
    · skip
      exact absurd rfl c_16
    refine x_aloadn (pc := 26) dX2_follow_26 rfl ?_
    refine x_getR (67) (pc := 27) dX2_follow_27 fl_X2_9 k_66 (hL 66 (by decide) (by decide)) (f_66_0 hF) ?_
    refine x_iloadn (pc := 30) dX2_follow_30 rfl ?_
    refine x_iconst (pc := 31) dX2_follow_31 ?_
    refine x_zastF (e) (pc := 32) dX2_follow_32 k_67 (hL 67 (by decide) (by decide)) (⟨by omega, by omega, by decide⟩) (by omega) hF (fun hF => ?_)
    refine x_aloadn (pc := 33) dX2_follow_33 rfl ?_
    refine x_getR (68) (pc := 34) dX2_follow_34 fl_X2_15 k_66 (hL 66 (by decide) (by decide)) (f_66_1 hF) ?_
    refine x_iloadn (pc := 37) dX2_follow_37 rfl ?_
    refine x_bipush (pc := 38) dX2_follow_38 (by decide) ?_
    refine x_iastF (e) (pc := 40) dX2_follow_40 k_68 (hL 68 (by decide) (by decide)) (⟨by omega, by omega, by decide⟩) hF (fun hF => ?_)
    refine x_iconst (pc := 41) dX2_follow_41 ?_
    refine x_istoren (pc := 42) dX2_follow_42 rfl (by decide) rfl ?_
    exact c2 hF
  · have c1 := c1 h
    refine x_iloadn (pc := 0) dX2_follow_0 rfl ?_
    refine x_cSNI (pc := 1) dX2_follow_1 lk_X2_43 (c_ts_none (by omega)) (⟨by decide, by decide⟩) (Nat.le_of_ble_eq_true rfl) rfl ?_
    rintro x G' ⟨rfl, h_G⟩
    obtain rfl := h_G.symm
    refine x_ieq (tgt := 10) (pc := 4) dX2_follow_4 (by decide) (by split <;> omega) (fun c_4 => ?_) (fun c_4 => ?_)
    rotate_left
    · skip
      exact absurd c_4 (by rw [if_pos (by omega)]; decide)
    refine x_aloadn (pc := 10) dX2_follow_10 rfl ?_
    refine x_getR (67) (pc := 11) dX2_follow_11 fl_X2_9 k_66 (hL 66 (by decide) (by decide)) (f_66_0 hF) ?_
    refine x_iloadn (pc := 14) dX2_follow_14 rfl ?_
    refine x_zald (e) (pc := 15) dX2_follow_15 k_67 (hL 67 (by decide) (by decide)) (⟨by omega, by omega, by decide⟩) ?_
    rw [h]
    refine x_ieq (tgt := 26) (pc := 16) dX2_follow_16 (by decide) (by omega) (fun c_16 => ?_) (fun c_16 => ?_)
    · skip
      exact absurd c_16 (by decide)
    refine x_aloadn (pc := 19) dX2_follow_19 rfl ?_
    refine x_getR (68) (pc := 20) dX2_follow_20 fl_X2_15 k_66 (hL 66 (by decide) (by decide)) (f_66_1 hF) ?_
    refine x_iloadn (pc := 23) dX2_follow_23 rfl ?_
    refine x_iald (e) (pc := 24) dX2_follow_24 k_68 (hL 68 (by decide) (by decide)) (⟨by omega, by omega, by decide⟩) ?_
    exact x_iret dX2_follow_25 rfl c1
theorem l_ch_f67 {mc ms k n : Nat} {Q : x_Q} {o3 : Option (Nat × Int)} {G : Nat → Nat → Int} (hL : x_SL L) (hF : x_Fin xFL G) (hgr : G 66 8 = ((173 : Nat) : Int)) (cont : X mX2_follow 6 mc ms Q 85 [some (vR 66), some (vR 4), some (vI e), o3] [] L G k n) :
    X mX2_follow 6 mc ms Q 67 [some (vR 66), some (vR 4), some (vI e), o3] [] L G k n := by
  refine x_aloadn (pc := 67) dX2_follow_67 rfl ?_
  refine x_getR (173) (pc := 68) dX2_follow_68 fl_X2_39 k_66 (hL 66 (by decide) (by decide)) hgr ?_
  refine x_nonnull (tgt := 85) (pc := 71) dX2_follow_71 (by decide) ?_
  exact cont
end XF6

