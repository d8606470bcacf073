/-! the class: the whole graph -/
def cGf (s0 : zSt) (G : Nat → Nat → Int) : Prop := cGn (zN s0 6000) G ∧ (∀ e, e < 4 * (zN s0 6000).length → G 187 e = ztg s0 e ∧ G 188 e = zfe s0 e) ∧ ∀ k, 1 ≤ k → k < (zN s0 6000).length → G 189 k = ((zcb s0 k : Nat) : Int)
def zffs (s : zSt) : Int := if zan2 (znm s) (znm (zsk s)) = 0 then 0 else 1
abbrev pGr (L : List Nat) (G0 : Nat → Nat → Int) (s0 : zSt) (f : Int) : x_Q := qV L fun G' => ((cGf s0 G' ∧ (zN s0 6000).length ≤ 1500 ∧ G' 173 15 = 0) ∨ (G' 173 15 = 1 ∧ 1500 < (zN s0 6000).length)) ∧ G' 173 16 = f ∧ FR z_exS G0 G' ∧ x_Fin xFL G' ∧ x_Fin xGL G'
section XGW
variable {L : List Nat} {s0 : zSt}
theorem l_gr_gw {r1 r2 : Nat} {U f : Int} {G0 : Nat → Nat → Int} (hL : x_SL L) (hM : x_GM L) (h0 : zvS s0) :
    ∀ (r k : Nat) (G : Nat → Nat → Int), k + r = 1501 → k ≤ 1500 → (cGa s0 (4 * k) G ∨ cGd s0 (4 * k) G) → G 173 16 = f → FR z_exS G0 G → x_Fin xFL G → x_Fin xGL G →
    X mX5_grow 5 0 0 (pGr L G0 s0 f) 79 [some (vR 173), some (vR r1), some (vR r2), some (vI U), some (vI k)] [] L G 0 0 := by
  intro r
  induction r with
  | zero =>
    intro k G hk hk2
    omega
  | succ r ih =>
    intro k G hk hk2 hst hff hQ hF hG
    rcases hst with ha | hd
    · obtain ⟨a1, a2, a3, a4, a5⟩ := id ha
      have g1 := a1.1
      by_cases c : k < (zN s0 (4 * k)).length
      · skip
        refine x_iload (pc := 79) dX5_grow_79 rfl ?_
        refine x_sipush (pc := 81) dX5_grow_81 (by decide) ?_
        refine x_cge (tgt := 115) (pc := 84) dX5_grow_84 (by decide) (by omega) (fun c_84 => ?_) (fun c_84 => ?_)
        · skip
          exact absurd c_84 (by omega)
        refine x_iload (pc := 87) dX5_grow_87 rfl ?_
        refine x_aloadn (pc := 89) dX5_grow_89 rfl ?_
        refine x_getI (pc := 90) dX5_grow_90 fl_X5_57 k_173 (hM 173 (by decide) (by decide)) ?_
        rw [g1]
        refine x_cge (tgt := 115) (pc := 93) dX5_grow_93 (by decide) (by omega) (fun c_93 => ?_) (fun c_93 => ?_)
        · skip
          exact absurd c_93 (by omega)
        refine x_aloadn (pc := 96) dX5_grow_96 rfl ?_
        refine x_getZ (pc := 97) dX5_grow_97 fl_X5_64 k_173 (hM 173 (by decide) (by decide)) ?_
        rw [a3]
        refine x_ine (tgt := 115) (pc := 100) dX5_grow_100 (by decide) (by omega) (fun c_100 => ?_) (fun c_100 => ?_)
        · skip
          exact absurd rfl c_100
        refine x_aloadn (pc := 103) dX5_grow_103 rfl ?_
        refine x_iload (pc := 104) dX5_grow_104 rfl ?_
        refine x_cVV (pc := 106) dX5_grow_106 lk_X5_92 (c_gr_expand (k := k) hL hM hF hG h0 ha c) k_173 ⟨by decide, rfl⟩ (hM 173 (by decide) (by decide)) (⟨by decide, by decide⟩) (Nat.le_of_ble_eq_true rfl) rfl ?_
        rintro G2 ⟨b1, b2, b3, hF, hG⟩
        refine x_iinc (pc := 109) dX5_grow_109 rfl (by decide) rfl ?_
        refine x_goto (tgt := 79) (pc := 112) dX5_grow_112 (by decide) ?_
        exact ih (k + 1) _ (by omega) (by omega) (by rw [show 4 * (k + 1) = 4 * k + 4 by omega]; exact b1) (b2.trans hff) (hQ.tr b3) hF hG
      · have hz : zN s0 6000 = zN s0 (4 * k) := zN_end (by omega) 6000 (by omega)
        refine x_iload (pc := 79) dX5_grow_79 rfl ?_
        refine x_sipush (pc := 81) dX5_grow_81 (by decide) ?_
        refine x_cge (tgt := 115) (pc := 84) dX5_grow_84 (by decide) (by omega) (fun c_84 => ?_) (fun c_84 => ?_)
        · skip
          refine x_rV (pc := 115) dX5_grow_115 rfl ?_
          refine ⟨Or.inl ⟨⟨by rw [hz]; exact a1, fun e he => ?_, fun k' k1 k2 => ?_⟩, by rw [hz]; exact a2, a3⟩, hff, hQ, hF, hG⟩
          · rw [hz] at he; exact a4 e (by omega)
          · rw [hz] at k2; exact a5 k' k1 k2
        · skip
          refine x_iload (pc := 87) dX5_grow_87 rfl ?_
          refine x_aloadn (pc := 89) dX5_grow_89 rfl ?_
          refine x_getI (pc := 90) dX5_grow_90 fl_X5_57 k_173 (hM 173 (by decide) (by decide)) ?_
          rw [g1]
          refine x_cge (tgt := 115) (pc := 93) dX5_grow_93 (by decide) (by omega) (fun c_93 => ?_) (fun c_93 => ?_)
          rotate_left
          · skip
            exact absurd c_93 (by omega)
          refine x_rV (pc := 115) dX5_grow_115 rfl ?_
          refine ⟨Or.inl ⟨⟨by rw [hz]; exact a1, fun e he => ?_, fun k' k1 k2 => ?_⟩, by rw [hz]; exact a2, a3⟩, hff, hQ, hF, hG⟩
          · rw [hz] at he; exact a4 e (by omega)
          · rw [hz] at k2; exact a5 k' k1 k2
    · obtain ⟨d1, d2, d3⟩ := hd
      have hl := zN_len (s0 := s0) (show 4 * k ≤ 6000 by omega)
      refine x_iload (pc := 79) dX5_grow_79 rfl ?_
      refine x_sipush (pc := 81) dX5_grow_81 (by decide) ?_
      refine x_cge (tgt := 115) (pc := 84) dX5_grow_84 (by decide) (by omega) (fun c_84 => ?_) (fun c_84 => ?_)
      · skip
        refine x_rV (pc := 115) dX5_grow_115 rfl ?_
        exact ⟨Or.inr ⟨d1, by omega⟩, hff, hQ, hF, hG⟩
      · skip
        refine x_iload (pc := 87) dX5_grow_87 rfl ?_
        refine x_aloadn (pc := 89) dX5_grow_89 rfl ?_
        refine x_getI (pc := 90) dX5_grow_90 fl_X5_57 k_173 (hM 173 (by decide) (by decide)) ?_
        rw [d2]
        refine x_cge (tgt := 115) (pc := 93) dX5_grow_93 (by decide) (by omega) (fun c_93 => ?_) (fun c_93 => ?_)
        · skip
          refine x_rV (pc := 115) dX5_grow_115 rfl ?_
          exact ⟨Or.inr ⟨d1, by omega⟩, hff, hQ, hF, hG⟩
        · skip
          refine x_aloadn (pc := 96) dX5_grow_96 rfl ?_
          refine x_getZ (pc := 97) dX5_grow_97 fl_X5_64 k_173 (hM 173 (by decide) (by decide)) ?_
          rw [d1]
          refine x_ine (tgt := 115) (pc := 100) dX5_grow_100 (by decide) (by omega) (fun c_100 => ?_) (fun c_100 => ?_)
          rotate_left
          · skip
            exact absurd c_100 (by decide)
          refine x_rV (pc := 115) dX5_grow_115 rfl ?_
          exact ⟨Or.inr ⟨d1, by omega⟩, hff, hQ, hF, hG⟩
theorem zex_no {r : Nat} (h : xSd r) (i : Nat) (hi : i ≤ 4) : r + i ∉ z_exS := fun w => by
  have h1 := sd_b h
  have h2 : 173 ≤ r + i := by
    have hall : ∀ x, x ∈ z_exS → 173 ≤ x := by decide
    exact hall _ w
  rcases h with ⟨k, k1, rfl⟩ | ⟨k, k1, rfl⟩ <;> omega
/-- the first one is met, then all -/
theorem l_gr_gwE {r1 r2 t : Nat} {U F : Int} {A B : List Nat} {G0 G : Nat → Nat → Int} (hL : x_SL L) (hM : x_GM L) (hF : x_Fin xFL G) (hG : x_Fin xGL G) (h0 : zvS s0) (hs : s0 = (A.drop t, B.drop t)) (ht : t ≤ A.length ∧ t ≤ B.length) (hn : A.length ≤ 32 ∧ B.length ≤ 32) (hth : c_th A B t G) (s13 : G 173 13 = 0) (s14 : G 173 14 = -1) (s15 : G 173 15 = 0) (sl : ∀ i, i < 4096 → G 186 i = 0) (hf : G 173 16 = F) (hQ : FR z_exS G0 G) :
    X mX5_grow 5 0 0 (pGr L G0 s0 F) 70 [some (vR 173), some (vR r1), some (vR r2), some (vI U), none] [] L G 0 0 := by
  have hg : cGn [] G := ⟨s13, s14, fun k s hk => by simp at hk, fun _ => 0, zHT_nil, fun i hi => sl i hi⟩
  refine x_aloadn (pc := 70) dX5_grow_70 rfl ?_
  refine x_iconst (pc := 71) dX5_grow_71 ?_
  refine x_cVI (pc := 72) dX5_grow_72 lk_X5_88 (c_gr_meet (ns := []) (e := -1) hL hM hF hG (Nat.zero_le _) List.nodup_nil (fun u hu => absurd hu (by simp)) hg hth hs h0 ht hn) k_173 ⟨by decide, rfl⟩ (hM 173 (by decide) (by decide)) (⟨by decide, by decide⟩) (Nat.le_of_ble_eq_true rfl) rfl ?_
  rintro x G1 ⟨hx, hF, hG⟩
  have hx3 : cGn [s0] G1 ∧ G1 173 15 = 0 ∧ G1 173 16 = F ∧ FR z_exS G0 G1 := by
    rcases hx with ⟨w, _⟩ | ⟨_, w, _⟩ | ⟨_, _, _, w4, _, _, w7, w8, w9⟩
    · exact absurd w (by simp)
    · exact absurd w (by decide)
    · exact ⟨w4, w7.trans s15, w8.trans hf, hQ.tr (w9.mono (by decide))⟩
  refine x_pop (pc := 75) dX5_grow_75 (fun h => by cases h) ?_
  refine x_iconst (pc := 76) dX5_grow_76 ?_
  refine x_istore (pc := 77) dX5_grow_77 (by decide) rfl ?_
  refine l_gr_gw hL hM h0 1501 0 _ (by omega) (by omega) (Or.inl ⟨hx3.1, (by decide : 1 ≤ 1500), hx3.2.1, fun e' h' => absurd h' (Nat.not_lt_zero e'), fun k' b1 b2 => ?_⟩) hx3.2.2.1 hx3.2.2.2 hF hG
  have b2 : k' < 1 := b2
  omega
theorem c_gr_grow {I : Nat → Nat → Nat} {q1 q2 n1 n2 r1 r2 : Nat} {G : Nat → Nat → Int} (hL : x_SL L) (hM : x_GM L) (hF : x_Fin xFL G) (hG : x_Fin xGL G) (x1 : xSd r1) (x2 : xSd r2) (h1 : cSd r1 n1 I q1 G) (h2 : cSd r2 n2 I q2 G) (h0 : zvS (zsk (zrwl I q1 n1, zrwl I q2 n2))) (v1 : zb8 (zrwl I q1 n1)) (v2 : zb8 (zrwl I q2 n2)) :
    CM yX5_grow mX5_grow 5 0 0 [vR 173, vR r1, vR r2] L G (pGr L G (zsk (zrwl I q1 n1, zrwl I q2 n2)) (zffs (zrwl I q1 n1, zrwl I q2 n2))) := by
  have hn1 := h1.2.1
  have hn2 := h2.2.1
  have l1 := zrwl_len I q1 n1
  have l2 := zrwl_len I q2 n2
  obtain ⟨A, hA⟩ : ∃ A, A = zrwl I q1 n1 := ⟨_, rfl⟩
  obtain ⟨B, hB⟩ : ∃ B, B = zrwl I q2 n2 := ⟨_, rfl⟩
  rw [← hA, ← hB] at h0 ⊢
  rw [← hA] at v1 l1
  rw [← hB] at v2 l2
  obtain ⟨cp1, cp2, _, _⟩ := zcp_sp A B
  have hN1 : znm (A, B) < 16 := znf_lt _ _ (fun x hx => (v2 x hx).1) (znf_lt _ _ (fun x hx => (v1 x hx).1) (by decide))
  have hN2 : znm (zsk (A, B)) < 16 := znf_lt _ _ (fun x hx => (h0.b8.2 x hx).1) (znf_lt _ _ (fun x hx => (h0.b8.1 x hx).1) (by decide))
  have hsk : zsk (A, B) = (A.drop (zcp A B), B.drop (zcp A B)) := rfl
  obtain ⟨s0, hs0⟩ : ∃ s0, s0 = zsk (A, B) := ⟨_, rfl⟩
  have hffe : zffs (A, B) = if zan2 (znm (A, B)) (znm s0) = 0 then 0 else 1 := by rw [hs0]; rfl
  rw [← hs0] at h0 hN2 hsk ⊢
  obtain ⟨a, ha⟩ : ∃ a, a = znm (A, B) := ⟨_, rfl⟩
  obtain ⟨b, hb⟩ : ∃ b, b = znm s0 := ⟨_, rfl⟩
  rw [← ha] at hN1 hffe
  rw [← hb] at hN2 hffe
  refine Ct.of_X (μ := mX5_grow) rfl rfl (by decide) (fun h => by cases h) (Nat.le_of_ble_eq_true rfl) rfl ?_
  refine x_aloadn (pc := 0) dX5_grow_0 rfl ?_
  refine x_iconst (pc := 1) dX5_grow_1 ?_
  refine x_putIH (pc := 2) dX5_grow_2 fp_X5_57 k_173 (hM 173 (by decide) (by decide)) hF hG (fun hF hG => ?_)
  refine x_aloadn (pc := 5) dX5_grow_5 rfl ?_
  refine x_iconst (pc := 6) dX5_grow_6 ?_
  refine x_putIH (pc := 7) dX5_grow_7 fp_X5_61 k_173 (hM 173 (by decide) (by decide)) hF hG (fun hF hG => ?_)
  refine x_aloadn (pc := 10) dX5_grow_10 rfl ?_
  refine x_iconst (pc := 11) dX5_grow_11 ?_
  refine x_putZH (pc := 12) dX5_grow_12 fp_X5_64 k_173 (hM 173 (by decide) (by decide)) (by omega) hF hG (fun hF hG => ?_)
  refine x_aloadn (pc := 15) dX5_grow_15 rfl ?_
  refine x_getR (186) (pc := 16) dX5_grow_16 fl_X5_29 k_173 (hM 173 (by decide) (by decide)) (f_173_4 hG) ?_
  refine x_iconst (pc := 19) dX5_grow_19 ?_
  refine x_cSV (pc := 20) dX5_grow_20 lk_X5_71 (c_fillI k_186 (hM 186 (by decide) (by decide)) (by decide) hF) (⟨by decide, by decide⟩) (Nat.le_of_ble_eq_true rfl) rfl ?_
  rintro G1 ⟨f1, f2, hF⟩
  have hG := x_GinS hG f2 (by decide)
  have s13 : G1 173 13 = 0 := by rw [f2 _ (by decide), x_up_k (by decide), x_up_k (by decide), x_up_s]
  have s14 : G1 173 14 = -1 := by rw [f2 _ (by decide), x_up_k (by decide), x_up_s]
  have s15 : G1 173 15 = 0 := by rw [f2 _ (by decide), x_up_s]
  have g1 : FR z_exS G G1 := (((FR.rf.up (by decide)).up (by decide)).up (by decide)).tr (f2.mono (by decide))
  have h1 := h1.FR g1 (zex_no x1 0 (by decide)) (zex_no x1 1 (by decide)) (zex_no x1 2 (by decide))
  have h2 := h2.FR g1 (zex_no x2 0 (by decide)) (zex_no x2 1 (by decide)) (zex_no x2 2 (by decide))
  refine x_aloadn (pc := 23) dX5_grow_23 rfl ?_
  refine x_getR (179) (pc := 24) dX5_grow_24 fl_X5_18 k_173 (hM 173 (by decide) (by decide)) (f_173_1 hG) ?_
  refine x_aloadn (pc := 27) dX5_grow_27 rfl ?_
  refine x_aloadn (pc := 28) dX5_grow_28 rfl ?_
  refine x_cVV (pc := 29) dX5_grow_29 lk_X5_77 (c_th_read hL hM hF hG x1 x2 h1 h2) k_179 ⟨by decide, rfl⟩ (hM 179 (by decide) (by decide)) (⟨by decide, by decide⟩) (Nat.le_of_ble_eq_true rfl) rfl ?_
  rintro G2 ⟨k1, k2, hF, hG⟩
  rw [← hA, ← hB] at k1
  refine x_aloadn (pc := 32) dX5_grow_32 rfl ?_
  refine x_getR (179) (pc := 33) dX5_grow_33 fl_X5_18 k_173 (hM 173 (by decide) (by decide)) (f_173_1 hG) ?_
  refine x_cVI (pc := 36) dX5_grow_36 lk_X5_81 (c_th_unknowns hL hM hF hG k1 v1 v2 (by omega) ⟨Nat.zero_le _, Nat.zero_le _⟩) k_179 ⟨by decide, rfl⟩ (hM 179 (by decide) (by decide)) (⟨by decide, by decide⟩) (Nat.le_of_ble_eq_true rfl) rfl ?_
  rintro x G' ⟨rfl, h_G⟩
  obtain rfl := h_G.symm
  rw [List.drop_zero, List.drop_zero, ← ha]
  refine x_istoren (pc := 39) dX5_grow_39 rfl (by decide) rfl ?_
  refine x_aloadn (pc := 40) dX5_grow_40 rfl ?_
  refine x_getR (179) (pc := 41) dX5_grow_41 fl_X5_18 k_173 (hM 173 (by decide) (by decide)) (f_173_1 hG) ?_
  refine x_cVV (pc := 44) dX5_grow_44 lk_X5_85 (c_th_strike hL hM hF hG k1 v1 v2 (by omega)) k_179 ⟨by decide, rfl⟩ (hM 179 (by decide) (by decide)) (⟨by decide, by decide⟩) (Nat.le_of_ble_eq_true rfl) rfl ?_
  rintro G3 ⟨d1, d2, hF, hG⟩
  have g3 : FR z_thS G1 G3 := k2.tr (d2.mono (by decide))
  refine x_aloadn (pc := 47) dX5_grow_47 rfl ?_
  refine x_iloadn (pc := 48) dX5_grow_48 rfl ?_
  refine x_aloadn (pc := 49) dX5_grow_49 rfl ?_
  refine x_getR (179) (pc := 50) dX5_grow_50 fl_X5_18 k_173 (hM 173 (by decide) (by decide)) (f_173_1 hG) ?_
  refine x_cVI (pc := 53) dX5_grow_53 lk_X5_81 (c_th_unknowns hL hM hF hG d1 v1 v2 (by omega) (by omega)) k_179 ⟨by decide, rfl⟩ (hM 179 (by decide) (by decide)) (⟨by decide, by decide⟩) (Nat.le_of_ble_eq_true rfl) rfl ?_
  rintro x G' ⟨rfl, h_G⟩
  obtain rfl := h_G.symm
  rw [← hsk, ← hb]
  refine x_iconst (pc := 56) dX5_grow_56 ?_
  refine x_not (pc := 57) dX5_grow_57 rfl ?_
  refine x_iandc (pc := 58) dX5_grow_58 a b rfl rfl (by omega) ?_
  refine x_ieq (tgt := 66) (pc := 59) dX5_grow_59 (by decide) (by omega) (fun c_59 => ?_) (fun c_59 => ?_)
  · skip
    refine x_iconst (pc := 66) dX5_grow_66 ?_
    refine x_putZH (pc := 67) dX5_grow_67 fp_X5_68 k_173 (hM 173 (by decide) (by decide)) (by omega) hF hG (fun hF hG => ?_)
    first
    | exact l_gr_gwE hL hM hF hG h0 hsk (by omega) (by omega) (d1.FR (FR.rf.up (S := [173]) (by decide)) (by decide) (by decide) (by decide) (by decide)) (by rw [x_up_k (by decide), g3 _ (by decide)]; exact s13) (by rw [x_up_k (by decide), g3 _ (by decide)]; exact s14) (by rw [x_up_k (by decide), g3 _ (by decide)]; exact s15) (fun i hi => by rw [x_up_ne (by decide), g3 _ (by decide)]; exact f1 i hi) (by rw [x_up_s, hffe, if_pos (show zan2 a b = 0 by unfold zan2; omega)]) ((g1.tr (g3.mono (by decide))).up (by decide))
    | exact l_gr_gwE hL hM hF hG h0 hsk (by omega) (by omega) (d1.FR (FR.rf.up (S := [173]) (by decide)) (by decide) (by decide) (by decide) (by decide)) (by rw [x_up_k (by decide), g3 _ (by decide)]; exact s13) (by rw [x_up_k (by decide), g3 _ (by decide)]; exact s14) (by rw [x_up_k (by decide), g3 _ (by decide)]; exact s15) (fun i hi => by rw [x_up_ne (by decide), g3 _ (by decide)]; exact f1 i hi) (by rw [x_up_s, hffe, if_neg (show ¬ zan2 a b = 0 by unfold zan2; omega)]) ((g1.tr (g3.mono (by decide))).up (by decide))
  · skip
    refine x_iconst (pc := 62) dX5_grow_62 ?_
    refine x_goto (tgt := 67) (pc := 63) dX5_grow_63 (by decide) ?_
    refine x_putZH (pc := 67) dX5_grow_67 fp_X5_68 k_173 (hM 173 (by decide) (by decide)) (by omega) hF hG (fun hF hG => ?_)
    first
    | exact l_gr_gwE hL hM hF hG h0 hsk (by omega) (by omega) (d1.FR (FR.rf.up (S := [173]) (by decide)) (by decide) (by decide) (by decide) (by decide)) (by rw [x_up_k (by decide), g3 _ (by decide)]; exact s13) (by rw [x_up_k (by decide), g3 _ (by decide)]; exact s14) (by rw [x_up_k (by decide), g3 _ (by decide)]; exact s15) (fun i hi => by rw [x_up_ne (by decide), g3 _ (by decide)]; exact f1 i hi) (by rw [x_up_s, hffe, if_pos (show zan2 a b = 0 by unfold zan2; omega)]) ((g1.tr (g3.mono (by decide))).up (by decide))
    | exact l_gr_gwE hL hM hF hG h0 hsk (by omega) (by omega) (d1.FR (FR.rf.up (S := [173]) (by decide)) (by decide) (by decide) (by decide) (by decide)) (by rw [x_up_k (by decide), g3 _ (by decide)]; exact s13) (by rw [x_up_k (by decide), g3 _ (by decide)]; exact s14) (by rw [x_up_k (by decide), g3 _ (by decide)]; exact s15) (fun i hi => by rw [x_up_ne (by decide), g3 _ (by decide)]; exact f1 i hi) (by rw [x_up_s, hffe, if_neg (show ¬ zan2 a b = 0 by unfold zan2; omega)]) ((g1.tr (g3.mono (by decide))).up (by decide))
end XGW

