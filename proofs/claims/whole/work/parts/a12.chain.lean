/-! the class: the chain back -/
section XCB
variable {L : List Nat} {s0 : zSt}
theorem zcb_at {k : Nat} (hk : 1 ≤ k) (hn : k < (zN s0 6000).length) : ∃ s, (zN s0 (zcb s0 k))[zcb s0 k / 4]? = some s ∧ zcb s0 k % 4 < zqn (zhd s.1) (zhd s.2) ∧ (zN s0 6000)[zcb s0 k / 4]? = some s ∧ zcb s0 k < 6000 := by
  obtain ⟨e, e1, e2, e3⟩ := zcb_ex (s0 := s0) hk 6000 hn
  rw [zcb_sp e2 e3]
  rcases zap_or (zN s0 e) e with q | ⟨s, hs, hk, _, _⟩
  · rw [zN, q] at e3; omega
  · exact ⟨s, hs, hk, zN_get (by omega) hs, e1⟩
/-- a putting told in one number -/
def zenc (s0 : zSt) (e : Nat) : Nat := e % 4 + 4 * zeu s0 e + 32 * (zep s0 e + 1).toNat
theorem zenc_or : ∀ k, k < 4 → ∀ u, u < 8 → ∀ p, p < 9 → (k ||| u * 2 ^ 2) ||| p * 2 ^ 5 = k + 4 * u + 32 * p ∧ (k ||| u * 2 ^ 2) < 32 := by decide +kernel
abbrev z_chS (q : Nat) : List Nat := [174, 176, 177, 178, q]
abbrev pCb (L : List Nat) (G0 : Nat → Nat → Int) (s0 : zSt) (q D m : Nat) : x_Q := qI L fun x G' => x = ((m : Nat) : Int) ∧ (∀ i, i < m → G' q i = ((zenc s0 (zcb s0 (zcd (zcb s0) D i)) : Nat) : Int)) ∧ FR (z_chS q) G0 G' ∧ x_Fin xFL G' ∧ x_Fin xGL G'
theorem l_gr_cb {q D m : Nat} {G0 : Nat → Nat → Int} (hL : x_SL L) (hM : x_GM L) (h0 : zvS s0) (hl : (zN s0 6000).length ≤ 1500) (hg : cGf s0 G0) (hq : 169 ≤ q ∧ q < 173) (hkq : xK q = (13, 1500)) (hqL : q ∈ L) (hD : zCh (zN s0 6000).length (zcb s0) D m) (hm : m ≤ D) :
    ∀ (r i : Nat) (G : Nat → Nat → Int) (o5 o6 : Option (Nat × Int)), i + r = m → (∀ i', i' < i → G q i' = ((zenc s0 (zcb s0 (zcd (zcb s0) D i')) : Nat) : Int)) → FR (z_chS q) G0 G → x_Fin xFL G → x_Fin xGL G →
    X mX5_chainBack 3 0 0 (pCb L G0 s0 q D m) 10 [some (vR 173), some (vR q), some (vI i), some (vI ((zcd (zcb s0) D i : Nat) : Int)), some (vI i), o5, o6] [] L G 0 0 := by
  have hGr := zGr_N hl
  have hDn := hD.1
  have nq : ∀ c, 173 ≤ c → c ≠ 174 → c ≠ 176 → c ≠ 177 → c ≠ 178 → c ∉ z_chS q := fun c h1 h2 h3 h4 h5 w => by
    have : c = 174 ∨ c = 176 ∨ c = 177 ∨ c = 178 ∨ c = q := by simpa [z_chS] using w
    omega
  intro r
  induction r with
  | zero =>
    intro i G o5 o6 hi hst hQ hF hG
    have hi : i = m := by omega
    subst hi
    have hz : zcd (zcb s0) D i = 0 := hD.2.1
    rw [hz]
    have g1 : G 173 13 = (((zN s0 6000).length : Nat) : Int) := by rw [hQ _ (nq _ (by decide) (by decide) (by decide) (by decide) (by decide))]; exact hg.1.1
    refine x_iload (pc := 10) dX5_chainBack_10 rfl ?_
    refine x_aloadn (pc := 12) dX5_chainBack_12 rfl ?_
    refine x_getI (pc := 13) dX5_chainBack_13 fl_X5_57 k_173 (hM 173 (by decide) (by decide)) ?_
    rw [g1]
    refine x_cge (tgt := 115) (pc := 16) dX5_chainBack_16 (by decide) (by omega) (fun c_16 => ?_) (fun c_16 => ?_)
    · skip
      exact absurd c_16 (by omega)
    refine x_iloadn (pc := 19) dX5_chainBack_19 rfl ?_
    refine x_ile (tgt := 115) (pc := 20) dX5_chainBack_20 (by decide) (by omega) (fun c_20 => ?_) (fun c_20 => ?_)
    rotate_left
    · skip
      exact absurd c_20 (by decide)
    refine x_iloadn (pc := 115) dX5_chainBack_115 rfl ?_
    refine x_rI (pc := 116) dX5_chainBack_116 rfl ?_
    exact ⟨rfl, hst, hQ, hF, hG⟩
  | succ r ih =>
    intro i G o5 o6 hi hst hQ hF hG
    have hne := hD.2.2 i (by omega)
    have hlt := hD.lt hGr i (by omega)
    have g1 : G 173 13 = (((zN s0 6000).length : Nat) : Int) := by rw [hQ _ (nq _ (by decide) (by decide) (by decide) (by decide) (by decide))]; exact hg.1.1
    have hstep : zcd (zcb s0) D (i + 1) = zcb s0 (zcd (zcb s0) D i) / 4 := rfl
    have ihx := ih (i + 1)
    rw [hstep] at ihx
    obtain ⟨nd, hnd⟩ : ∃ nd, nd = zcd (zcb s0) D i := ⟨_, rfl⟩
    rw [← hnd] at hne hlt ihx ⊢
    obtain ⟨s, b1, b2, b3, b4⟩ := zcb_at (s0 := s0) (show 1 ≤ nd by omega) hlt
    have hcb : G 189 nd = ((zcb s0 nd : Nat) : Int) := by rw [hQ _ (nq _ (by decide) (by decide) (by decide) (by decide) (by decide))]; exact hg.2.2 nd (by omega) hlt
    obtain ⟨n1, n2⟩ := hg.1.2.2.1 _ s b3
    have n1 : G 184 (zcb s0 nd / 4) = ((znr s : Nat) : Int) := by rw [hQ _ (nq _ (by decide) (by decide) (by decide) (by decide) (by decide))]; exact n1
    have n2 : G 185 (zcb s0 nd / 4) = ((zfr s : Nat) : Int) := by rw [hQ _ (nq _ (by decide) (by decide) (by decide) (by decide) (by decide))]; exact n2
    have hv := zN_v h0 _ s (List.mem_of_getElem? b3)
    obtain ⟨v1, v2⟩ := hv.b8
    have hl24 := hv.2.2.1
    have hb4 := (hGr.2.1 nd (by omega) hlt).2
    obtain ⟨u, hu, hu4, hu8⟩ := zpu_nat (k := zcb s0 nd % 4) ⟨(zhd_bd v1).1, (zhd_bd v1).2.1⟩ ⟨(zhd_bd v2).1, (zhd_bd v2).2.1⟩ b2
    have hpn := zpi_nat (k := zcb s0 nd % 4) (zhd_bd v1) (zhd_bd v2)
    obtain ⟨p, hp⟩ : ∃ p, p = zpi (zhd s.1) (zhd s.2) (zcb s0 nd % 4) := ⟨_, rfl⟩
    rw [← hp] at hpn
    have hpb : -1 ≤ p ∧ p < 8 := by rcases hpn with w | ⟨P, w, w2⟩ <;> omega
    obtain ⟨P, hP⟩ : ∃ P : Nat, p + 1 = ((P : Nat) : Int) := ⟨(p + 1).toNat, by omega⟩
    have henc : zenc s0 (zcb s0 nd) = zcb s0 nd % 4 + 4 * u + 32 * P := by
      unfold zenc zeu zep
      rw [b1]
      simp only
      rw [hu, ← hp, hP, Int.toNat_natCast, Int.toNat_natCast]
    have hq4 : ((zcb s0 nd : Nat) : Int) / 4 = ((zcb s0 nd / 4 : Nat) : Int) := by omega
    have hr4 : ((zcb s0 nd : Nat) : Int) % 4 = ((zcb s0 nd % 4 : Nat) : Int) := by omega
    obtain ⟨e, he⟩ : ∃ e, e = zcb s0 nd := ⟨_, rfl⟩
    rw [← he] at hu hp b1 b2 b3 b4 hcb n1 n2 henc hq4 hr4 hb4 ihx
    have hem : e % 4 < 4 := by omega
    obtain ⟨kk, hkk⟩ : ∃ kk, kk = e % 4 := ⟨_, rfl⟩
    rw [← hkk] at hu hp hem hr4 henc b2
    obtain ⟨z1, z2⟩ := zenc_or kk hem u hu8 P (by omega)
    refine x_iload (pc := 10) dX5_chainBack_10 rfl ?_
    refine x_aloadn (pc := 12) dX5_chainBack_12 rfl ?_
    refine x_getI (pc := 13) dX5_chainBack_13 fl_X5_57 k_173 (hM 173 (by decide) (by decide)) ?_
    rw [g1]
    refine x_cge (tgt := 115) (pc := 16) dX5_chainBack_16 (by decide) (by omega) (fun c_16 => ?_) (fun c_16 => ?_)
    · skip
      exact absurd c_16 (by omega)
    refine x_iloadn (pc := 19) dX5_chainBack_19 rfl ?_
    refine x_ile (tgt := 115) (pc := 20) dX5_chainBack_20 (by decide) (by omega) (fun c_20 => ?_) (fun c_20 => ?_)
    · skip
      exact absurd c_20 (by omega)
    refine x_iloadn (pc := 23) dX5_chainBack_23 rfl ?_
    refine x_aloadn (pc := 24) dX5_chainBack_24 rfl ?_
    refine x_alen (pc := 25) dX5_chainBack_25 hkq (by decide) hqL ?_
    refine x_cge (tgt := 115) (pc := 26) dX5_chainBack_26 (by decide) (by omega) (fun c_26 => ?_) (fun c_26 => ?_)
    · skip
      exact absurd c_26 (by omega)
    refine x_aloadn (pc := 29) dX5_chainBack_29 rfl ?_
    refine x_getR (189) (pc := 30) dX5_chainBack_30 fl_X5_39 k_173 (hM 173 (by decide) (by decide)) (f_173_7 hG) ?_
    refine x_iloadn (pc := 33) dX5_chainBack_33 rfl ?_
    refine x_iald (nd) (pc := 34) dX5_chainBack_34 k_189 (hM 189 (by decide) (by decide)) (⟨by omega, by omega, by decide⟩) ?_
    rw [hcb]
    refine x_istore (pc := 35) dX5_chainBack_35 (by decide) rfl ?_
    refine x_iload (pc := 37) dX5_chainBack_37 rfl ?_
    refine x_ige (tgt := 45) (pc := 39) dX5_chainBack_39 (by decide) (by omega) (fun c_39 => ?_) (fun c_39 => ?_)
    rotate_left
    · skip
      exact absurd c_39 (by omega)
    refine x_iload (pc := 45) dX5_chainBack_45 rfl ?_
    refine x_iconst (pc := 47) dX5_chainBack_47 ?_
    refine x_idiv (pc := 48) dX5_chainBack_48 (by omega) ?_
    rw [hq4]
    refine x_istoren (pc := 49) dX5_chainBack_49 rfl (by decide) rfl ?_
    refine x_aloadn (pc := 50) dX5_chainBack_50 rfl ?_
    refine x_getR (174) (pc := 51) dX5_chainBack_51 fl_X5_12 k_173 (hM 173 (by decide) (by decide)) (f_173_0 hG) ?_
    refine x_aloadn (pc := 54) dX5_chainBack_54 rfl ?_
    refine x_getR (184) (pc := 55) dX5_chainBack_55 fl_X5_21 k_173 (hM 173 (by decide) (by decide)) (f_173_2 hG) ?_
    refine x_iloadn (pc := 58) dX5_chainBack_58 rfl ?_
    refine x_lald (e / 4) (pc := 59) dX5_chainBack_59 k_184 (hM 184 (by decide) (by decide)) (⟨by omega, by omega, by decide⟩) ?_
    rw [n1]
    refine x_aloadn (pc := 60) dX5_chainBack_60 rfl ?_
    refine x_getR (185) (pc := 61) dX5_chainBack_61 fl_X5_25 k_173 (hM 173 (by decide) (by decide)) (f_173_3 hG) ?_
    refine x_iloadn (pc := 64) dX5_chainBack_64 rfl ?_
    refine x_iald (e / 4) (pc := 65) dX5_chainBack_65 k_185 (hM 185 (by decide) (by decide)) (⟨by omega, by omega, by decide⟩) ?_
    rw [n2]
    refine x_cVV (pc := 66) dX5_chainBack_66 lk_X5_96 (c_he_unpack hL hM hF hG hv) k_174 ⟨by decide, rfl⟩ (hM 174 (by decide) (by decide)) (⟨by decide, by decide⟩) (Nat.le_of_ble_eq_true rfl) rfl ?_
    rintro G2 ⟨k1, k2, hF, hG⟩
    refine x_iload (pc := 69) dX5_chainBack_69 rfl ?_
    refine x_iconst (pc := 71) dX5_chainBack_71 ?_
    refine x_irem (pc := 72) dX5_chainBack_72 (by omega) ?_
    rw [hr4]
    refine x_istore (pc := 73) dX5_chainBack_73 (by decide) rfl ?_
    refine x_aloadn (pc := 75) dX5_chainBack_75 rfl ?_
    refine x_iloadn (pc := 76) dX5_chainBack_76 rfl ?_
    refine x_iload (pc := 77) dX5_chainBack_77 rfl ?_
    refine x_aloadn (pc := 79) dX5_chainBack_79 rfl ?_
    refine x_getR (174) (pc := 80) dX5_chainBack_80 fl_X5_12 k_173 (hM 173 (by decide) (by decide)) (f_173_0 hG) ?_
    refine x_iload (pc := 83) dX5_chainBack_83 rfl ?_
    refine x_cVI (pc := 85) dX5_chainBack_85 lk_X5_103 (c_he_unknownPut (k := kk) hL hM hF hG k1 v1 v2 (by omega) hem) k_174 ⟨by decide, rfl⟩ (hM 174 (by decide) (by decide)) (⟨by decide, by decide⟩) (Nat.le_of_ble_eq_true rfl) rfl ?_
    rintro x G' ⟨rfl, h_G⟩
    obtain rfl := h_G.symm
    rw [hu]
    refine x_iconst (pc := 88) dX5_chainBack_88 ?_
    refine x_ishl (pc := 89) dX5_chainBack_89 2 (by decide) (by decide) ?_
    rw [zpw_i]
    refine x_iorN (pc := 90) dX5_chainBack_90 kk (u * 2 ^ 2) rfl rfl (by omega) ?_
    refine x_aloadn (pc := 91) dX5_chainBack_91 rfl ?_
    refine x_getR (174) (pc := 92) dX5_chainBack_92 fl_X5_12 k_173 (hM 173 (by decide) (by decide)) (f_173_0 hG) ?_
    refine x_iload (pc := 95) dX5_chainBack_95 rfl ?_
    refine x_cVI (pc := 97) dX5_chainBack_97 lk_X5_106 (c_he_itemPut (k := kk) hL hM hF hG k1 v1 v2 (by omega) hem) k_174 ⟨by decide, rfl⟩ (hM 174 (by decide) (by decide)) (⟨by decide, by decide⟩) (Nat.le_of_ble_eq_true rfl) rfl ?_
    rintro x G' ⟨rfl, h_G⟩
    obtain rfl := h_G.symm
    rw [← hp]
    refine x_iconst (pc := 100) dX5_chainBack_100 ?_
    refine x_iadd (pc := 101) dX5_chainBack_101 ?_
    rw [hP]
    refine x_iconst (pc := 102) dX5_chainBack_102 ?_
    refine x_ishl (pc := 103) dX5_chainBack_103 5 (by decide) (by decide) ?_
    rw [zpw_i]
    refine x_iorN (pc := 104) dX5_chainBack_104 (kk ||| u * 2 ^ 2) (P * 2 ^ 5) rfl rfl (by omega) ?_
    rw [z1, ← henc]
    refine x_iastH (i) (pc := 105) dX5_chainBack_105 hkq hqL (⟨by omega, by omega, by decide⟩) hF hG (fun hF hG => ?_)
    refine x_iinc (pc := 106) dX5_chainBack_106 rfl (by decide) rfl ?_
    refine x_iinc (pc := 109) dX5_chainBack_109 rfl (by decide) rfl ?_
    refine x_goto (tgt := 10) (pc := 112) dX5_chainBack_112 (by decide) ?_
    have hq2 : FR (z_chS q) G2 (x_up G2 q i ((zenc s0 e : Nat) : Int)) := FR.rf.up (by simp [z_chS])
    refine ihx _ _ _ (by omega) (fun i' h' => ?_) ((hQ.tr (k2.mono (by simp [z_chS, z_heS]))).tr hq2) hF hG
    by_cases c : i' = i
    · rw [c, x_up_s, ← hnd, ← he]
    · rw [x_up_k c, k2 _ (by simp [z_heS]; omega)]; exact hst i' (by omega)
theorem c_gr_chainBack {q D m : Nat} {G : Nat → Nat → Int} (hL : x_SL L) (hM : x_GM L) (hF : x_Fin xFL G) (hG : x_Fin xGL G) (h0 : zvS s0) (hl : (zN s0 6000).length ≤ 1500) (hg : cGf s0 G) (hq : 169 ≤ q ∧ q < 173) (hkq : xK q = (13, 1500)) (hqL : q ∈ L) (hdn : zdn (zN s0 6000) = ((D : Nat) : Int)) (hD : zCh (zN s0 6000).length (zcb s0) D m) (hm : m ≤ D) :
    CM yX5_chainBack mX5_chainBack 3 0 0 [vR 173, vR q] L G (pCb L G s0 q D m) := by
  have g2 := hg.1.2.1
  rw [hdn] at g2
  refine Ct.of_X (μ := mX5_chainBack) rfl rfl (by decide) (fun h => by cases h) (Nat.le_of_ble_eq_true rfl) rfl ?_
  refine x_iconst (pc := 0) dX5_chainBack_0 ?_
  refine x_istoren (pc := 1) dX5_chainBack_1 rfl (by decide) rfl ?_
  refine x_aloadn (pc := 2) dX5_chainBack_2 rfl ?_
  refine x_getI (pc := 3) dX5_chainBack_3 fl_X5_61 k_173 (hM 173 (by decide) (by decide)) ?_
  rw [g2]
  refine x_istoren (pc := 6) dX5_chainBack_6 rfl (by decide) rfl ?_
  refine x_iconst (pc := 7) dX5_chainBack_7 ?_
  refine x_istore (pc := 8) dX5_chainBack_8 (by decide) rfl ?_
  exact l_gr_cb hL hM h0 hl hg hq hkq hqL hD hm m 0 _ none none (Nat.zero_add _) (fun i h => absurd h (Nat.not_lt_zero i)) FR.rf hF hG
end XCB

