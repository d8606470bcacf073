/-! the class: makesAll, the longest row sought -/
theorem zlen_un {a b T c : Nat} (hT : 1 ≤ T) (h : c + a * T = c + b * T) : a = b := Nat.eq_of_mul_eq_mul_right hT (by omega)
theorem zmk_some {n mk : Nat} (h1 : 1 ≤ mk) (h2 : mk < 2 ^ n) : ∃ i, i < n ∧ zbt mk i = 1 := by
  apply Classical.byContradiction
  intro w
  have e := zbt_eq n mk 0 h2 (Nat.pow_pos (by decide)) (fun i hi => by
    have h0 : zbt 0 i = 0 := by unfold zbt; simp
    rw [h0]
    rcases zbt_01 mk i with q | q
    · exact q
    · exact absurd ⟨i, hi, q⟩ w)
  omega
theorem zbase {n mk : Nat} (h1 : 1 ≤ mk) (h2 : mk < 2 ^ n) : zmk n (fun i => if zbt mk i = 1 then 5 else 0) mk ∧ zFv n (fun i => if zbt mk i = 1 then 5 else 0) := by
  obtain ⟨k, hk, hb⟩ := zmk_some h1 h2
  refine ⟨fun i hi => ?_, fun i hi => ?_, k, hk, if_pos hb⟩
  · show zbt mk i = 1 ↔ (if zbt mk i = 1 then 5 else 0) = 5
    by_cases c : zbt mk i = 1
    · rw [if_pos c]; exact ⟨fun _ => rfl, fun _ => c⟩
    · rw [if_neg c]; exact ⟨fun w => absurd w c, fun w => absurd w (by decide)⟩
  · show (if zbt mk i = 1 then 5 else 0) < 3 ∨ (if zbt mk i = 1 then 5 else 0) = 5
    by_cases c : zbt mk i = 1
    · rw [if_pos c]; exact Or.inr rfl
    · rw [if_neg c]; exact Or.inl (by decide)
section XCM
variable {S n mk : Nat} {sn : Nat → Nat} {sl : Nat → Nat → Nat} {L : List Nat}
theorem zXm.sum {F : Nat → Nat} {m len : Nat} {R : Nat → Nat} (hm : zmk n F mk) (hv : zFv n F) (hn : n ≤ 8) (hk : mk < 2 ^ n) (h : zXm n F m R len) : (n - zpop mk) + len * zpop mk = m := by
  rw [zpop_ct hm hn hk, ← hv.len]; exact h.2.1
abbrev pMa (L : List Nat) (G0 : Nat → Nat → Int) (S : Nat) (sn : Nat → Nat) (sl : Nat → Nat → Nat) (n mk : Nat) : x_Q := qI L fun x G' => ((x = 1 ∧ ∃ F, (∀ i, i < n → G' 97 i = F i) ∧ zmk n F mk ∧ zCd S sn sl n F ∧ ∀ F', zmk n F' mk → zCd S sn sl n F' → ∀ i, i < n → F' i = F i) ∨ (x = 0 ∧ ∀ F', zmk n F' mk → ¬ zCd S sn sl n F')) ∧ FR [97] G0 G' ∧ x_Fin xFL G'
theorem l_Sm_all {F : Nat → Nat} {G0 G : Nat → Nat → Int} (hL : x_SL L) (hF : x_Fin xFL G) (hS : cSm S sn sl G) (hQ : FR [97] G0 G) (hn : n ≤ 8) (hk : mk < 2 ^ n) (hk1 : 1 ≤ mk) (hm : zmk n F mk) (hv : zFv n F) (ht : ∀ i, i < n → G 97 i = F i) (hU : ∀ F', zmk n F' mk → zCd S sn sl n F' → ∀ i, i < n → F' i = F i) :
    ∀ (r s : Nat) (o4 : Option (Nat × Int)), s + r = S → 1 ≤ s → (∀ s', s' < s → ∃ len, zXm n F (sn s') (sl s') len) →
    X mX7_makesAll 2 0 0 (pMa L G0 S sn sl n mk) 2 [some (vR 88), some (vI n), some (vI mk), some (vI s), o4] [] L G 0 0 := by
  obtain ⟨s1, s2, s3⟩ := id hS
  have hk256 : mk < 256 := by have : 2 ^ n ≤ 2 ^ 8 := Nat.pow_le_pow_right (by decide) hn; omega
  have hpc := zpop_ct hm hn hk
  have ht1 := hv.ct1
  have htl := zct_le (I := zFo F) (q := 0) (u := 1) n
  intro r
  induction r with
  | zero =>
    intro s o4 hs hs1 hA
    have hs : s = S := by omega
    subst hs
    refine x_iloadn (pc := 2) dX7_makesAll_2 rfl ?_
    refine x_aloadn (pc := 3) dX7_makesAll_3 rfl ?_
    refine x_getI (pc := 4) dX7_makesAll_4 fl_X7_26 k_88 (hL 88 (by decide) (by decide)) ?_
    refine x_cge (tgt := 61) (pc := 7) dX7_makesAll_7 (by decide) (by omega) (fun c_7 => ?_) (fun c_7 => ?_)
    rotate_left
    · skip
      exact absurd c_7 (by omega)
    refine x_iconst (pc := 61) dX7_makesAll_61 ?_
    refine x_rZ (pc := 62) dX7_makesAll_62 rfl (by omega) ?_
    exact ⟨Or.inl ⟨rfl, F, ht, hm, ⟨hv, hA⟩, hU⟩, hQ, hF⟩
  | succ r ih =>
    intro s o4 hs hs1 hA
    refine x_iloadn (pc := 2) dX7_makesAll_2 rfl ?_
    refine x_aloadn (pc := 3) dX7_makesAll_3 rfl ?_
    refine x_getI (pc := 4) dX7_makesAll_4 fl_X7_26 k_88 (hL 88 (by decide) (by decide)) ?_
    refine x_cge (tgt := 61) (pc := 7) dX7_makesAll_7 (by decide) (by omega) (fun c_7 => ?_) (fun c_7 => ?_)
    · skip
      exact absurd c_7 (by omega)
    refine x_aloadn (pc := 10) dX7_makesAll_10 rfl ?_
    refine x_iloadn (pc := 11) dX7_makesAll_11 rfl ?_
    refine x_iloadn (pc := 12) dX7_makesAll_12 rfl ?_
    refine x_iloadn (pc := 13) dX7_makesAll_13 rfl ?_
    refine x_cSI (pc := 14) dX7_makesAll_14 lk_X7_65 (c_bitCount hk256) (⟨by decide, by decide⟩) (Nat.le_of_ble_eq_true rfl) rfl ?_
    rintro x G' ⟨rfl, rfl⟩
    refine x_cVI (pc := 17) dX7_makesAll_17 lk_X7_71 (c_Sm_lenX (T := zpop mk) hL hF hS (by omega) hn (by omega)) k_88 ⟨by decide, rfl⟩ (hL 88 (by decide) (by decide)) (⟨by decide, by decide⟩) (Nat.le_of_ble_eq_true rfl) rfl ?_
    rintro x G' ⟨hx, hG⟩
    subst hG
    refine x_istore (pc := 20) dX7_makesAll_20 (by decide) rfl ?_
    refine x_iload (pc := 22) dX7_makesAll_22 rfl ?_
    refine x_iconst (pc := 24) dX7_makesAll_24 ?_
    refine x_cne (tgt := 30) (pc := 25) dX7_makesAll_25 (by decide) (by rcases hx with hx | ⟨len, hx⟩; omega; have := Nat.le_mul_of_pos_right len (show 0 < zpop mk by omega); have := (s3 s (by omega)).2.2.1; omega) (fun c_25 => ?_) (fun c_25 => ?_)
    · skip
      refine x_iloadn (pc := 30) dX7_makesAll_30 rfl ?_
      refine x_ine (tgt := 42) (pc := 31) dX7_makesAll_31 (by decide) (by omega) (fun c_31 => ?_) (fun c_31 => ?_)
      rotate_left
      · skip
        exact absurd c_31 (by omega)
      obtain ⟨len, rfl, hl1, hl2⟩ : ∃ len : Nat, x = len ∧ 1 ≤ len ∧ (n - zpop mk) + len * zpop mk = sn s := by
        rcases hx with hx | hx
        · exact absurd hx.1 c_25
        · exact hx
      refine x_aloadn (pc := 42) dX7_makesAll_42 rfl ?_
      refine x_iloadn (pc := 43) dX7_makesAll_43 rfl ?_
      refine x_iloadn (pc := 44) dX7_makesAll_44 rfl ?_
      refine x_iload (pc := 45) dX7_makesAll_45 rfl ?_
      refine x_cVI (pc := 47) dX7_makesAll_47 lk_X7_79 (c_Sm_one (F := F) hL hF hS (by omega) hn hv.1 ht hl1 (by rw [hv.len, ← hpc]; exact hl2)) k_88 ⟨by decide, rfl⟩ (hL 88 (by decide) (by decide)) (⟨by decide, by decide⟩) (Nat.le_of_ble_eq_true rfl) rfl ?_
      rintro y G2 ⟨hy, hG⟩
      subst hG
      refine x_ine (tgt := 55) (pc := 50) dX7_makesAll_50 (by decide) (by rcases hy with hy | hy <;> omega) (fun c_50 => ?_) (fun c_50 => ?_)
      · skip
        refine x_iinc (pc := 55) dX7_makesAll_55 rfl (by decide) rfl ?_
        refine x_goto (tgt := 2) (pc := 58) dX7_makesAll_58 (by decide) ?_
        refine ih (s + 1) _ (by omega) (by omega) (fun s' hs' => ?_)
        by_cases e : s' = s
        · subst e
          refine ⟨len, hl1, by rw [hv.len, ← hpc]; exact hl2, ?_⟩
          rcases hy with hy | hy
          · exact hy.2
          · omega
        · exact hA s' (by omega)
      · skip
        refine x_iconst (pc := 53) dX7_makesAll_53 ?_
        refine x_rZ (pc := 54) dX7_makesAll_54 rfl (by omega) ?_
        refine ⟨Or.inr ⟨rfl, fun F' h1 h2 => ?_⟩, hQ, hF⟩
        rcases hy with hy | hy
        · omega
        · obtain ⟨len', q⟩ := h2.2 s (by omega)
          have e := zlen_un (show 1 ≤ zpop mk by omega) ((zXm.sum h1 h2.1 hn hk q).trans hl2.symm)
          subst e
          exact hy.2 ((zXm_ci (hU F' h1 h2)).mp q).2.2
    · skip
      refine x_iconst (pc := 28) dX7_makesAll_28 ?_
      refine x_rZ (pc := 29) dX7_makesAll_29 rfl (by omega) ?_
      refine ⟨Or.inr ⟨rfl, fun F' h1 h2 => ?_⟩, hQ, hF⟩
      rcases hx with hx | ⟨len, hx⟩
      · obtain ⟨len', q⟩ := h2.2 s (by omega)
        exact hx.2 len' q.1 (zXm.sum h1 h2.1 hn hk q)
      · omega
theorem l_Sm_all0 {G : Nat → Nat → Int} (hL : x_SL L) (hF : x_Fin xFL G) (hS : cSm S sn sl G) (hS1 : 1 ≤ S) (hn : n ≤ 8) (hk : mk < 2 ^ n) (hk1 : 1 ≤ mk) :
    X mX7_makesAll 2 0 0 (pMa L G S sn sl n mk) 2 [some (vR 88), some (vI n), some (vI mk), some (vI 0), none] [] L G 0 0 := by
  obtain ⟨s1, s2, s3⟩ := id hS
  obtain ⟨e1, e2, e3, e4⟩ := s3 0 hS1
  have hk256 : mk < 256 := by have : 2 ^ n ≤ 2 ^ 8 := Nat.pow_le_pow_right (by decide) hn; omega
  obtain ⟨b1, b2⟩ := zbase hk1 hk
  have hpc := zpop_ct b1 hn hk
  have ht1 := b2.ct1
  have htl := zct_le (I := zFo (fun i => if zbt mk i = 1 then 5 else 0)) (q := 0) (u := 1) n
  refine x_iloadn (pc := 2) dX7_makesAll_2 rfl ?_
  refine x_aloadn (pc := 3) dX7_makesAll_3 rfl ?_
  refine x_getI (pc := 4) dX7_makesAll_4 fl_X7_26 k_88 (hL 88 (by decide) (by decide)) ?_
  refine x_cge (tgt := 61) (pc := 7) dX7_makesAll_7 (by decide) (by omega) (fun c_7 => ?_) (fun c_7 => ?_)
  · skip
    exact absurd c_7 (by omega)
  refine x_aloadn (pc := 10) dX7_makesAll_10 rfl ?_
  refine x_iloadn (pc := 11) dX7_makesAll_11 rfl ?_
  refine x_iloadn (pc := 12) dX7_makesAll_12 rfl ?_
  refine x_iloadn (pc := 13) dX7_makesAll_13 rfl ?_
  refine x_cSI (pc := 14) dX7_makesAll_14 lk_X7_65 (c_bitCount hk256) (⟨by decide, by decide⟩) (Nat.le_of_ble_eq_true rfl) rfl ?_
  rintro x G' ⟨rfl, rfl⟩
  refine x_cVI (pc := 17) dX7_makesAll_17 lk_X7_71 (c_Sm_lenX (s := 0) (T := zpop mk) hL hF hS hS1 hn (by omega)) k_88 ⟨by decide, rfl⟩ (hL 88 (by decide) (by decide)) (⟨by decide, by decide⟩) (Nat.le_of_ble_eq_true rfl) rfl ?_
  rintro x G' ⟨hx, hG⟩
  subst hG
  refine x_istore (pc := 20) dX7_makesAll_20 (by decide) rfl ?_
  refine x_iload (pc := 22) dX7_makesAll_22 rfl ?_
  refine x_iconst (pc := 24) dX7_makesAll_24 ?_
  refine x_cne (tgt := 30) (pc := 25) dX7_makesAll_25 (by decide) (by rcases hx with hx | ⟨len, hx⟩; omega; have := Nat.le_mul_of_pos_right len (show 0 < zpop mk by omega); omega) (fun c_25 => ?_) (fun c_25 => ?_)
  · skip
    refine x_iloadn (pc := 30) dX7_makesAll_30 rfl ?_
    refine x_ine (tgt := 42) (pc := 31) dX7_makesAll_31 (by decide) (by omega) (fun c_31 => ?_) (fun c_31 => ?_)
    · skip
      exact absurd rfl c_31
    obtain ⟨len, rfl, hl1, hl2⟩ : ∃ len : Nat, x = len ∧ 1 ≤ len ∧ (n - zpop mk) + len * zpop mk = sn 0 := by
      rcases hx with hx | hx
      · exact absurd hx.1 c_25
      · exact hx
    have hl8 : len ≤ 8 := by have := Nat.le_mul_of_pos_right len (show 0 < zpop mk by omega); omega
    have hzl : zpl mk len n = sn 0 := by rw [← zpl_of b1 b2.1 n (Nat.le_refl _), b2.len, ← hpc]; exact hl2
    obtain ⟨g1, g2⟩ := ztr_mk (n := n) (mk := mk) (put := len) (R := sl 0) (fun i hi => by
      have h1 := zpl_le (mk := mk) (put := len) (show i + 1 ≤ n by omega)
      have h2 : zpl mk len (i + 1) = zpl mk len i + (if zbt mk i = 1 then len else 1) := rfl
      exact (e4 _ (by split at h2 <;> omega)).2)
    have hv : zFv n (ztr mk len (sl 0)) := ⟨g2, by obtain ⟨k, hk1, hk2⟩ := zmk_some hk1 hk; exact ⟨k, hk1, (g1 k hk1).mp hk2⟩⟩
    have hU : ∀ F', zmk n F' mk → zCd S sn sl n F' → ∀ i, i < n → F' i = ztr mk len (sl 0) i := fun F' h1 h2 => by
      obtain ⟨len', q⟩ := h2.2 0 hS1
      have e := zlen_un (show 1 ≤ zpop mk by omega) ((zXm.sum h1 h2.1 hn hk q).trans hl2.symm)
      subst e
      exact ztr_un h1 h2.1 q
    refine x_aloadn (pc := 34) dX7_makesAll_34 rfl ?_
    refine x_iloadn (pc := 35) dX7_makesAll_35 rfl ?_
    refine x_iloadn (pc := 36) dX7_makesAll_36 rfl ?_
    refine x_iload (pc := 37) dX7_makesAll_37 rfl ?_
    refine x_cVV (pc := 39) dX7_makesAll_39 lk_X7_75 (c_Sm_lay hL hF hS hS1 hn hk256 hl8 hzl hl1) k_88 ⟨by decide, rfl⟩ (hL 88 (by decide) (by decide)) (⟨by decide, by decide⟩) (Nat.le_of_ble_eq_true rfl) rfl ?_
    rintro G1 ⟨a1, a2, hF⟩
    have hS' : cSm S sn sl G1 := ⟨by rw [a2 _ (by decide)]; exact s1, s2, fun i hi => by rw [a2 _ (by decide), a2 (90 + i) (by simp; omega)]; exact s3 i hi⟩
    refine x_aloadn (pc := 42) dX7_makesAll_42 rfl ?_
    refine x_iloadn (pc := 43) dX7_makesAll_43 rfl ?_
    refine x_iloadn (pc := 44) dX7_makesAll_44 rfl ?_
    refine x_iload (pc := 45) dX7_makesAll_45 rfl ?_
    refine x_cVI (pc := 47) dX7_makesAll_47 lk_X7_79 (c_Sm_one (s := 0) (F := ztr mk len (sl 0)) hL hF hS' hS1 hn g2 a1 hl1 (by rw [zpl_of g1 g2 n (Nat.le_refl _)]; exact hzl)) k_88 ⟨by decide, rfl⟩ (hL 88 (by decide) (by decide)) (⟨by decide, by decide⟩) (Nat.le_of_ble_eq_true rfl) rfl ?_
    rintro y G2 ⟨hy, hG⟩
    subst hG
    refine x_ine (tgt := 55) (pc := 50) dX7_makesAll_50 (by decide) (by rcases hy with hy | hy <;> omega) (fun c_50 => ?_) (fun c_50 => ?_)
    · skip
      refine x_iinc (pc := 55) dX7_makesAll_55 rfl (by decide) rfl ?_
      refine x_goto (tgt := 2) (pc := 58) dX7_makesAll_58 (by decide) ?_
      refine l_Sm_all (F := ztr mk len (sl 0)) hL hF hS' a2 hn hk hk1 g1 hv a1 hU (S - 1) 1 _ (by omega) (Nat.le_refl _) (fun s' hs' => ?_)
      have e : s' = 0 := by omega
      subst e
      refine ⟨len, hl1, by rw [zpl_of g1 g2 n (Nat.le_refl _)]; exact hzl, ?_⟩
      rcases hy with hy | hy
      · exact hy.2
      · omega
    · skip
      refine x_iconst (pc := 53) dX7_makesAll_53 ?_
      refine x_rZ (pc := 54) dX7_makesAll_54 rfl (by omega) ?_
      refine ⟨Or.inr ⟨rfl, fun F' h1 h2 => ?_⟩, a2, hF⟩
      rcases hy with hy | hy
      · omega
      · obtain ⟨len', q⟩ := h2.2 0 hS1
        have e := zlen_un (show 1 ≤ zpop mk by omega) ((zXm.sum h1 h2.1 hn hk q).trans hl2.symm)
        subst e
        exact hy.2 ((zXm_ci (hU F' h1 h2)).mp q).2.2
  · skip
    refine x_iconst (pc := 28) dX7_makesAll_28 ?_
    refine x_rZ (pc := 29) dX7_makesAll_29 rfl (by omega) ?_
    refine ⟨Or.inr ⟨rfl, fun F' h1 h2 => ?_⟩, FR.rf, hF⟩
    rcases hx with hx | ⟨len, hx⟩
    · obtain ⟨len', q⟩ := h2.2 0 hS1
      exact hx.2 len' q.1 (zXm.sum h1 h2.1 hn hk q)
    · omega
theorem c_Sm_all {G : Nat → Nat → Int} (hL : x_SL L) (hF : x_Fin xFL G) (hS : cSm S sn sl G) (hS1 : 1 ≤ S) (hn : n ≤ 8) (hk : mk < 2 ^ n) (hk1 : 1 ≤ mk) :
    CM yX7_makesAll mX7_makesAll 2 0 0 [vR 88, vI n, vI mk] L G (pMa L G S sn sl n mk) := by
  refine Ct.of_X (μ := mX7_makesAll) rfl rfl (by decide) (fun h => by cases h) (Nat.le_of_ble_eq_true rfl) rfl ?_
  refine x_iconst (pc := 0) dX7_makesAll_0 ?_
  refine x_istoren (pc := 1) dX7_makesAll_1 rfl (by decide) rfl ?_
  exact l_Sm_all0 hL hF hS hS1 hn hk hk1
theorem l_Sm_ahead {F B : Nat → Nat} {G : Nat → Nat → Int} (hL : x_SL L) (hF : x_Fin xFL G) (hn : n ≤ 8) (hb : G 88 5 = n) (ht : ∀ i, i < n → G 97 i = F i ∧ F i < 8) (hB : ∀ i, i < n → G 98 i = B i ∧ B i < 8) :
    ∀ (r i : Nat), i + r = n → (∀ j, j < i → B j = F j) →
    X mX7_isTrialAhead 0 0 0 (qI L fun x G' => ((x = 1 ∧ zLx n F B ∧ ∃ i, i < n ∧ (∀ j, j < i → B j = F j) ∧ F i < B i) ∨ (x = 0 ∧ zLx n B F)) ∧ G' = G) 2 [some (vR 88), some (vI i)] [] L G 0 0 := by
  intro r
  induction r with
  | zero =>
    intro i hi h
    have hi : i = n := by omega
    subst hi
    refine x_iloadn (pc := 2) dX7_isTrialAhead_2 rfl ?_
    refine x_aloadn (pc := 3) dX7_isTrialAhead_3 rfl ?_
    refine x_getI (pc := 4) dX7_isTrialAhead_4 fl_X7_30 k_88 (hL 88 (by decide) (by decide)) ?_
    refine x_cge (tgt := 52) (pc := 7) dX7_isTrialAhead_7 (by decide) (by omega) (fun c_7 => ?_) (fun c_7 => ?_)
    rotate_left
    · skip
      exact absurd c_7 (by omega)
    refine x_iconst (pc := 52) dX7_isTrialAhead_52 ?_
    refine x_rZ (pc := 53) dX7_isTrialAhead_53 rfl (by omega) ?_
    exact ⟨Or.inr ⟨rfl, fun i hi _ => by rw [h i hi]; exact Nat.le_refl _⟩, rfl⟩
  | succ r ih =>
    intro i hi h
    have e1 := ht i (by omega)
    have e2 := hB i (by omega)
    have hlx : F i < B i → zLx n F B := fun w k hk hj => by
      rcases Nat.lt_trichotomy k i with q | q | q
      · rw [h k q]; exact Nat.le_refl _
      · subst q; omega
      · have := hj i q; omega
    have hlx2 : B i < F i → zLx n B F := fun w k hk hj => by
      rcases Nat.lt_trichotomy k i with q | q | q
      · rw [h k q]; exact Nat.le_refl _
      · subst q; omega
      · have := hj i q; omega
    refine x_iloadn (pc := 2) dX7_isTrialAhead_2 rfl ?_
    refine x_aloadn (pc := 3) dX7_isTrialAhead_3 rfl ?_
    refine x_getI (pc := 4) dX7_isTrialAhead_4 fl_X7_30 k_88 (hL 88 (by decide) (by decide)) ?_
    refine x_cge (tgt := 52) (pc := 7) dX7_isTrialAhead_7 (by decide) (by omega) (fun c_7 => ?_) (fun c_7 => ?_)
    · skip
      exact absurd c_7 (by omega)
    refine x_aloadn (pc := 10) dX7_isTrialAhead_10 rfl ?_
    refine x_getR (97) (pc := 11) dX7_isTrialAhead_11 fl_X7_20 k_88 (hL 88 (by decide) (by decide)) (f_88_2 hF) ?_
    refine x_iloadn (pc := 14) dX7_isTrialAhead_14 rfl ?_
    refine x_iald (i) (pc := 15) dX7_isTrialAhead_15 k_97 (hL 97 (by decide) (by decide)) (⟨by omega, by omega, by decide⟩) ?_
    refine x_aloadn (pc := 16) dX7_isTrialAhead_16 rfl ?_
    refine x_getR (98) (pc := 17) dX7_isTrialAhead_17 fl_X7_23 k_88 (hL 88 (by decide) (by decide)) (f_88_3 hF) ?_
    refine x_iloadn (pc := 20) dX7_isTrialAhead_20 rfl ?_
    refine x_iald (i) (pc := 21) dX7_isTrialAhead_21 k_98 (hL 98 (by decide) (by decide)) (⟨by omega, by omega, by decide⟩) ?_
    refine x_ceq (tgt := 46) (pc := 22) dX7_isTrialAhead_22 (by decide) (by omega) (fun c_22 => ?_) (fun c_22 => ?_)
    · skip
      refine x_iinc (pc := 46) dX7_isTrialAhead_46 rfl (by decide) rfl ?_
      refine x_goto (tgt := 2) (pc := 49) dX7_isTrialAhead_49 (by decide) ?_
      exact ih (i + 1) (by omega) (fun j hj => by
        by_cases e : j = i
        · subst e; omega
        · exact h j (by omega))
    · skip
      refine x_aloadn (pc := 25) dX7_isTrialAhead_25 rfl ?_
      refine x_getR (97) (pc := 26) dX7_isTrialAhead_26 fl_X7_20 k_88 (hL 88 (by decide) (by decide)) (f_88_2 hF) ?_
      refine x_iloadn (pc := 29) dX7_isTrialAhead_29 rfl ?_
      refine x_iald (i) (pc := 30) dX7_isTrialAhead_30 k_97 (hL 97 (by decide) (by decide)) (⟨by omega, by omega, by decide⟩) ?_
      refine x_aloadn (pc := 31) dX7_isTrialAhead_31 rfl ?_
      refine x_getR (98) (pc := 32) dX7_isTrialAhead_32 fl_X7_23 k_88 (hL 88 (by decide) (by decide)) (f_88_3 hF) ?_
      refine x_iloadn (pc := 35) dX7_isTrialAhead_35 rfl ?_
      refine x_iald (i) (pc := 36) dX7_isTrialAhead_36 k_98 (hL 98 (by decide) (by decide)) (⟨by omega, by omega, by decide⟩) ?_
      refine x_cge (tgt := 44) (pc := 37) dX7_isTrialAhead_37 (by decide) (by omega) (fun c_37 => ?_) (fun c_37 => ?_)
      · skip
        refine x_iconst (pc := 44) dX7_isTrialAhead_44 ?_
        refine x_rZ (pc := 45) dX7_isTrialAhead_45 rfl (by omega) ?_
        first
        | exact ⟨Or.inl ⟨rfl, hlx (by omega), i, by omega, h, by omega⟩, rfl⟩
        | exact ⟨Or.inr ⟨rfl, hlx2 (by omega)⟩, rfl⟩
      · skip
        refine x_iconst (pc := 40) dX7_isTrialAhead_40 ?_
        refine x_goto (tgt := 45) (pc := 41) dX7_isTrialAhead_41 (by decide) ?_
        refine x_rZ (pc := 45) dX7_isTrialAhead_45 rfl (by omega) ?_
        first
        | exact ⟨Or.inl ⟨rfl, hlx (by omega), i, by omega, h, by omega⟩, rfl⟩
        | exact ⟨Or.inr ⟨rfl, hlx2 (by omega)⟩, rfl⟩
theorem c_Sm_ahead {F B : Nat → Nat} {G : Nat → Nat → Int} (hL : x_SL L) (hF : x_Fin xFL G) (hn : n ≤ 8) (hb : G 88 5 = n) (ht : ∀ i, i < n → G 97 i = F i ∧ F i < 8) (hB : ∀ i, i < n → G 98 i = B i ∧ B i < 8) :
    CM yX7_isTrialAhead mX7_isTrialAhead 0 0 0 [vR 88] L G (qI L fun x G' => ((x = 1 ∧ zLx n F B ∧ ∃ i, i < n ∧ (∀ j, j < i → B j = F j) ∧ F i < B i) ∨ (x = 0 ∧ zLx n B F)) ∧ G' = G) := by
  refine Ct.of_X (μ := mX7_isTrialAhead) rfl rfl (by decide) (fun h => by cases h) (Nat.le_of_ble_eq_true rfl) rfl ?_
  refine x_iconst (pc := 0) dX7_isTrialAhead_0 ?_
  refine x_istoren (pc := 1) dX7_isTrialAhead_1 rfl (by decide) rfl ?_
  exact l_Sm_ahead hL hF hn hb ht hB n 0 (by omega) (fun j hj => absurd hj (Nat.not_lt_zero j))
theorem c_Sm_keep {G : Nat → Nat → Int} (hL : x_SL L) (hF : x_Fin xFL G) (hn : n ≤ 8) :
    CM yX7_keepTrial mX7_keepTrial 1 0 0 [vR 88, vI n] L G (qV L fun G' => G' 88 5 = n ∧ (∀ i, i < 8 → G' 98 i = G 97 i) ∧ (∀ j, j ≠ 5 → G' 88 j = G 88 j) ∧ FR [88, 98] G G' ∧ x_Fin xFL G') := by
  refine Ct.of_X (μ := mX7_keepTrial) rfl rfl (by decide) (fun h => by cases h) (Nat.le_of_ble_eq_true rfl) rfl ?_
  refine x_aloadn (pc := 0) dX7_keepTrial_0 rfl ?_
  refine x_getR (97) (pc := 1) dX7_keepTrial_1 fl_X7_20 k_88 (hL 88 (by decide) (by decide)) (f_88_2 hF) ?_
  refine x_iconst (pc := 4) dX7_keepTrial_4 ?_
  refine x_aloadn (pc := 5) dX7_keepTrial_5 rfl ?_
  refine x_getR (98) (pc := 6) dX7_keepTrial_6 fl_X7_23 k_88 (hL 88 (by decide) (by decide)) (f_88_3 hF) ?_
  refine x_iconst (pc := 9) dX7_keepTrial_9 ?_
  refine x_bipush (pc := 10) dX7_keepTrial_10 (by decide) ?_
  refine x_cpy 0 0 8 rfl rfl rfl ⟨by decide, by decide⟩ (pc := 12) dX7_keepTrial_12 lm_X7_87 k_97 k_98 (hL 97 (by decide) (by decide)) (hL 98 (by decide) (by decide)) (by omega) (Nat.le_of_ble_eq_true rfl) ?_
  have hF := x_FinC (r0 := 97) (r1 := 98) (sp := 0) (dp := 0) (n := 8) hF k_98
  refine x_aloadn (pc := 15) dX7_keepTrial_15 rfl ?_
  refine x_iloadn (pc := 16) dX7_keepTrial_16 rfl ?_
  refine x_putIF (pc := 17) dX7_keepTrial_17 fp_X7_30 k_88 (hL 88 (by decide) (by decide)) hF (fun hF => ?_)
  refine x_rV (pc := 20) dX7_keepTrial_20 rfl ?_
  refine ⟨x_up_s, fun i hi => ?_, fun j hj => ?_, (FR.rf.cp (by decide)).up (by decide), hF⟩
  · rw [x_up_ne (by decide)]
    show (if _ then _ else _) = _
    rw [if_pos ⟨rfl, by omega, by omega⟩]
    rw [show 0 + (i - 0) = i by omega]
  · rw [x_up_k hj, x_cpG_ne (by decide)]
end XCM

