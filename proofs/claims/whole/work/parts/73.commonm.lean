/-! the reference: rows told as numbers, makesAll, common -/
def zdd (n v i : Nat) : Nat := v / 4 ^ (n - 1 - i) % 4
def zdF (n v i : Nat) : Nat := if zdd n v i = 3 then 5 else zdd n v i
theorem zdd_lt (n v i : Nat) : zdd n v i < 4 := Nat.mod_lt _ (by decide)
theorem zdF_v (n v i : Nat) : zdF n v i < 3 ∨ zdF n v i = 5 := by
  have := zdd_lt n v i
  unfold zdF
  by_cases c : zdd n v i = 3
  · rw [if_pos c]; exact Or.inr rfl
  · rw [if_neg c]; left; omega
theorem zdF_ex : ∀ (n : Nat) (F : Nat → Nat), (∀ i, i < n → F i < 3 ∨ F i = 5) → ∃ v, v < 4 ^ n ∧ ∀ i, i < n → zdF n v i = F i
  | 0, _, _ => ⟨0, by decide, fun i hi => absurd hi (Nat.not_lt_zero i)⟩
  | n + 1, F, h => by
    obtain ⟨v, h1, h2⟩ := zdF_ex n F (fun i hi => h i (by omega))
    have hp : 4 ^ (n + 1) = 4 * 4 ^ n := by rw [Nat.pow_succ, Nat.mul_comm]
    obtain ⟨e, he, hF⟩ : ∃ e, e < 4 ∧ (if e = 3 then 5 else e) = F n := by
      rcases h n (by omega) with q | q
      · exact ⟨F n, by omega, if_neg (by omega)⟩
      · exact ⟨3, by decide, by rw [if_pos rfl, q]⟩
    refine ⟨4 * v + e, by omega, fun i hi => ?_⟩
    by_cases c : i = n
    · subst c
      have : zdd (i + 1) (4 * v + e) i = e := by
        unfold zdd
        rw [show i + 1 - 1 - i = 0 by omega, Nat.pow_zero, Nat.div_one]; omega
      unfold zdF
      rw [this]; exact hF
    · have : zdd (n + 1) (4 * v + e) i = zdd n v i := by
        unfold zdd
        rw [show n + 1 - 1 - i = (n - 1 - i) + 1 by omega, Nat.pow_succ, Nat.mul_comm (4 ^ (n - 1 - i)) 4, ← Nat.div_div_eq_div_mul, show (4 * v + e) / 4 = v by omega]
      unfold zdF
      rw [this]; exact h2 i (by omega)
theorem zdF_inj {n v v' i : Nat} (h : zdF n v i = zdF n v' i) : zdd n v i = zdd n v' i := by
  have a := zdd_lt n v i
  have b := zdd_lt n v' i
  unfold zdF at h
  split at h <;> split at h <;> omega
theorem zdd_pre {n v v' : Nat} (hv : v < 4 ^ n) (hv' : v' < 4 ^ n) : ∀ i, i ≤ n → (∀ j, j < i → zdd n v j = zdd n v' j) → v / 4 ^ (n - i) = v' / 4 ^ (n - i)
  | 0, _, _ => by rw [Nat.sub_zero, Nat.div_eq_of_lt hv, Nat.div_eq_of_lt hv']
  | i + 1, hi, h => by
    have ih := zdd_pre hv hv' i (by omega) (fun j hj => h j (by omega))
    have e := h i (by omega)
    unfold zdd at e
    rw [show n - i = (n - (i + 1)) + 1 by omega, Nat.pow_succ, ← Nat.div_div_eq_div_mul, ← Nat.div_div_eq_div_mul] at ih
    rw [show n - 1 - i = n - (i + 1) by omega] at e
    omega
theorem zdF_lx {n v v' : Nat} (hv : v < 4 ^ n) (hv' : v' < 4 ^ n) (h : v ≤ v') : zLx n (zdF n v) (zdF n v') := by
  intro i hi hj
  have e := zdd_pre hv hv' i (by omega) (fun j hji => zdF_inj (hj j hji))
  have a : v / 4 ^ (n - 1 - i) ≤ v' / 4 ^ (n - 1 - i) := Nat.div_le_div_right h
  rw [show n - i = (n - 1 - i) + 1 by omega, Nat.pow_succ, ← Nat.div_div_eq_div_mul, ← Nat.div_div_eq_div_mul] at e
  have hd : zdd n v i ≤ zdd n v' i := by unfold zdd; omega
  have b := zdd_lt n v' i
  unfold zdF
  split <;> split <;> omega
theorem zdd_int {n v i : Nat} : ((v : Int) / 2 ^ (2 * (n - 1 - i)) % 4) = ((zdd n v i : Nat) : Int) := by
  have e : (2 : Int) ^ (2 * (n - 1 - i)) = ((4 ^ (n - 1 - i) : Nat) : Int) := by
    rw [show (4 : Nat) = 2 ^ 2 from rfl, ← Nat.pow_mul]; simp
  rw [e, ← Int.natCast_ediv]
  unfold zdd
  omega
section XMC
variable {S n : Nat} {sn : Nat → Nat} {sl : Nat → Nat → Nat} {L : List Nat}
theorem mSm.FM {G G' : Nat → Nat → Int} {T : List Nat} {F : List Nat} (h : mSm S sn sl G) (hQ : FM T F G G') (h1 : 140 ∉ T) (h2 : 141 ∉ T) (h3 : 127 ∉ T) (h4 : 17 ∉ F) : mSm S sn sl G' := by
  obtain ⟨s1, s2, s3⟩ := h
  exact ⟨by rw [hQ 127 17 h3 (fun _ => h4)]; exact s1, s2, fun i hi => by
    rw [hQ 141 i h2 (fun w => absurd w (by decide))]
    refine ⟨(s3 i hi).1, (s3 i hi).2.1, (s3 i hi).2.2.1, fun j hj => ?_⟩
    rw [hQ 140 _ h1 (fun w => absurd w (by decide))]
    exact (s3 i hi).2.2.2 j hj⟩
abbrev zmaS : List Nat := [163, 165, 166]
def zAW (S : Nat) (sn : Nat → Nat) (sl : Nat → Nat → Nat) (n : Nat) (F : Nat → Nat) (s : Nat) : Prop := ∀ s', s' < s → 0 < zWays n (zFo F) 0 (sn s') (sl s')
abbrev pMl (L : List Nat) (G0 : Nat → Nat → Int) (S : Nat) (sn : Nat → Nat) (sl : Nat → Nat → Nat) (n : Nat) (F : Nat → Nat) : x_Q := qI L fun x G' => ((x = 1 ∧ zAW S sn sl n F S) ∨ (x = 0 ∧ ¬ zAW S sn sl n F S)) ∧ FM zmaS [48] G0 G' ∧ x_Fin xFL G'
theorem l_mo_all28 {F : Nat → Nat} {G0 : Nat → Nat → Int} (hL : x_SL L) (hS : mSm S sn sl G0) (hn : n ≤ 12) (hf : G0 127 50 = n) (hft : ∀ j, j < n → G0 164 j = F j ∧ zV (F j)) {s : Nat} (hs : s < S) (hA : zAW S sn sl n F s)
    (cont1 : ∀ (G : Nat → Nat → Int) (o3 : Option (Nat × Int)), zAW S sn sl n F (s + 1) → FM zmaS [48] G0 G → x_Fin xFL G → X mX12_makesAll 2 0 0 (pMl L G0 S sn sl n F) 4 [some (vR 127), some (vI 1), some (vI ((s : Int) + 1)), o3] [] L G 0 0) :
    ∀ (r k : Nat) (G : Nat → Nat → Int), k + r = sn s → G 127 48 = sn s → (∀ j, j < k → G 163 j = sl s j) → FM zmaS [48] G0 G → x_Fin xFL G →
    X mX12_makesAll 2 0 0 (pMl L G0 S sn sl n F) 28 [some (vR 127), some (vI 1), some (vI s), some (vI k)] [] L G 0 0 := by
  obtain ⟨s1, s2, s3⟩ := id hS
  obtain ⟨e1, e2, e3, e4⟩ := s3 s hs
  have hb : zWays n (zFo F) 0 (sn s) (sl s) ≤ 923521 := zPc_le _
  intro r
  induction r with
  | zero =>
    intro k G hk hg hgl hQ hF
    have hk : k = sn s := by omega
    subst hk
    have hG : mGo n (zFo F) 0 (sn s) (sl s) G := ⟨by rw [hQ.at 127 50]; exact hf, hn, fun j hj => by rw [hQ.at 164 j (by decide) (fun w => absurd w (by decide))]; exact hft j hj, hg, by omega, fun j hj => ⟨hgl j hj, by have := (e4 j hj).2; omega⟩⟩
    refine x_iloadn (pc := 28) dX12_makesAll_28 rfl ?_
    refine x_aloadn (pc := 29) dX12_makesAll_29 rfl ?_
    refine x_getI (pc := 30) dX12_makesAll_30 fl_X12_331 k_127 (hL 127 (by decide) (by decide)) ?_
    refine x_cge (tgt := 59) (pc := 33) dX12_makesAll_33 (by decide) (by omega) (fun c_33 => ?_) (fun c_33 => ?_)
    rotate_left
    · skip
      exact absurd c_33 (by omega)
    refine x_aloadn (pc := 59) dX12_makesAll_59 rfl ?_
    refine x_cVI (pc := 60) dX12_makesAll_60 lk_X12_346 (c_mo_waysOf hL hF hG) k_127 ⟨by decide, rfl⟩ (hL 127 (by decide) (by decide)) (⟨by decide, by decide⟩) (Nat.le_of_ble_eq_true rfl) rfl ?_
    rintro x G1 ⟨rfl, a2, hF⟩
    have hQ1 : FM zmaS [48] G0 G1 := hQ.tr (a2.mono (by decide) (by decide))
    refine x_ile (tgt := 70) (pc := 63) dX12_makesAll_63 (by decide) (by omega) (fun c_63 => ?_) (fun c_63 => ?_)
    · skip
      refine x_iconst (pc := 70) dX12_makesAll_70 ?_
      refine x_istoren (pc := 71) dX12_makesAll_71 rfl (by decide) rfl ?_
      refine x_iinc (pc := 72) dX12_makesAll_72 rfl (by decide) rfl ?_
      refine x_goto (tgt := 4) (pc := 75) dX12_makesAll_75 (by decide) ?_
      first
      | (refine cont1 G1 _ (fun s' hs' => ?_) hQ1 hF
         by_cases e : s' = s
         · subst e; omega
         · exact hA s' (by omega))
      | (refine x_iloadn (pc := 4) dX12_makesAll_4 rfl ?_
         refine x_ieq (tgt := 78) (pc := 5) dX12_makesAll_5 (by decide) (by omega) (fun c_5 => ?_) (fun c_5 => absurd rfl c_5)
         refine x_iloadn (pc := 78) dX12_makesAll_78 rfl ?_
         refine x_rZ (pc := 79) dX12_makesAll_79 rfl (by omega) ?_
         exact ⟨Or.inr ⟨rfl, fun w => by have := w s hs; omega⟩, hQ1, hF⟩)
    · skip
      refine x_iconst (pc := 66) dX12_makesAll_66 ?_
      refine x_goto (tgt := 71) (pc := 67) dX12_makesAll_67 (by decide) ?_
      refine x_istoren (pc := 71) dX12_makesAll_71 rfl (by decide) rfl ?_
      refine x_iinc (pc := 72) dX12_makesAll_72 rfl (by decide) rfl ?_
      refine x_goto (tgt := 4) (pc := 75) dX12_makesAll_75 (by decide) ?_
      first
      | (refine cont1 G1 _ (fun s' hs' => ?_) hQ1 hF
         by_cases e : s' = s
         · subst e; omega
         · exact hA s' (by omega))
      | (refine x_iloadn (pc := 4) dX12_makesAll_4 rfl ?_
         refine x_ieq (tgt := 78) (pc := 5) dX12_makesAll_5 (by decide) (by omega) (fun c_5 => ?_) (fun c_5 => absurd rfl c_5)
         refine x_iloadn (pc := 78) dX12_makesAll_78 rfl ?_
         refine x_rZ (pc := 79) dX12_makesAll_79 rfl (by omega) ?_
         exact ⟨Or.inr ⟨rfl, fun w => by have := w s hs; omega⟩, hQ1, hF⟩)
  | succ r ih =>
    intro k G hk hg hgl hQ hF
    have hsl : G 140 (8 * s + k) = sl s k := by rw [hQ.at 140 (8 * s + k) (by decide) (fun w => absurd w (by decide))]; exact (e4 k (by omega)).1
    refine x_iloadn (pc := 28) dX12_makesAll_28 rfl ?_
    refine x_aloadn (pc := 29) dX12_makesAll_29 rfl ?_
    refine x_getI (pc := 30) dX12_makesAll_30 fl_X12_331 k_127 (hL 127 (by decide) (by decide)) ?_
    refine x_cge (tgt := 59) (pc := 33) dX12_makesAll_33 (by decide) (by omega) (fun c_33 => ?_) (fun c_33 => ?_)
    · skip
      exact absurd c_33 (by omega)
    refine x_aloadn (pc := 36) dX12_makesAll_36 rfl ?_
    refine x_getR (163) (pc := 37) dX12_makesAll_37 fl_X12_117 k_127 (hL 127 (by decide) (by decide)) (f_127_47 hF) ?_
    refine x_iloadn (pc := 40) dX12_makesAll_40 rfl ?_
    refine x_aloadn (pc := 41) dX12_makesAll_41 rfl ?_
    refine x_getR (140) (pc := 42) dX12_makesAll_42 fl_X12_46 k_127 (hL 127 (by decide) (by decide)) (f_127_15 hF) ?_
    refine x_bipush (pc := 45) dX12_makesAll_45 (by decide) ?_
    refine x_iloadn (pc := 47) dX12_makesAll_47 rfl ?_
    refine x_imul (pc := 48) dX12_makesAll_48 ?_
    refine x_iloadn (pc := 49) dX12_makesAll_49 rfl ?_
    refine x_iadd (pc := 50) dX12_makesAll_50 ?_
    refine x_iald (8 * s + k) (pc := 51) dX12_makesAll_51 k_140 (hL 140 (by decide) (by decide)) (⟨by omega, by omega, by decide⟩) ?_
    rw [hsl]
    refine x_iastF (k) (pc := 52) dX12_makesAll_52 k_163 (hL 163 (by decide) (by decide)) (⟨by omega, by omega, by decide⟩) hF (fun hF => ?_)
    refine x_iinc (pc := 53) dX12_makesAll_53 rfl (by decide) rfl ?_
    refine x_goto (tgt := 28) (pc := 56) dX12_makesAll_56 (by decide) ?_
    refine ih (k + 1) _ (by omega) (by rw [x_up_ne (by decide)]; exact hg) (fun j hj => ?_) (hQ.upA (by decide)) hF
    by_cases e : j = k
    · subst e; exact x_up_s
    · rw [x_up_k e]; exact hgl j (by omega)
theorem l_mo_all4 {F : Nat → Nat} {G0 : Nat → Nat → Int} (hL : x_SL L) (hS : mSm S sn sl G0) (hn : n ≤ 12) (hf : G0 127 50 = n) (hft : ∀ j, j < n → G0 164 j = F j ∧ zV (F j)) :
    ∀ (r s : Nat) (G : Nat → Nat → Int) (o3 : Option (Nat × Int)), s + r = S → zAW S sn sl n F s → FM zmaS [48] G0 G → x_Fin xFL G →
    X mX12_makesAll 2 0 0 (pMl L G0 S sn sl n F) 4 [some (vR 127), some (vI 1), some (vI s), o3] [] L G 0 0 := by
  obtain ⟨s1, s2, s3⟩ := id hS
  intro r
  induction r with
  | zero =>
    intro s G o3 hs hA hQ hF
    have hs : s = S := by omega
    subst hs
    have e17 : G 127 17 = s := by rw [hQ.at 127 17]; exact s1
    refine x_iloadn (pc := 4) dX12_makesAll_4 rfl ?_
    refine x_ieq (tgt := 78) (pc := 5) dX12_makesAll_5 (by decide) (by omega) (fun c_5 => ?_) (fun c_5 => ?_)
    · skip
      exact absurd c_5 (by decide)
    refine x_iloadn (pc := 8) dX12_makesAll_8 rfl ?_
    refine x_aloadn (pc := 9) dX12_makesAll_9 rfl ?_
    refine x_getI (pc := 10) dX12_makesAll_10 fl_X12_349 k_127 (hL 127 (by decide) (by decide)) ?_
    refine x_cge (tgt := 78) (pc := 13) dX12_makesAll_13 (by decide) (by omega) (fun c_13 => ?_) (fun c_13 => ?_)
    rotate_left
    · skip
      exact absurd c_13 (by omega)
    refine x_iloadn (pc := 78) dX12_makesAll_78 rfl ?_
    refine x_rZ (pc := 79) dX12_makesAll_79 rfl (by omega) ?_
    exact ⟨Or.inl ⟨rfl, hA⟩, hQ, hF⟩
  | succ r ih =>
    intro s G o3 hs hA hQ hF
    have e17 : G 127 17 = S := by rw [hQ.at 127 17]; exact s1
    have e141 : G 141 s = sn s := by rw [hQ.at 141 s (by decide) (fun w => absurd w (by decide))]; exact (s3 s (by omega)).1
    refine x_iloadn (pc := 4) dX12_makesAll_4 rfl ?_
    refine x_ieq (tgt := 78) (pc := 5) dX12_makesAll_5 (by decide) (by omega) (fun c_5 => ?_) (fun c_5 => ?_)
    · skip
      exact absurd c_5 (by decide)
    refine x_iloadn (pc := 8) dX12_makesAll_8 rfl ?_
    refine x_aloadn (pc := 9) dX12_makesAll_9 rfl ?_
    refine x_getI (pc := 10) dX12_makesAll_10 fl_X12_349 k_127 (hL 127 (by decide) (by decide)) ?_
    refine x_cge (tgt := 78) (pc := 13) dX12_makesAll_13 (by decide) (by omega) (fun c_13 => ?_) (fun c_13 => ?_)
    · skip
      exact absurd c_13 (by omega)
    refine x_aloadn (pc := 16) dX12_makesAll_16 rfl ?_
    refine x_aloadn (pc := 17) dX12_makesAll_17 rfl ?_
    refine x_getR (141) (pc := 18) dX12_makesAll_18 fl_X12_49 k_127 (hL 127 (by decide) (by decide)) (f_127_16 hF) ?_
    refine x_iloadn (pc := 21) dX12_makesAll_21 rfl ?_
    refine x_iald (s) (pc := 22) dX12_makesAll_22 k_141 (hL 141 (by decide) (by decide)) (⟨rfl, by omega, by decide⟩) ?_
    rw [e141]
    refine x_putIF (pc := 23) dX12_makesAll_23 fp_X12_331 k_127 (hL 127 (by decide) (by decide)) hF (fun hF => ?_)
    refine x_iconst (pc := 26) dX12_makesAll_26 ?_
    refine x_istoren (pc := 27) dX12_makesAll_27 rfl (by decide) rfl ?_
    exact l_mo_all28 hL hS hn hf hft (by omega) hA (fun G1 o3 b1 b2 b3 => ih (s + 1) G1 o3 (by omega) b1 b2 b3) (sn s) 0 _ (by omega) x_up_s (fun j hj => absurd hj (Nat.not_lt_zero j)) (hQ.upF (by decide)) hF
theorem c_mo_all {F : Nat → Nat} {G : Nat → Nat → Int} (hL : x_SL L) (hF : x_Fin xFL G) (hS : mSm S sn sl G) (hn : n ≤ 12) (hf : G 127 50 = n) (hft : ∀ j, j < n → G 164 j = F j ∧ zV (F j)) :
    CM yX12_makesAll mX12_makesAll 2 0 0 [vR 127] L G (pMl L G S sn sl n F) := by
  refine Ct.of_X (μ := mX12_makesAll) rfl rfl (by decide) (fun h => by cases h) (Nat.le_of_ble_eq_true rfl) rfl ?_
  refine x_iconst (pc := 0) dX12_makesAll_0 ?_
  refine x_istoren (pc := 1) dX12_makesAll_1 rfl (by decide) rfl ?_
  refine x_iconst (pc := 2) dX12_makesAll_2 ?_
  refine x_istoren (pc := 3) dX12_makesAll_3 rfl (by decide) rfl ?_
  exact l_mo_all4 hL hS hn hf hft S 0 G none (by omega) (fun s' hs' => absurd hs' (Nat.not_lt_zero s')) FM.rf hF
theorem zAW_cd {F : Nat → Nat} (hv : zFv n F) (hs : ∀ s, s < S → sn s ≤ 30) : zAW S sn sl n F S ↔ zCd S sn sl n F :=
  ⟨fun w => ⟨hv, fun s h => (zWays_x hv (hs s h)).mp (w s h)⟩, fun w s h => (zWays_x hv (hs s h)).mpr (w.2 s h)⟩
abbrev zcoS : List Nat := [164, 163, 165, 166]
abbrev pCo (L : List Nat) (G0 : Nat → Nat → Int) (S : Nat) (sn : Nat → Nat) (sl : Nat → Nat → Nat) (k : Int) : x_Q := qI L fun x G' => ((k < -1 ∧ x = -3) ∨ (-1 ≤ k ∧ S = 0 ∧ x = -4) ∨ (-1 ≤ k ∧ 1 ≤ S ∧ ∃ nn F, zCmn S sn sl nn F ∧ x = zCans nn F k)) ∧ mSm S sn sl G' ∧ FM zcoS [50, 48] G0 G' ∧ x_Fin xFL G'
/-- one number made a row -/
theorem l_mo_co48 {v : Nat} {k : Int} {Q : x_Q} {G0 : Nat → Nat → Int} (hL : x_SL L) (hn : 1 ≤ n ∧ n ≤ 8) (hv : v < 4 ^ n)
    (cont : ∀ (G : Nat → Nat → Int) (h : Int) (o6 : Option (Nat × Int)), (h = 1 ∧ (∃ i, i < n ∧ zdF n v i = 5) ∨ h = 0 ∧ ¬ ∃ i, i < n ∧ zdF n v i = 5) → G 127 50 = n → (∀ j, j < n → G 164 j = zdF n v j) → FM zcoS [50, 48] G0 G → x_Fin xFL G → X mX12_common 3 0 0 Q 111 [some (vR 127), some (vI k), some (vI n), some (vI v), some (vI h), some (vI n), o6] [] L G 0 0) :
    ∀ (r i : Nat) (G : Nat → Nat → Int) (h : Int) (o6 : Option (Nat × Int)), i + r = n → (h = 1 ∧ (∃ j, j < i ∧ zdF n v j = 5) ∨ h = 0 ∧ ¬ ∃ j, j < i ∧ zdF n v j = 5) → G 127 50 = n → (∀ j, j < i → G 164 j = zdF n v j) → FM zcoS [50, 48] G0 G → x_Fin xFL G →
    X mX12_common 3 0 0 Q 48 [some (vR 127), some (vI k), some (vI n), some (vI v), some (vI h), some (vI i), o6] [] L G 0 0 := by
  have hp : 4 ^ n ≤ 4 ^ 8 := Nat.pow_le_pow_right (by decide) hn.2
  intro r
  induction r with
  | zero =>
    intro i G h o6 hi hh hf hft hQ hF
    have hi : i = n := by omega
    subst hi
    refine x_iload (pc := 48) dX12_common_48 rfl ?_
    refine x_iloadn (pc := 50) dX12_common_50 rfl ?_
    refine x_cge (tgt := 111) (pc := 51) dX12_common_51 (by decide) (by omega) (fun c_51 => ?_) (fun c_51 => ?_)
    rotate_left
    · skip
      exact absurd c_51 (by omega)
    exact cont G h _ hh hf hft hQ hF
  | succ r ih =>
    intro i G h o6 hi hh hf hft hQ hF
    have hd4 := zdd_lt n v i
    have hup : ∀ (x : Int), x = zdF n v i → ∀ j, j < i + 1 → x_up G 164 i x 164 j = zdF n v j := fun x hx j hj => by
      by_cases e : j = i
      · subst e; rw [x_up_s, hx]
      · rw [x_up_k e]; exact hft j (by omega)
    have h01 : h = 0 ∨ h = 1 := by rcases hh with hh | hh; exact Or.inr hh.1; exact Or.inl hh.1
    by_cases c : zdd n v i = 3
    · have hz : zdF n v i = 5 := if_pos c
      refine x_iload (pc := 48) dX12_common_48 rfl ?_
      refine x_iloadn (pc := 50) dX12_common_50 rfl ?_
      refine x_cge (tgt := 111) (pc := 51) dX12_common_51 (by decide) (by omega) (fun c_51 => ?_) (fun c_51 => ?_)
      · skip
        exact absurd c_51 (by omega)
      refine x_iloadn (pc := 54) dX12_common_54 rfl ?_
      refine x_iconst (pc := 55) dX12_common_55 ?_
      refine x_iloadn (pc := 56) dX12_common_56 rfl ?_
      refine x_iconst (pc := 57) dX12_common_57 ?_
      refine x_isub (pc := 58) dX12_common_58 ?_
      refine x_iload (pc := 59) dX12_common_59 rfl ?_
      refine x_isub (pc := 61) dX12_common_61 ?_
      refine x_imul (pc := 62) dX12_common_62 ?_
      refine x_ishr (pc := 63) dX12_common_63 (2 * (n - 1 - i)) (by omega) (by omega) (by omega) ?_
      refine x_iconst (pc := 64) dX12_common_64 ?_
      refine x_iandm (pc := 65) dX12_common_65 2 4 (by decide) (by decide) (by decide) ?_
      rw [zdd_int]
      refine x_istore (pc := 66) dX12_common_66 (by decide) rfl ?_
      refine x_aloadn (pc := 68) dX12_common_68 rfl ?_
      refine x_getR (164) (pc := 69) dX12_common_69 fl_X12_120 k_127 (hL 127 (by decide) (by decide)) (f_127_49 hF) ?_
      refine x_iload (pc := 72) dX12_common_72 rfl ?_
      refine x_iload (pc := 74) dX12_common_74 rfl ?_
      refine x_iconst (pc := 76) dX12_common_76 ?_
      refine x_cne (tgt := 84) (pc := 77) dX12_common_77 (by decide) (by omega) (fun c_77 => ?_) (fun c_77 => ?_)
      · skip
        exact absurd (by omega) c_77
      refine x_iconst (pc := 80) dX12_common_80 ?_
      refine x_goto (tgt := 86) (pc := 81) dX12_common_81 (by decide) ?_
      refine x_iastF (i) (pc := 86) dX12_common_86 k_164 (hL 164 (by decide) (by decide)) (⟨by omega, by omega, by decide⟩) hF (fun hF => ?_)
      refine x_iload (pc := 87) dX12_common_87 rfl ?_
      refine x_ine (tgt := 98) (pc := 89) dX12_common_89 (by decide) (by omega) (fun c_89 => ?_) (fun c_89 => ?_)
      · skip
        refine x_iconst (pc := 98) dX12_common_98 ?_
        refine x_goto (tgt := 103) (pc := 99) dX12_common_99 (by decide) ?_
        refine x_istore (pc := 103) dX12_common_103 (by decide) rfl ?_
        refine x_iinc (pc := 105) dX12_common_105 rfl (by decide) rfl ?_
        refine x_goto (tgt := 48) (pc := 108) dX12_common_108 (by decide) ?_
        exact ih (i + 1) _ 1 _ (by omega) (Or.inl ⟨rfl, i, by omega, hz⟩) (by rw [x_up_ne (by decide)]; exact hf) (hup _ (by rw [hz]; rfl)) (hQ.upA (by decide)) hF
      · skip
        refine x_iload (pc := 92) dX12_common_92 rfl ?_
        refine x_iconst (pc := 94) dX12_common_94 ?_
        refine x_cne (tgt := 102) (pc := 95) dX12_common_95 (by decide) (by omega) (fun c_95 => ?_) (fun c_95 => ?_)
        · skip
          exact absurd (by omega) c_95
        refine x_iconst (pc := 98) dX12_common_98 ?_
        refine x_goto (tgt := 103) (pc := 99) dX12_common_99 (by decide) ?_
        refine x_istore (pc := 103) dX12_common_103 (by decide) rfl ?_
        refine x_iinc (pc := 105) dX12_common_105 rfl (by decide) rfl ?_
        refine x_goto (tgt := 48) (pc := 108) dX12_common_108 (by decide) ?_
        exact ih (i + 1) _ 1 _ (by omega) (Or.inl ⟨rfl, i, by omega, hz⟩) (by rw [x_up_ne (by decide)]; exact hf) (hup _ (by rw [hz]; rfl)) (hQ.upA (by decide)) hF
    · have hz : zdF n v i = zdd n v i := if_neg c
      have hh2 : (h = 1 ∧ (∃ j, j < i + 1 ∧ zdF n v j = 5) ∨ h = 0 ∧ ¬ ∃ j, j < i + 1 ∧ zdF n v j = 5) := by
        rcases hh with ⟨h1, j, h2, h3⟩ | ⟨h1, h2⟩
        · exact Or.inl ⟨h1, j, by omega, h3⟩
        · refine Or.inr ⟨h1, fun ⟨j, h3, h4⟩ => ?_⟩
          by_cases e : j = i
          · subst e; omega
          · exact h2 ⟨j, by omega, h4⟩
      refine x_iload (pc := 48) dX12_common_48 rfl ?_
      refine x_iloadn (pc := 50) dX12_common_50 rfl ?_
      refine x_cge (tgt := 111) (pc := 51) dX12_common_51 (by decide) (by omega) (fun c_51 => ?_) (fun c_51 => ?_)
      · skip
        exact absurd c_51 (by omega)
      refine x_iloadn (pc := 54) dX12_common_54 rfl ?_
      refine x_iconst (pc := 55) dX12_common_55 ?_
      refine x_iloadn (pc := 56) dX12_common_56 rfl ?_
      refine x_iconst (pc := 57) dX12_common_57 ?_
      refine x_isub (pc := 58) dX12_common_58 ?_
      refine x_iload (pc := 59) dX12_common_59 rfl ?_
      refine x_isub (pc := 61) dX12_common_61 ?_
      refine x_imul (pc := 62) dX12_common_62 ?_
      refine x_ishr (pc := 63) dX12_common_63 (2 * (n - 1 - i)) (by omega) (by omega) (by omega) ?_
      refine x_iconst (pc := 64) dX12_common_64 ?_
      refine x_iandm (pc := 65) dX12_common_65 2 4 (by decide) (by decide) (by decide) ?_
      rw [zdd_int]
      refine x_istore (pc := 66) dX12_common_66 (by decide) rfl ?_
      refine x_aloadn (pc := 68) dX12_common_68 rfl ?_
      refine x_getR (164) (pc := 69) dX12_common_69 fl_X12_120 k_127 (hL 127 (by decide) (by decide)) (f_127_49 hF) ?_
      refine x_iload (pc := 72) dX12_common_72 rfl ?_
      refine x_iload (pc := 74) dX12_common_74 rfl ?_
      refine x_iconst (pc := 76) dX12_common_76 ?_
      refine x_cne (tgt := 84) (pc := 77) dX12_common_77 (by decide) (by omega) (fun c_77 => ?_) (fun c_77 => ?_)
      rotate_left
      · skip
        exact absurd c_77 (by omega)
      refine x_iload (pc := 84) dX12_common_84 rfl ?_
      refine x_iastF (i) (pc := 86) dX12_common_86 k_164 (hL 164 (by decide) (by decide)) (⟨by omega, by omega, by decide⟩) hF (fun hF => ?_)
      refine x_iload (pc := 87) dX12_common_87 rfl ?_
      refine x_ine (tgt := 98) (pc := 89) dX12_common_89 (by decide) (by omega) (fun c_89 => ?_) (fun c_89 => ?_)
      · skip
        refine x_iconst (pc := 98) dX12_common_98 ?_
        refine x_goto (tgt := 103) (pc := 99) dX12_common_99 (by decide) ?_
        refine x_istore (pc := 103) dX12_common_103 (by decide) rfl ?_
        refine x_iinc (pc := 105) dX12_common_105 rfl (by decide) rfl ?_
        refine x_goto (tgt := 48) (pc := 108) dX12_common_108 (by decide) ?_
        have e := fun h hh2 => ih (i + 1) _ h (some (vI (zdd n v i))) (by omega) hh2 (by rw [x_up_ne (by decide)]; exact hf) (hup _ (by rw [hz])) (hQ.upA (by decide)) hF
        first
        | (have eh : h = 1 := by omega
           subst eh
           exact e 1 hh2)
        | (have eh : h = 0 := by omega
           subst eh
           exact e 0 hh2)
      · skip
        refine x_iload (pc := 92) dX12_common_92 rfl ?_
        refine x_iconst (pc := 94) dX12_common_94 ?_
        refine x_cne (tgt := 102) (pc := 95) dX12_common_95 (by decide) (by omega) (fun c_95 => ?_) (fun c_95 => ?_)
        rotate_left
        · skip
          exact absurd c_95 (by omega)
        refine x_iconst (pc := 102) dX12_common_102 ?_
        refine x_istore (pc := 103) dX12_common_103 (by decide) rfl ?_
        refine x_iinc (pc := 105) dX12_common_105 rfl (by decide) rfl ?_
        refine x_goto (tgt := 48) (pc := 108) dX12_common_108 (by decide) ?_
        have e := fun h hh2 => ih (i + 1) _ h (some (vI (zdd n v i))) (by omega) hh2 (by rw [x_up_ne (by decide)]; exact hf) (hup _ (by rw [hz])) (hQ.upA (by decide)) hF
        first
        | (have eh : h = 1 := by omega
           subst eh
           exact e 1 hh2)
        | (have eh : h = 0 := by omega
           subst eh
           exact e 0 hh2)
theorem l_mo_co111 {v : Nat} {k h : Int} {o6 : Option (Nat × Int)} {G0 G : Nat → Nat → Int} (hL : x_SL L) (hS : mSm S sn sl G0) (hS1 : 1 ≤ S) (hk : -1 ≤ k ∧ k < 2147483648) (hn : 2 ≤ n ∧ n ≤ 8) (hv : v < 4 ^ n) (hno : ∀ n' F', n < n' → n' ≤ 8 → ¬ zCd S sn sl n' F') (hA : ∀ v', v' < v → ¬ zCd S sn sl n (zdF n v'))
    (hh : h = 1 ∧ (∃ i, i < n ∧ zdF n v i = 5) ∨ h = 0 ∧ ¬ ∃ i, i < n ∧ zdF n v i = 5) (hf : G 127 50 = n) (hft : ∀ j, j < n → G 164 j = zdF n v j) (hQ : FM zcoS [50, 48] G0 G) (hF : x_Fin xFL G)
    (cont : ∀ (G : Nat → Nat → Int), ¬ zCd S sn sl n (zdF n v) → FM zcoS [50, 48] G0 G → x_Fin xFL G → X mX12_common 3 0 0 (pCo L G0 S sn sl k) 28 [some (vR 127), some (vI k), some (vI n), some (vI ((v : Int) + 1)), some (vI h), some (vI n), o6] [] L G 0 0) :
    X mX12_common 3 0 0 (pCo L G0 S sn sl k) 111 [some (vR 127), some (vI k), some (vI n), some (vI v), some (vI h), some (vI n), o6] [] L G 0 0 := by
  have hS' : mSm S sn sl G := hS.FM hQ (by decide) (by decide) (by decide) (by decide)
  have hs30 : ∀ s, s < S → sn s ≤ 30 := fun s hs => by have := (hS.2.2 s hs).2.2.1; omega
  have hzV : ∀ j, j < n → zV (zdF n v j) := fun j _ => by rcases zdF_v n v j with q | q <;> exact ⟨by omega, by omega⟩
  refine x_iload (pc := 111) dX12_common_111 rfl ?_
  refine x_ieq (tgt := 148) (pc := 113) dX12_common_113 (by decide) (by rcases hh with hh | hh <;> omega) (fun c_113 => ?_) (fun c_113 => ?_)
  · skip
    refine x_iinc (pc := 148) dX12_common_148 rfl (by decide) rfl ?_
    refine x_goto (tgt := 28) (pc := 151) dX12_common_151 (by decide) ?_
    first
    | (refine cont G1 ?_ hQ1 hF
       rcases hx with hx | hx
       · omega
       · exact hx.2)
    | (refine cont G (fun w => ?_) hQ hF
       rcases hh with hh | hh
       · omega
       · exact hh.2 w.1.2)
  · skip
    refine x_aloadn (pc := 116) dX12_common_116 rfl ?_
    refine x_cVI (pc := 117) dX12_common_117 lk_X12_352 (c_mo_all (F := zdF n v) hL hF hS' (by omega) hf (fun j hj => ⟨hft j hj, hzV j hj⟩)) k_127 ⟨by decide, rfl⟩ (hL 127 (by decide) (by decide)) (⟨by decide, by decide⟩) (Nat.le_of_ble_eq_true rfl) rfl ?_
    rintro x G1 ⟨hx, a2, hF⟩
    have hQ1 : FM zcoS [50, 48] G0 G1 := hQ.tr (a2.mono (by decide) (by decide))
    have hfv : zFv n (zdF n v) := ⟨fun i _ => zdF_v n v i, by rcases hh with hh | hh; exact hh.2; omega⟩
    rw [zAW_cd hfv hs30] at hx
    refine x_ieq (tgt := 148) (pc := 120) dX12_common_120 (by decide) (by rcases hx with hx | hx <;> omega) (fun c_120 => ?_) (fun c_120 => ?_)
    · skip
      refine x_iinc (pc := 148) dX12_common_148 rfl (by decide) rfl ?_
      refine x_goto (tgt := 28) (pc := 151) dX12_common_151 (by decide) ?_
      first
      | (refine cont G1 ?_ hQ1 hF
         rcases hx with hx | hx
         · omega
         · exact hx.2)
      | (refine cont G (fun w => ?_) hQ hF
         rcases hh with hh | hh
         · omega
         · exact hh.2 w.1.2)
    · skip
      have hcd : zCd S sn sl n (zdF n v) := by
        rcases hx with hx | hx
        · exact hx.2
        · exact absurd hx.1 c_120
      have hmn : zCmn S sn sl n (zdF n v) := ⟨by omega, hn.2, hcd, fun F' h3 => by
        obtain ⟨v', g1, g2⟩ := zdF_ex n F' h3.1.1
        have hle : v ≤ v' := by
          rcases Nat.lt_or_ge v' v with q | q
          · exact absurd (zCd_ci (fun i hi => (g2 i hi).symm) h3) (hA v' q)
          · exact q
        intro i hi hj
        have := zdF_lx hv g1 hle i hi (fun j hji => (hj j hji).trans (g2 j (by omega)).symm)
        rw [g2 i hi] at this
        exact this, hno⟩
      have hS2 : mSm S sn sl G1 := hS.FM hQ1 (by decide) (by decide) (by decide) (by decide)
      have fin : ∀ x, x = zCans n (zdF n v) k → (((k < -1 ∧ x = -3) ∨ (-1 ≤ k ∧ S = 0 ∧ x = -4) ∨ (-1 ≤ k ∧ 1 ≤ S ∧ ∃ nn F, zCmn S sn sl nn F ∧ x = zCans nn F k)) ∧ mSm S sn sl G1 ∧ FM zcoS [50, 48] G0 G1 ∧ x_Fin xFL G1) := fun x hx => ⟨Or.inr (Or.inr ⟨hk.1, hS1, n, _, hmn, hx⟩), hS2, hQ1, hF⟩
      refine x_iloadn (pc := 123) dX12_common_123 rfl ?_
      refine x_iconst (pc := 124) dX12_common_124 ?_
      refine x_cne (tgt := 132) (pc := 125) dX12_common_125 (by decide) (by omega) (fun c_125 => ?_) (fun c_125 => ?_)
      · skip
        refine x_iloadn (pc := 132) dX12_common_132 rfl ?_
        refine x_iloadn (pc := 133) dX12_common_133 rfl ?_
        refine x_cge (tgt := 146) (pc := 134) dX12_common_134 (by decide) (by omega) (fun c_134 => ?_) (fun c_134 => ?_)
        · skip
          refine x_iconst (pc := 146) dX12_common_146 ?_
          refine x_rI (pc := 147) dX12_common_147 rfl ?_
          refine fin _ ?_
          unfold zCans
          first | (rw [if_pos (by omega)]; done) | (rw [if_neg (by omega), if_pos (by omega)]; done) | (rw [if_neg (by omega), if_neg (by omega)]; done)
        · skip
          refine x_aloadn (pc := 137) dX12_common_137 rfl ?_
          refine x_getR (164) (pc := 138) dX12_common_138 fl_X12_120 k_127 (hL 127 (by decide) (by decide)) (f_127_49 hF) ?_
          refine x_iloadn (pc := 141) dX12_common_141 rfl ?_
          refine x_iald (k.toNat) (pc := 142) dX12_common_142 k_164 (hL 164 (by decide) (by decide)) (⟨by omega, by omega, by decide⟩) ?_
          rw [show G1 164 k.toNat = (zdF n v k.toNat : Int) by rw [a2.at 164 _ (by decide) (fun w => absurd w (by decide))]; exact hft _ (by omega)]
          refine x_goto (tgt := 147) (pc := 143) dX12_common_143 (by decide) ?_
          refine x_rI (pc := 147) dX12_common_147 rfl ?_
          refine fin _ ?_
          unfold zCans
          first | (rw [if_pos (by omega)]; done) | (rw [if_neg (by omega), if_pos (by omega)]; done) | (rw [if_neg (by omega), if_neg (by omega)]; done)
      · skip
        refine x_iloadn (pc := 128) dX12_common_128 rfl ?_
        refine x_goto (tgt := 147) (pc := 129) dX12_common_129 (by decide) ?_
        refine x_rI (pc := 147) dX12_common_147 rfl ?_
        refine fin _ ?_
        unfold zCans
        first | (rw [if_pos (by omega)]; done) | (rw [if_neg (by omega), if_pos (by omega)]; done) | (rw [if_neg (by omega), if_neg (by omega)]; done)
theorem l_mo_co28 {k : Int} {G0 : Nat → Nat → Int} (hL : x_SL L) (hS : mSm S sn sl G0) (hS1 : 1 ≤ S) (hk : -1 ≤ k ∧ k < 2147483648) (hn : 2 ≤ n ∧ n ≤ 8) (hno : ∀ n' F', n < n' → n' ≤ 8 → ¬ zCd S sn sl n' F')
    (cont : ∀ (G : Nat → Nat → Int) (o3 o4 o5 o6 : Option (Nat × Int)), (∀ n' F', n ≤ n' → n' ≤ 8 → ¬ zCd S sn sl n' F') → FM zcoS [50, 48] G0 G → x_Fin xFL G → X mX12_common 3 0 0 (pCo L G0 S sn sl k) 21 [some (vR 127), some (vI k), some (vI ((n : Int) + -1)), o3, o4, o5, o6] [] L G 0 0) :
    ∀ (r v : Nat) (G : Nat → Nat → Int) (o4 o5 o6 : Option (Nat × Int)), v + r = 4 ^ n → (∀ v', v' < v → ¬ zCd S sn sl n (zdF n v')) → FM zcoS [50, 48] G0 G → x_Fin xFL G →
    X mX12_common 3 0 0 (pCo L G0 S sn sl k) 28 [some (vR 127), some (vI k), some (vI n), some (vI v), o4, o5, o6] [] L G 0 0 := by
  obtain ⟨s1, s2, s3⟩ := id hS
  have hp : 4 ^ n ≤ 4 ^ 8 := Nat.pow_le_pow_right (by decide) hn.2
  have hsh : (1 : Int) * 2 ^ (2 * n) = ((4 ^ n : Nat) : Int) := by
    rw [show (4 : Nat) = 2 ^ 2 from rfl, ← Nat.pow_mul]; simp
  intro r
  induction r with
  | zero =>
    intro v G o4 o5 o6 hv hA hQ hF
    have hv : v = 4 ^ n := by omega
    refine x_iloadn (pc := 28) dX12_common_28 rfl ?_
    refine x_iconst (pc := 29) dX12_common_29 ?_
    refine x_iconst (pc := 30) dX12_common_30 ?_
    refine x_iloadn (pc := 31) dX12_common_31 rfl ?_
    refine x_imul (pc := 32) dX12_common_32 ?_
    refine x_ishl (pc := 33) dX12_common_33 (2 * n) (by omega) (by omega) ?_
    rw [hsh]
    refine x_cge (tgt := 154) (pc := 34) dX12_common_34 (by decide) (by omega) (fun c_34 => ?_) (fun c_34 => ?_)
    rotate_left
    · skip
      exact absurd c_34 (by omega)
    refine x_iinc (pc := 154) dX12_common_154 rfl (by decide) rfl ?_
    refine x_goto (tgt := 21) (pc := 157) dX12_common_157 (by decide) ?_
    refine cont G _ _ _ _ (fun n' F' h1 h2 h3 => ?_) hQ hF
    by_cases e : n' = n
    · subst e
      obtain ⟨v', g1, g2⟩ := zdF_ex n' F' h3.1.1
      exact hA v' (by omega) (zCd_ci (fun i hi => (g2 i hi).symm) h3)
    · exact hno n' F' (by omega) h2 h3
  | succ r ih =>
    intro v G o4 o5 o6 hv hA hQ hF
    refine x_iloadn (pc := 28) dX12_common_28 rfl ?_
    refine x_iconst (pc := 29) dX12_common_29 ?_
    refine x_iconst (pc := 30) dX12_common_30 ?_
    refine x_iloadn (pc := 31) dX12_common_31 rfl ?_
    refine x_imul (pc := 32) dX12_common_32 ?_
    refine x_ishl (pc := 33) dX12_common_33 (2 * n) (by omega) (by omega) ?_
    rw [hsh]
    refine x_cge (tgt := 154) (pc := 34) dX12_common_34 (by decide) (by omega) (fun c_34 => ?_) (fun c_34 => ?_)
    · skip
      exact absurd c_34 (by omega)
    refine x_aloadn (pc := 37) dX12_common_37 rfl ?_
    refine x_iloadn (pc := 38) dX12_common_38 rfl ?_
    refine x_putIF (pc := 39) dX12_common_39 fp_X12_328 k_127 (hL 127 (by decide) (by decide)) hF (fun hF => ?_)
    refine x_iconst (pc := 42) dX12_common_42 ?_
    refine x_istore (pc := 43) dX12_common_43 (by decide) rfl ?_
    refine x_iconst (pc := 45) dX12_common_45 ?_
    refine x_istore (pc := 46) dX12_common_46 (by decide) rfl ?_
    refine l_mo_co48 (v := v) (G0 := G0) hL ⟨by omega, hn.2⟩ (by omega) (fun G1 h o6 b1 b2 b3 b4 hF => ?_) n 0 _ 0 _ (by omega) (Or.inr ⟨rfl, fun ⟨j, hj, _⟩ => absurd hj (Nat.not_lt_zero j)⟩) x_up_s (fun j hj => absurd hj (Nat.not_lt_zero j)) (hQ.upF (by decide)) hF
    refine l_mo_co111 hL hS hS1 hk hn (by omega) hno hA b1 b2 b3 b4 hF (fun G2 g1 g2 g3 => ?_)
    exact ih (v + 1) G2 _ _ _ (by omega) (fun v' hv' => by
      by_cases e : v' = v
      · subst e; exact g1
      · exact hA v' (by omega)) g2 g3
theorem l_mo_co21 {k : Int} {G0 : Nat → Nat → Int} (hL : x_SL L) (hS : mSm S sn sl G0) (hS1 : 1 ≤ S) (hk : -1 ≤ k ∧ k < 2147483648) :
    ∀ (n : Nat) (G : Nat → Nat → Int) (o3 o4 o5 o6 : Option (Nat × Int)), n ≤ 7 → (∀ n' F', n + 1 < n' → n' ≤ 8 → ¬ zCd S sn sl n' F') → FM zcoS [50, 48] G0 G → x_Fin xFL G →
    X mX12_common 3 0 0 (pCo L G0 S sn sl k) 21 [some (vR 127), some (vI k), some (vI ((n + 1 : Nat) : Int)), o3, o4, o5, o6] [] L G 0 0 := by
  intro n
  induction n with
  | zero =>
    intro G o3 o4 o5 o6 hn hno hQ hF
    have hmn : zCmn S sn sl 1 (fun _ => 5) := ⟨by decide, by decide, zone_cd (fun s hs => (hS.2.2 s hs).2.1), fun F' h3 i hi hj => by
      obtain ⟨j, h1, h2⟩ := h3.1.2
      have e : i = j := by omega
      rw [e, h2]; exact Nat.le_refl _, hno⟩
    have fin : ∀ x, x = zCans 1 (fun _ => 5) k → (((k < -1 ∧ x = -3) ∨ (-1 ≤ k ∧ S = 0 ∧ x = -4) ∨ (-1 ≤ k ∧ 1 ≤ S ∧ ∃ nn F, zCmn S sn sl nn F ∧ x = zCans nn F k)) ∧ mSm S sn sl G ∧ FM zcoS [50, 48] G0 G ∧ x_Fin xFL G) := fun x hx => ⟨Or.inr (Or.inr ⟨hk.1, hS1, 1, _, hmn, hx⟩), hS.FM hQ (by decide) (by decide) (by decide) (by decide), hQ, hF⟩
    refine x_iloadn (pc := 21) dX12_common_21 rfl ?_
    refine x_iconst (pc := 22) dX12_common_22 ?_
    refine x_cle (tgt := 160) (pc := 23) dX12_common_23 (by decide) (by omega) (fun c_23 => ?_) (fun c_23 => ?_)
    rotate_left
    · skip
      exact absurd c_23 (by decide)
    refine x_iloadn (pc := 160) dX12_common_160 rfl ?_
    refine x_iconst (pc := 161) dX12_common_161 ?_
    refine x_cne (tgt := 169) (pc := 162) dX12_common_162 (by decide) (by omega) (fun c_162 => ?_) (fun c_162 => ?_)
    · skip
      refine x_iloadn (pc := 169) dX12_common_169 rfl ?_
      refine x_ine (tgt := 177) (pc := 170) dX12_common_170 (by decide) (by omega) (fun c_170 => ?_) (fun c_170 => ?_)
      · skip
        refine x_iconst (pc := 177) dX12_common_177 ?_
        refine x_rI (pc := 178) dX12_common_178 rfl ?_
        refine fin _ ?_
        unfold zCans
        first | (rw [if_pos (by omega)]; rfl) | (rw [if_neg (by omega), if_pos (by omega)]; rfl) | (rw [if_neg (by omega), if_neg (by omega)]; done)
      · skip
        refine x_iconst (pc := 173) dX12_common_173 ?_
        refine x_goto (tgt := 178) (pc := 174) dX12_common_174 (by decide) ?_
        refine x_rI (pc := 178) dX12_common_178 rfl ?_
        refine fin _ ?_
        unfold zCans
        first | (rw [if_pos (by omega)]; rfl) | (rw [if_neg (by omega), if_pos (by omega)]; rfl) | (rw [if_neg (by omega), if_neg (by omega)]; done)
    · skip
      refine x_iconst (pc := 165) dX12_common_165 ?_
      refine x_goto (tgt := 178) (pc := 166) dX12_common_166 (by decide) ?_
      refine x_rI (pc := 178) dX12_common_178 rfl ?_
      refine fin _ ?_
      unfold zCans
      first | (rw [if_pos (by omega)]; rfl) | (rw [if_neg (by omega), if_pos (by omega)]; rfl) | (rw [if_neg (by omega), if_neg (by omega)]; done)
  | succ n ih =>
    intro G o3 o4 o5 o6 hn hno hQ hF
    refine x_iloadn (pc := 21) dX12_common_21 rfl ?_
    refine x_iconst (pc := 22) dX12_common_22 ?_
    refine x_cle (tgt := 160) (pc := 23) dX12_common_23 (by decide) (by omega) (fun c_23 => ?_) (fun c_23 => ?_)
    · skip
      exact absurd c_23 (by omega)
    refine x_iconst (pc := 26) dX12_common_26 ?_
    refine x_istoren (pc := 27) dX12_common_27 rfl (by decide) rfl ?_
    refine l_mo_co28 (n := n + 1 + 1) (G0 := G0) hL hS hS1 hk ⟨by omega, by omega⟩ hno (fun G1 o3 o4 o5 o6 b1 b2 b3 => ?_) (4 ^ (n + 1 + 1)) 0 G _ _ _ (by omega) (fun v' hv' => absurd hv' (Nat.not_lt_zero v')) hQ hF
    rw [show ((n + 1 + 1 : Nat) : Int) + -1 = ((n + 1 : Nat) : Int) by omega]
    exact ih G1 o3 o4 o5 o6 (by omega) (fun n' F' h1 h2 => b1 n' F' (by omega) h2) b2 b3
theorem c_mo_common {k : Int} {G : Nat → Nat → Int} (hL : x_SL L) (hF : x_Fin xFL G) (hS : mSm S sn sl G) (hk : -2147483648 ≤ k ∧ k < 2147483648) :
    CM yX12_common mX12_common 3 0 0 [vR 127, vI k] L G (pCo L G S sn sl k) := by
  obtain ⟨s1, s2, s3⟩ := id hS
  refine Ct.of_X (μ := mX12_common) rfl rfl (by decide) (fun h => by cases h) (Nat.le_of_ble_eq_true rfl) rfl ?_
  refine x_iloadn (pc := 0) dX12_common_0 rfl ?_
  refine x_iconst (pc := 1) dX12_common_1 ?_
  refine x_cge (tgt := 8) (pc := 2) dX12_common_2 (by decide) (by omega) (fun c_2 => ?_) (fun c_2 => ?_)
  · skip
    refine x_aloadn (pc := 8) dX12_common_8 rfl ?_
    refine x_getI (pc := 9) dX12_common_9 fl_X12_349 k_127 (hL 127 (by decide) (by decide)) ?_
    refine x_ine (tgt := 18) (pc := 12) dX12_common_12 (by decide) (by omega) (fun c_12 => ?_) (fun c_12 => ?_)
    · skip
      refine x_bipush (pc := 18) dX12_common_18 (by decide) ?_
      refine x_istoren (pc := 20) dX12_common_20 rfl (by decide) rfl ?_
      exact l_mo_co21 (n := 7) hL hS (by omega) (by omega) G _ _ _ _ (by decide) (fun n' F' h1 h2 => by omega) FM.rf hF
    · skip
      refine x_bipush (pc := 15) dX12_common_15 (by decide) ?_
      refine x_rI (pc := 17) dX12_common_17 rfl ?_
      exact ⟨Or.inr (Or.inl ⟨by omega, by omega, rfl⟩), hS, FM.rf, hF⟩
  · skip
    refine x_bipush (pc := 5) dX12_common_5 (by decide) ?_
    refine x_rI (pc := 7) dX12_common_7 rfl ?_
    exact ⟨Or.inl ⟨by omega, rfl⟩, hS, FM.rf, hF⟩
end XMC

