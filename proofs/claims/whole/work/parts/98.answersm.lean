/-! the reference's answers -/
theorem mQz.FM {a b c t : Nat} {T F : List Nat} {G G' : Nat → Nat → Int} (h : mQz a b c t G) (k : FM T F G G') (h1 : 144 ∉ T) (h2 : 127 ∉ T) (h3 : 25 ∉ F) : mQz a b c t G' := by
  obtain ⟨q1, q2, q3, q4⟩ := h
  exact ⟨by rw [k 144 _ h1 (fun e => absurd e (by decide))]; exact q1, by rw [k 144 _ h1 (fun e => absurd e (by decide))]; exact q2, by rw [k 144 _ h1 (fun e => absurd e (by decide))]; exact q3, by rw [k 127 25 h2 (fun _ => h3)]; exact q4⟩
theorem mCo.FM {c : Nat} {T F : List Nat} {G G' : Nat → Nat → Int} (h : mCo c G) (k : FM T F G G') (h1 : 144 ∉ T) (h2 : 127 ∉ T) (h3 : 25 ∉ F) : mCo c G' :=
  ⟨h.1.FM k h1 h2 h3, by rw [k 144 _ h1 (fun e => absurd e (by decide))]; exact h.2⟩
abbrev zamS : List Nat := [144, 145, 146, 147]
section XMA
variable {m : Nat} {S : Nat → Nat} {I : Nat → Nat → Nat} {lo hi mk : Nat → Nat} {L : List Nat}
theorem zWc_n {c : Nat} (h : ¬ zcv c) : zWc m S I lo hi mk c = 0 := by unfold zWc; rw [if_neg h]
theorem zT_next {c c' : Nat} (h : c < c') (hn : ∀ j, c < j → j < c' → ¬ zcv j) : zT (zWc m S I lo hi mk) c' = zT (zWc m S I lo hi mk) c + zWc m S I lo hi mk c :=
  (zT_skip (a := c + 1) c' (by omega) (fun j a b => zWc_n (hn j (by omega) b))).1
theorem zcv_0 : zcv 0 := by unfold zcv; decide
abbrev zMr (c : Nat) (v : Int) : Prop := (v = 1 ∧ c < 24057 ∧ zcv c) ∨ (v = 0 ∧ c = 24057)
abbrev pAnM (L : List Nat) (G0 : Nat → Nat → Int) (V : Int) : x_Q := qI L fun x G' => x = V ∧ FM zamS [22, 25] G0 G' ∧ x_Fin xFL G'
theorem l_mo_answers {G0 : Nat → Nat → Int} (hL : x_SL L) (hE : mEq m S I G0) (hB : mBd lo hi mk G0) :
    ∀ (r c : Nat) (v : Int) (G : Nat → Nat → Int), 24057 ≤ c + r → zMr c v → mCo c G → FM zamS [22, 25] G0 G → x_Fin xFL G →
    X mX12_answers 3 0 0 (pAnM L G0 ((min (zT (zWc m S I lo hi mk) 24057) 1000000001 : Nat) : Int)) 8 [some (vR 127), some (vL ((min (zT (zWc m S I lo hi mk) c) 1000000001 : Nat) : Int)), none, some (vI v)] [] L G 0 0 := by
  intro r
  induction r with
  | zero =>
    intro c v G hr hv hC hQ hF
    rcases hv with ⟨_, h, _⟩ | ⟨rfl, rfl⟩
    · omega
    obtain ⟨A, hA⟩ : ∃ A, A = min (zT (zWc m S I lo hi mk) 24057) 1000000001 := ⟨_, rfl⟩
    rw [← hA]
    have hA2 : A ≤ 1000000001 := by rw [hA]; exact Nat.min_le_right _ _
    refine x_iloadn (pc := 8) dX12_answers_8 rfl ?_
    refine x_ieq (tgt := 43) (pc := 9) dX12_answers_9 (by decide) (by omega) (fun c_9 => ?_) (fun c_9 => ?_)
    rotate_left
    · skip
      exact absurd rfl c_9
    refine x_lloadn (pc := 43) dX12_answers_43 rfl ?_
    refine x_l2i (pc := 44) dX12_answers_44 ?_
    refine x_rI (pc := 45) dX12_answers_45 rfl ?_
    exact ⟨rfl, hQ, hF⟩
  | succ r ih =>
    intro c v G hr hv hC hQ hF
    rcases hv with ⟨rfl, hc, hcv⟩ | ⟨rfl, rfl⟩
    · have hE1 := hE.FM hQ (by decide) (by decide) (by decide) (by decide)
      have hB1 := hB.FM hQ (by decide) (by decide) (by decide)
      have hy := zWc_y (m := m) (S := S) (I := I) (lo := lo) (hi := hi) (mk := mk) hcv
      obtain ⟨A, hA⟩ : ∃ A, A = min (zT (zWc m S I lo hi mk) c) 1000000001 := ⟨_, rfl⟩
      obtain ⟨B, hBB⟩ : ∃ B, B = min (zWy m S I lo hi mk (zcz c)) 1000000001 := ⟨_, rfl⟩
      have hA2 : A ≤ 1000000001 := by rw [hA]; exact Nat.min_le_right _ _
      have hB2 : B ≤ 1000000001 := by rw [hBB]; exact Nat.min_le_right _ _
      have next : ∀ c', c < c' → (∀ j, c < j → j < c' → ¬ zcv j) → min (zT (zWc m S I lo hi mk) c') 1000000001 = min (A + B) 1000000001 := fun c' h1 h2 => by
        rw [zT_next h1 h2, hy, hA, hBB]; omega
      rw [← hA]
      refine x_iloadn (pc := 8) dX12_answers_8 rfl ?_
      refine x_ieq (tgt := 43) (pc := 9) dX12_answers_9 (by decide) (by omega) (fun c_9 => ?_) (fun c_9 => ?_)
      · skip
        exact absurd c_9 (by decide)
      refine x_lloadn (pc := 12) dX12_answers_12 rfl ?_
      refine x_aloadn (pc := 13) dX12_answers_13 rfl ?_
      refine x_cVL (pc := 14) dX12_answers_14 lk_X12_194 (c_mo_waysNow hL hF hE1 hB1 (hC.FL hcv)) k_127 ⟨by decide, rfl⟩ (hL 127 (by decide) (by decide)) (⟨by decide, by decide⟩) (Nat.le_of_ble_eq_true rfl) rfl ?_
      rintro x G1 ⟨rfl, q1, hF, _⟩
      rw [← hBB]
      refine x_ladd (pc := 17) dX12_answers_17 ?_
      refine x_lstoren (pc := 18) dX12_answers_18 rfl (by decide) rfl ?_
      refine x_lloadn (pc := 19) dX12_answers_19 rfl ?_
      refine x_ldc2 (pc := 20) dX12_answers_20 co_X12_186 ?_
      refine x_lcmp (pc := 23) dX12_answers_23 (by omega) ?_
      refine x_ile (tgt := 33) (pc := 24) dX12_answers_24 (by decide) (zl_rg) (fun c_24 => ?_) (fun c_24 => ?_)
      · skip
        have c_24 := zl_le c_24
        refine x_lloadn (pc := 33) dX12_answers_33 rfl ?_
        refine x_lstoren (pc := 34) dX12_answers_34 rfl (by decide) rfl ?_
        refine x_aloadn (pc := 35) dX12_answers_35 rfl ?_
        refine x_cVI (pc := 36) dX12_answers_36 lk_X12_198 (c_mo_nextLengths hL hF hc (hC.FM q1 (by decide) (by decide) (by decide))) k_127 ⟨by decide, rfl⟩ (hL 127 (by decide) (by decide)) (⟨by decide, by decide⟩) (Nat.le_of_ble_eq_true rfl) rfl ?_
        rintro v G2 ⟨c', k1, k2, k3, k4, k5, k6, hF⟩
        refine x_istoren (pc := 39) dX12_answers_39 rfl (by decide) rfl ?_
        refine x_goto (tgt := 8) (pc := 40) dX12_answers_40 (by decide) ?_
        have e := ih c' v G2 (by omega) k5 k4 ((hQ.tr (q1.mono (by decide) (by decide))).tr (k6.mono (by decide) (by decide))) hF
        rw [next c' k1 k3] at e
        first
        | (rw [show min (A + B) 1000000001 = 1000000001 by omega] at e; exact e)
        | (rw [show min (A + B) 1000000001 = A + B by omega] at e; exact e)
      · skip
        have c_24 := zl_g c_24
        refine x_ldc2 (pc := 27) dX12_answers_27 co_X12_186 ?_
        refine x_goto (tgt := 34) (pc := 30) dX12_answers_30 (by decide) ?_
        refine x_lstoren (pc := 34) dX12_answers_34 rfl (by decide) rfl ?_
        refine x_aloadn (pc := 35) dX12_answers_35 rfl ?_
        refine x_cVI (pc := 36) dX12_answers_36 lk_X12_198 (c_mo_nextLengths hL hF hc (hC.FM q1 (by decide) (by decide) (by decide))) k_127 ⟨by decide, rfl⟩ (hL 127 (by decide) (by decide)) (⟨by decide, by decide⟩) (Nat.le_of_ble_eq_true rfl) rfl ?_
        rintro v G2 ⟨c', k1, k2, k3, k4, k5, k6, hF⟩
        refine x_istoren (pc := 39) dX12_answers_39 rfl (by decide) rfl ?_
        refine x_goto (tgt := 8) (pc := 40) dX12_answers_40 (by decide) ?_
        have e := ih c' v G2 (by omega) k5 k4 ((hQ.tr (q1.mono (by decide) (by decide))).tr (k6.mono (by decide) (by decide))) hF
        rw [next c' k1 k3] at e
        first
        | (rw [show min (A + B) 1000000001 = 1000000001 by omega] at e; exact e)
        | (rw [show min (A + B) 1000000001 = A + B by omega] at e; exact e)
    · obtain ⟨A, hA⟩ : ∃ A, A = min (zT (zWc m S I lo hi mk) 24057) 1000000001 := ⟨_, rfl⟩
      rw [← hA]
      have hA2 : A ≤ 1000000001 := by rw [hA]; exact Nat.min_le_right _ _
      refine x_iloadn (pc := 8) dX12_answers_8 rfl ?_
      refine x_ieq (tgt := 43) (pc := 9) dX12_answers_9 (by decide) (by omega) (fun c_9 => ?_) (fun c_9 => ?_)
      rotate_left
      · skip
        exact absurd rfl c_9
      refine x_lloadn (pc := 43) dX12_answers_43 rfl ?_
      refine x_l2i (pc := 44) dX12_answers_44 ?_
      refine x_rI (pc := 45) dX12_answers_45 rfl ?_
      exact ⟨rfl, hQ, hF⟩
theorem c_mo_answers {G : Nat → Nat → Int} (hL : x_SL L) (hF : x_Fin xFL G) (hE : mEq m S I G) (hB : mBd lo hi mk G) :
    CM yX12_answers mX12_answers 3 0 0 [vR 127] L G (pAnM L G ((min (zT (zWc m S I lo hi mk) 24057) 1000000001 : Nat) : Int)) := by
  refine Ct.of_X (μ := mX12_answers) rfl rfl (by decide) (fun h => by cases h) (Nat.le_of_ble_eq_true rfl) rfl ?_
  refine x_lconst (x := 0) (pc := 0) dX12_answers_0 (by decide) ?_
  refine x_lstoren (pc := 1) dX12_answers_1 rfl (by decide) rfl ?_
  refine x_aloadn (pc := 2) dX12_answers_2 rfl ?_
  refine x_cVV (pc := 3) dX12_answers_3 lk_X12_191 (c_mo_firstLengths hL hF) k_127 ⟨by decide, rfl⟩ (hL 127 (by decide) (by decide)) (⟨by decide, by decide⟩) (Nat.le_of_ble_eq_true rfl) rfl ?_
  rintro G1 ⟨k1, k2, hF⟩
  refine x_iconst (pc := 6) dX12_answers_6 ?_
  refine x_istoren (pc := 7) dX12_answers_7 rfl (by decide) rfl ?_
  exact l_mo_answers hL hE hB 24057 0 1 G1 (by omega) (Or.inl ⟨rfl, by decide, zcv_0⟩) k1 (k2.mono (by decide) (by decide)) hF
end XMA

