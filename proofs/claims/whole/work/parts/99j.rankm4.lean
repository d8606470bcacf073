/-! the reference's rank -/
section XRR
variable {m : Nat} {S : Nat → Nat} {I : Nat → Nat → Nat} {lo hi mk tn : Nat → Nat} {tw : Nat → Int} {L : List Nat}
theorem zT_mad {W : Nat → Nat} {c r : Nat} : min (zTm W c + r) 1000000001 = min (zT W c + r) 1000000001 := by
  have := zTm_min (W := W) c
  omega
theorem mTd.FM {T F : List Nat} {G G' : Nat → Nat → Int} (h : mTd tw tn G) (k : FM T F G G') (h1 : 134 ∉ T) (h2 : 135 ∉ T) : mTd tw tn G' := fun u hu => by
  rw [k 134 u h1 (fun e => absurd e (by decide)), k 135 u h2 (fun e => absurd e (by decide))]
  exact h u hu
theorem l_mo_rkF {G0 G : Nat → Nat → Int} {o4 o5 : Option (Nat × Int)} (hL : x_SL L) (hE : mEq m S I G0) (hB : mBd lo hi mk G0) (hT : mTd tw tn G0) (u1 : ∀ u, u < 4 → zcz (zcc tn) u = tn u) (hc : zcc tn < 24057) (hcv : zcv (zcc tn)) (hC : mCo (zcc tn) G) (hQ : FM zamS [22, 25] G0 G) (hF : x_Fin xFL G) :
    X mX12_rank 3 0 0 (pAmP L G0 (zRQ m S I lo hi mk tw tn)) 8 [some (vR 127), some (vL ((zTm (zWc m S I lo hi mk) (zcc tn) : Nat) : Int)), none, some (vI 1), o4, o5] [] L G 0 0 := by
  have hE1 := hE.FM hQ (by decide) (by decide) (by decide) (by decide)
  have hB1 := hB.FM hQ (by decide) (by decide) (by decide)
  have hy := zWc_y (m := m) (S := S) (I := I) (lo := lo) (hi := hi) (mk := mk) hcv
  have hV : zEV m S I := fun q hq => ⟨(hE.2.2 q hq).2.1, fun j hj => ((hE.2.2 q hq).2.2 j hj).2⟩
  have hz := (zcz_v hcv).1
  have hTl := zTm_le (W := zWc m S I lo hi mk) (zcc tn)
  have hWy := zWy_live (lo := lo) (hi := hi) (mk := mk) hV hz
  rw [← hy] at hWy
  have hmad := fun r => zT_mad (W := zWc m S I lo hi mk) (c := zcc tn) (r := r)
  have fin : 0 < zWc m S I lo hi mk (zcc tn) → ∀ x : Int, (((∀ p, p < zbg (zcz (zcc tn)) 4 → zrmo (zg m S I (zcz (zcc tn))) (zar m S I (zcz (zcc tn)) mk) (zTp (zcz (zcc tn)) tw) p) ∧ x = ((min (zTm (zWc m S I lo hi mk) (zcc tn) + zrm (zg m S I (zcz (zcc tn))) (zar m S I (zcz (zcc tn)) mk) (zTp (zcz (zcc tn)) tw) (zbg (zcz (zcc tn)) 4)) 1000000001 : Nat) : Int)) ∨ ((¬ ∀ p, p < zbg (zcz (zcc tn)) 4 → zrmo (zg m S I (zcz (zcc tn))) (zar m S I (zcz (zcc tn)) mk) (zTp (zcz (zcc tn)) tw) p) ∧ x = -1)) → zRQ m S I lo hi mk tw tn x := fun hW x hx => by
    obtain ⟨y1, y2, y3⟩ := hWy hW
    have hiff := zrm_ok (T := zTp (zcz (zcc tn)) tw) hV y1 hz y2 (fun p => zTp_le p)
    rcases hx with ⟨hok, hx⟩ | ⟨hno, hx⟩
    · have hok2 := hiff.mp hok
      refine ⟨_, Or.inr ⟨⟨hW, hok2⟩, rfl⟩, ?_⟩
      rw [hx, hmad, zrm_eq hV y1 hz y2 hok2 _ (Nat.le_refl _)]
      split <;> omega
    · exact ⟨-1, Or.inl ⟨Or.inr (fun q => hno (hiff.mpr q)), rfl⟩, hx⟩
  obtain ⟨W, hWe⟩ : ∃ W, W = zWc m S I lo hi mk (zcc tn) := ⟨_, rfl⟩
  refine x_iloadn (pc := 8) dX12_rank_8 rfl ?_
  refine x_ieq (tgt := 55) (pc := 9) dX12_rank_9 (by decide) (by omega) (fun c_9 => ?_) (fun c_9 => ?_)
  · skip
    exact absurd c_9 (by decide)
  refine x_aloadn (pc := 12) dX12_rank_12 rfl ?_
  refine x_cVL (pc := 13) dX12_rank_13 lk_X12_194 (c_mo_waysNow hL hF hE1 hB1 (hC.FL hcv)) k_127 ⟨by decide, rfl⟩ (hL 127 (by decide) (by decide)) (⟨by decide, by decide⟩) (Nat.le_of_ble_eq_true rfl) rfl ?_
  rintro x G1 ⟨rfl, q1, hF, hW⟩
  rw [← hy, ← hWe] at hW ⊢
  have hC1 := hC.FM q1 (by decide) (by decide) (by decide)
  have hQ1 := hQ.tr (q1.mono (S' := zamS) (F' := [22, 25]) (by decide) (by decide))
  have hT1 := hT.FM hQ1 (by decide) (by decide)
  refine x_lstore (pc := 16) dX12_rank_16 (by decide) rfl ?_
  refine x_aloadn (pc := 18) dX12_rank_18 rfl ?_
  refine x_cVI (pc := 19) dX12_rank_19 lk_X12_211 (c_mo_areTold (tw := tw) hL hF (hC1.FL hcv) hT1) k_127 ⟨by decide, rfl⟩ (hL 127 (by decide) (by decide)) (⟨by decide, by decide⟩) (Nat.le_of_ble_eq_true rfl) rfl ?_
  rintro x G2 ⟨hx, rfl⟩
  have hx1 : x = 1 := by
    rcases hx with ⟨h, _⟩ | ⟨_, h⟩
    · exact h
    · exact absurd u1 h
  refine x_ieq (tgt := 42) (pc := 22) dX12_rank_22 (by decide) (by omega) (fun c_22 => ?_) (fun c_22 => ?_)
  · skip
    exact absurd (c_22.symm.trans hx1) (by decide)
  refine x_lload (pc := 25) dX12_rank_25 rfl ?_
  refine x_lconst (x := 0) (pc := 27) dX12_rank_27 (by decide) ?_
  refine x_lcmp (pc := 28) dX12_rank_28 (by omega) ?_
  refine x_ine (tgt := 36) (pc := 29) dX12_rank_29 (by decide) (zl_rg) (fun c_29 => ?_) (fun c_29 => ?_)
  · skip
    have c_29 := zl_n c_29
    obtain ⟨w1, w2, w3, w4⟩ := hW (by omega)
    obtain ⟨y1, y2, y3⟩ := hWy (by omega)
    refine x_aloadn (pc := 36) dX12_rank_36 rfl ?_
    refine x_lloadn (pc := 37) dX12_rank_37 rfl ?_
    refine x_cVI (pc := 38) dX12_rank_38 lk_X12_214 (c_mo_rankNow (w := zTm (zWc m S I lo hi mk) (zcc tn)) (g := zg m S I (zcz (zcc tn))) (a := zar m S I (zcz (zcc tn)) mk) hL hF (hC1.FL hcv) w2 hT1 (by omega) w1 w3 (fun x hx hg => ⟨w4 x hx hg, zan_lt _ _ _, y3 x hx hg⟩)) k_127 ⟨by decide, rfl⟩ (hL 127 (by decide) (by decide)) (⟨by decide, by decide⟩) (Nat.le_of_ble_eq_true rfl) rfl ?_
    rintro x G2 ⟨hx, rfl⟩
    refine x_rI (pc := 41) dX12_rank_41 rfl ?_
    first
    | exact ⟨fin (by omega) x hx, hQ1, hF⟩
    | exact ⟨⟨-1, Or.inl ⟨Or.inl (by omega), rfl⟩, rfl⟩, hQ1, hF⟩
  · skip
    have c_29 := zl_e c_29
    refine x_iconst (pc := 32) dX12_rank_32 ?_
    refine x_goto (tgt := 41) (pc := 33) dX12_rank_33 (by decide) ?_
    refine x_rI (pc := 41) dX12_rank_41 rfl ?_
    first
    | exact ⟨fin (by omega) x hx, hQ1, hF⟩
    | exact ⟨⟨-1, Or.inl ⟨Or.inl (by omega), rfl⟩, rfl⟩, hQ1, hF⟩
theorem l_mo_rank {G0 : Nat → Nat → Int} (hL : x_SL L) (hE : mEq m S I G0) (hB : mBd lo hi mk G0) (hT : mTd tw tn G0) :
    ∀ (r c : Nat) (v : Int) (G : Nat → Nat → Int) (o4 o5 : Option (Nat × Int)), zcc tn ≤ c + r → c ≤ zcc tn → zMr c v → mCo c G → FM zamS [22, 25] G0 G → x_Fin xFL G →
    X mX12_rank 3 0 0 (pAmP L G0 (zRQ m S I lo hi mk tw tn)) 8 [some (vR 127), some (vL ((zTm (zWc m S I lo hi mk) c : Nat) : Int)), none, some (vI v), o4, o5] [] L G 0 0 := by
  obtain ⟨u1, u2, u3⟩ := zcc_z (t := tn) (fun u hu => (hT u hu).2.2.1)
  intro r
  induction r with
  | zero =>
    intro c v G o4 o5 hr hcc hv hC hQ hF
    have hce : c = zcc tn := by omega
    subst hce
    rcases hv with ⟨rfl, hc, hcv⟩ | ⟨_, h⟩
    · exact l_mo_rkF hL hE hB hT u1 u3 hcv hC hQ hF
    · omega
  | succ r ih =>
    intro c v G o4 o5 hr hcc hv hC hQ hF
    rcases hv with ⟨rfl, hc, hcv⟩ | ⟨_, h⟩
    · by_cases hce : c = zcc tn
      · subst hce
        exact l_mo_rkF hL hE hB hT u1 u3 hcv hC hQ hF
      · have hE1 := hE.FM hQ (by decide) (by decide) (by decide) (by decide)
        have hB1 := hB.FM hQ (by decide) (by decide) (by decide)
        have hy := zWc_y (m := m) (S := S) (I := I) (lo := lo) (hi := hi) (mk := mk) hcv
        have hTl := zTm_le (W := zWc m S I lo hi mk) c
        have next := fun c' (h1 : c < c') h2 => zTm_next (m := m) (S := S) (I := I) (lo := lo) (hi := hi) (mk := mk) h1 h2
        rw [hy] at next
        obtain ⟨W, hWe⟩ : ∃ W, W = min (zWy m S I lo hi mk (zcz c)) 1000000001 := ⟨_, rfl⟩
        have hWb : W ≤ 1000000001 := by rw [hWe]; exact Nat.min_le_right _ _
        rw [← hWe] at next
        obtain ⟨t, ht⟩ : ∃ t, t = zTm (zWc m S I lo hi mk) c := ⟨_, rfl⟩
        rw [← ht] at next hTl ⊢
        refine x_iloadn (pc := 8) dX12_rank_8 rfl ?_
        refine x_ieq (tgt := 55) (pc := 9) dX12_rank_9 (by decide) (by omega) (fun c_9 => ?_) (fun c_9 => ?_)
        · skip
          exact absurd c_9 (by decide)
        refine x_aloadn (pc := 12) dX12_rank_12 rfl ?_
        refine x_cVL (pc := 13) dX12_rank_13 lk_X12_194 (c_mo_waysNow hL hF hE1 hB1 (hC.FL hcv)) k_127 ⟨by decide, rfl⟩ (hL 127 (by decide) (by decide)) (⟨by decide, by decide⟩) (Nat.le_of_ble_eq_true rfl) rfl ?_
        rintro x G1 ⟨rfl, q1, hF, hW⟩
        rw [← hWe]
        have hC1 := hC.FM q1 (by decide) (by decide) (by decide)
        have hQ1 := hQ.tr (q1.mono (S' := zamS) (F' := [22, 25]) (by decide) (by decide))
        refine x_lstore (pc := 16) dX12_rank_16 (by decide) rfl ?_
        refine x_aloadn (pc := 18) dX12_rank_18 rfl ?_
        refine x_cVI (pc := 19) dX12_rank_19 lk_X12_211 (c_mo_areTold (tw := tw) hL hF (hC1.FL hcv) (hT.FM hQ1 (by decide) (by decide))) k_127 ⟨by decide, rfl⟩ (hL 127 (by decide) (by decide)) (⟨by decide, by decide⟩) (Nat.le_of_ble_eq_true rfl) rfl ?_
        rintro x G2 ⟨hx, rfl⟩
        have hx0 : x = 0 := by
          rcases hx with ⟨_, h⟩ | ⟨h, _⟩
          · exact absurd (zcc_u hcv u2 (fun u hu => by rw [h u hu, u1 u hu])) hce
          · exact h
        refine x_ieq (tgt := 42) (pc := 22) dX12_rank_22 (by decide) (by omega) (fun c_22 => ?_) (fun c_22 => ?_)
        rotate_left
        · skip
          exact absurd hx0 c_22
        refine x_lloadn (pc := 42) dX12_rank_42 rfl ?_
        refine x_lload (pc := 43) dX12_rank_43 rfl ?_
        refine x_ladd (pc := 45) dX12_rank_45 ?_
        refine x_lstoren (pc := 46) dX12_rank_46 rfl (by decide) rfl ?_
        refine x_aloadn (pc := 47) dX12_rank_47 rfl ?_
        refine x_cVI (pc := 48) dX12_rank_48 lk_X12_198 (c_mo_nextLengths hL hF hc hC1) k_127 ⟨by decide, rfl⟩ (hL 127 (by decide) (by decide)) (⟨by decide, by decide⟩) (Nat.le_of_ble_eq_true rfl) rfl ?_
        rintro v G2 ⟨c', k1, k2, k3, k4, k5, k6, hF⟩
        refine x_istoren (pc := 51) dX12_rank_51 rfl (by decide) rfl ?_
        refine x_goto (tgt := 8) (pc := 52) dX12_rank_52 (by decide) ?_
        have e := ih c' v G2 (some (vL ((W : Nat) : Int))) none (by omega) (Nat.le_of_not_lt fun w => k3 (zcc tn) (by omega) w u2) k5 k4 (hQ1.tr (k6.mono (by decide) (by decide))) hF
        rw [next c' k1 k3] at e
        exact e
    · omega
theorem c_mo_rank {G : Nat → Nat → Int} (hL : x_SL L) (hF : x_Fin xFL G) (hE : mEq m S I G) (hB : mBd lo hi mk G) (hT : mTd tw tn G) :
    CM yX12_rank mX12_rank 3 0 0 [vR 127] L G (pAmP L G (zRQ m S I lo hi mk tw tn)) := by
  refine Ct.of_X (μ := mX12_rank) rfl rfl (by decide) (fun h => by cases h) (Nat.le_of_ble_eq_true rfl) rfl ?_
  refine x_lconst (x := 0) (pc := 0) dX12_rank_0 (by decide) ?_
  refine x_lstoren (pc := 1) dX12_rank_1 rfl (by decide) rfl ?_
  refine x_aloadn (pc := 2) dX12_rank_2 rfl ?_
  refine x_cVV (pc := 3) dX12_rank_3 lk_X12_191 (c_mo_firstLengths hL hF) k_127 ⟨by decide, rfl⟩ (hL 127 (by decide) (by decide)) (⟨by decide, by decide⟩) (Nat.le_of_ble_eq_true rfl) rfl ?_
  rintro G1 ⟨k1, k2, hF⟩
  refine x_iconst (pc := 6) dX12_rank_6 ?_
  refine x_istoren (pc := 7) dX12_rank_7 rfl (by decide) rfl ?_
  have e := l_mo_rank hL hE hB hT (zcc tn) 0 1 G1 none none (by omega) (Nat.zero_le _) (Or.inl ⟨rfl, by decide, zcv_0⟩) k1 (k2.mono (by decide) (by decide)) hF
  rw [show zTm (zWc m S I lo hi mk) 0 = 0 from rfl] at e
  exact e
end XRR

