/-! the reference's waysNow: letters that are made one, then all of it -/
section XNA
variable {m : Nat} {S : Nat → Nat} {I : Nat → Nat → Nat} {lo hi mk z g : Nat → Nat} {L : List Nat}
theorem l_mo_nH {w : Int} {A : Nat} {G0 G : Nat → Nat → Int} (hL : x_SL L) (hF : x_Fin xFL G) (hA : A = min (zpw (zg m S I z) (zar m S I z mk) (zbg z 4)) 1000000001) (hB : zBz lo hi (zub S I (2 * m)) z) (hl : zLn m S I z) (hQ : FM zwnS [22] G0 G) (hW : mNw m S I z mk G) :
    ∀ (r x : Nat) (V : Nat) (o5 : Option (Nat × Int)), x + r = 35 → 33 ≤ x → ((V = 0 ∧ ∃ y, 33 ≤ y ∧ y < x ∧ zg m S I z y ≠ y ∧ 32 ≤ zg m S I z y) ∨ (V = A ∧ ¬ ∃ y, 33 ≤ y ∧ y < x ∧ zg m S I z y ≠ y ∧ 32 ≤ zg m S I z y)) →
    X mX12_waysNow 2 0 0 (pWn L G0 m S I lo hi mk z) 429 [some (vR 127), some (vI w), some (vL V), none, some (vI x), o5] [] L G 0 0 := by
  have hU := hW.2.2.1
  intro r
  induction r with
  | zero =>
    intro x V o5 hx h33 hV
    have hx : x = 35 := by omega
    subst hx
    refine x_iload (pc := 429) dX12_waysNow_429 rfl ?_
    refine x_bipush (pc := 431) dX12_waysNow_431 (by decide) ?_
    refine x_cge (tgt := 470) (pc := 433) dX12_waysNow_433 (by decide) (by omega) (fun c_433 => ?_) (fun c_433 => ?_)
    rotate_left
    · skip
      exact absurd c_433 (by decide)
    refine x_lloadn (pc := 470) dX12_waysNow_470 rfl ?_
    refine x_rL (pc := 471) dX12_waysNow_471 rfl ?_
    refine ⟨?_, hQ, hF, fun _ => hW⟩
    rcases hV with ⟨v1, y, y1, y2, y3, y4⟩ | ⟨v1, v2⟩
    · rw [v1, zWy_n (fun w => w.2.2 ⟨y, by omega, y3, y4⟩)]; rfl
    · have e : zWy m S I lo hi mk z = zpw (zg m S I z) (zar m S I z mk) (zbg z 4) := by
        unfold zWy
        rw [if_pos ⟨hB, hl, fun ⟨y, k1, k2, k3⟩ => v2 ⟨y, by omega, by omega, k2, k3⟩⟩]
      rw [e, v1, hA]
  | succ r ih =>
    intro x V o5 hx h33 hV
    obtain ⟨_, _, _, g3, _, _⟩ := hU x (by omega)
    have hA2 : A ≤ 1000000001 := by rw [hA]; exact Nat.min_le_right _ _
    have step0 : zg m S I z x ≠ x → 32 ≤ zg m S I z x → ((0 = 0 ∧ ∃ y, 33 ≤ y ∧ y < x + 1 ∧ zg m S I z y ≠ y ∧ 32 ≤ zg m S I z y) ∨ (0 = A ∧ ¬ ∃ y, 33 ≤ y ∧ y < x + 1 ∧ zg m S I z y ≠ y ∧ 32 ≤ zg m S I z y)) := fun a b => Or.inl ⟨rfl, x, h33, by omega, a, b⟩
    have step1 : (zg m S I z x = x ∨ zg m S I z x < 32) → ((V = 0 ∧ ∃ y, 33 ≤ y ∧ y < x + 1 ∧ zg m S I z y ≠ y ∧ 32 ≤ zg m S I z y) ∨ (V = A ∧ ¬ ∃ y, 33 ≤ y ∧ y < x + 1 ∧ zg m S I z y ≠ y ∧ 32 ≤ zg m S I z y)) := fun k => by
      rcases hV with ⟨v1, y, y1, y2, y3, y4⟩ | ⟨v1, v2⟩
      · exact Or.inl ⟨v1, y, y1, by omega, y3, y4⟩
      · refine Or.inr ⟨v1, fun ⟨y, y1, y2, y3, y4⟩ => ?_⟩
        by_cases e : y = x
        · subst e; omega
        · exact v2 ⟨y, y1, by omega, y3, y4⟩
    refine x_iload (pc := 429) dX12_waysNow_429 rfl ?_
    refine x_bipush (pc := 431) dX12_waysNow_431 (by decide) ?_
    refine x_cge (tgt := 470) (pc := 433) dX12_waysNow_433 (by decide) (by omega) (fun c_433 => ?_) (fun c_433 => ?_)
    · skip
      exact absurd c_433 (by omega)
    refine x_aloadn (pc := 436) dX12_waysNow_436 rfl ?_
    refine x_iload (pc := 437) dX12_waysNow_437 rfl ?_
    refine x_cVI (pc := 439) dX12_waysNow_439 lk_X12_166 (c_mo_leadOf (x := x) hL hF hU (by omega)) k_127 ⟨by decide, rfl⟩ (hL 127 (by decide) (by decide)) (⟨by decide, by decide⟩) (Nat.le_of_ble_eq_true rfl) rfl ?_
    rintro v G2 ⟨rfl, rfl⟩
    refine x_iload (pc := 442) dX12_waysNow_442 rfl ?_
    refine x_ceq (tgt := 462) (pc := 444) dX12_waysNow_444 (by decide) (by omega) (fun c_444 => ?_) (fun c_444 => ?_)
    · skip
      refine x_lloadn (pc := 462) dX12_waysNow_462 rfl ?_
      refine x_lstoren (pc := 463) dX12_waysNow_463 rfl (by decide) rfl ?_
      refine x_iinc (pc := 464) dX12_waysNow_464 rfl (by decide) rfl ?_
      refine x_goto (tgt := 429) (pc := 467) dX12_waysNow_467 (by decide) ?_
      first
      | exact ih (x + 1) V _ (by omega) (by omega) (step1 (by omega))
      | exact ih (x + 1) 0 _ (by omega) (by omega) (step0 (by omega) (by omega))
    · skip
      refine x_aloadn (pc := 447) dX12_waysNow_447 rfl ?_
      refine x_iload (pc := 448) dX12_waysNow_448 rfl ?_
      refine x_cVI (pc := 450) dX12_waysNow_450 lk_X12_166 (c_mo_leadOf (x := x) hL hF hU (by omega)) k_127 ⟨by decide, rfl⟩ (hL 127 (by decide) (by decide)) (⟨by decide, by decide⟩) (Nat.le_of_ble_eq_true rfl) rfl ?_
      rintro v G2 ⟨rfl, rfl⟩
      refine x_bipush (pc := 453) dX12_waysNow_453 (by decide) ?_
      refine x_clt (tgt := 462) (pc := 455) dX12_waysNow_455 (by decide) (by omega) (fun c_455 => ?_) (fun c_455 => ?_)
      · skip
        refine x_lloadn (pc := 462) dX12_waysNow_462 rfl ?_
        refine x_lstoren (pc := 463) dX12_waysNow_463 rfl (by decide) rfl ?_
        refine x_iinc (pc := 464) dX12_waysNow_464 rfl (by decide) rfl ?_
        refine x_goto (tgt := 429) (pc := 467) dX12_waysNow_467 (by decide) ?_
        first
        | exact ih (x + 1) V _ (by omega) (by omega) (step1 (by omega))
        | exact ih (x + 1) 0 _ (by omega) (by omega) (step0 (by omega) (by omega))
      · skip
        refine x_lconst (x := 0) (pc := 458) dX12_waysNow_458 (by decide) ?_
        refine x_goto (tgt := 463) (pc := 459) dX12_waysNow_459 (by decide) ?_
        refine x_lstoren (pc := 463) dX12_waysNow_463 rfl (by decide) rfl ?_
        refine x_iinc (pc := 464) dX12_waysNow_464 rfl (by decide) rfl ?_
        refine x_goto (tgt := 429) (pc := 467) dX12_waysNow_467 (by decide) ?_
        first
        | exact ih (x + 1) V _ (by omega) (by omega) (step1 (by omega))
        | exact ih (x + 1) 0 _ (by omega) (by omega) (step0 (by omega) (by omega))
theorem l_mo_n425 {w : Int} {x : Nat} {G0 G : Nat → Nat → Int} {o5 : Option (Nat × Int)} (hL : x_SL L) (hF : x_Fin xFL G) (hB : zBz lo hi (zub S I (2 * m)) z) (hl : zLn m S I z) (hQ : FM zwnS [22] G0 G) (hW : mNw m S I z mk G) :
    X mX12_waysNow 2 0 0 (pWn L G0 m S I lo hi mk z) 425 [some (vR 127), some (vI w), some (vL ((min (zpw (zg m S I z) (zar m S I z mk) (zbg z 4)) 1000000001 : Nat) : Int)), none, some (vI x), o5] [] L G 0 0 := by
  refine x_bipush (pc := 425) dX12_waysNow_425 (by decide) ?_
  refine x_istore (pc := 427) dX12_waysNow_427 (by decide) rfl ?_
  exact l_mo_nH hL hF rfl hB hl hQ hW 2 33 _ _ (by omega) (by omega) (Or.inr ⟨rfl, fun ⟨y, y1, y2, _⟩ => by omega⟩)
theorem l_mo_n334 {w w3 : Int} {G0 G : Nat → Nat → Int} {o3 o4 o5 : Option (Nat × Int)} (hL : x_SL L) (hF : x_Fin xFL G) (hz : ∀ u, u < 4 → z u ≤ 8) (hB : zBz lo hi (zub S I (2 * m)) z) (hl : zLn m S I z) (hQ : FM zwnS [22] G0 G) (hW : mNw m S I z mk G) :
    X mX12_waysNow 2 0 0 (pWn L G0 m S I lo hi mk z) 334 [some (vR 127), some (vI w), some (vI w3), o3, o4, o5] [] L G 0 0 := by
  have hN := zbg_4 hz 4 (Nat.le_refl _)
  refine x_lconst (x := 1) (pc := 334) dX12_waysNow_334 (by decide) ?_
  refine x_lstoren (pc := 335) dX12_waysNow_335 rfl (by decide) rfl ?_
  refine x_iconst (pc := 336) dX12_waysNow_336 ?_
  refine x_istore (pc := 337) dX12_waysNow_337 (by decide) rfl ?_
  exact l_mo_nG (a := zar m S I z mk) hL hF (by omega) hW.1 hW.2.2.1 (fun x hx hg => ⟨hW.2.2.2 x hx hg, zan_lt _ _ _⟩) (fun o5 => l_mo_n425 hL hF hB hl hQ hW) (zbg z 4) 0 _ (Nat.zero_add _)
theorem l_mo_n241 {w w3 : Int} {G0 G : Nat → Nat → Int} {o3 o4 o5 : Option (Nat × Int)} (hL : x_SL L) (hF : x_Fin xFL G) (hV : zEV m S I) (hBd : mBd lo hi mk G) (hz : mFL z G) (hbg : mBg z G) (hU : mLd (zg m S I z) G) (hC : ∀ x, x < 35 → G 147 x = ((zin x : Nat) : Int)) (hp : G 127 22 = ((zbg z 4 : Nat) : Int)) (hB : zBz lo hi (zub S I (2 * m)) z) (hl : zLn m S I z) (hQ : FM zwnS [22] G0 G) :
    X mX12_waysNow 2 0 0 (pWn L G0 m S I lo hi mk z) 241 [some (vR 127), some (vI w), some (vI w3), o3, o4, o5] [] L G 0 0 := by
  have hzz := fun u hu => (hz u hu).2
  have hC0 : mCn (fun q => q < zbg z 0) (zbb z mk) (zg m S I z) G := fun x hx => ⟨zin x, hC x hx, zin_lt hx, fun d hd => ⟨fun w => ⟨w, fun p hp => absurd hp (Nat.not_lt_zero p)⟩, fun w => w.1⟩⟩
  refine x_iconst (pc := 241) dX12_waysNow_241 ?_
  refine x_istoren (pc := 242) dX12_waysNow_242 rfl (by decide) rfl ?_
  refine l_mo_nE hL hBd hz hbg hU (fun G2 a1 a2 a3 o3 => ?_) 4 0 G _ (Nat.zero_add _) hC0 FM.rf hF
  refine x_bipush (pc := 298) dX12_waysNow_298 (by decide) ?_
  refine x_istoren (pc := 300) dX12_waysNow_300 rfl (by decide) rfl ?_
  refine l_mo_nF (N := zbg z 4) hL (hU.FM a2 (by decide)) (fun x h1 h2 => zbb_l h1 h2) (fun G3 b1 b2 b3 o3 => ?_) 3 32 G2 _ rfl (Nat.le_refl _) (a1.cg fun q => by omega) FM.rf a3
  have hq := a2.tr b2
  exact l_mo_n334 hL b3 hzz hB hl (hQ.tr (hq.mono (by decide) (by decide))) ⟨by rw [hq.at 127 22]; exact hp, hbg.FM hq (by decide), hU.FM hq (by decide), fun x hx hg => b1.fin hV hl hzz hx hg⟩
theorem l_mo_n134 {w w3 : Int} {G0 G : Nat → Nat → Int} {o3 o4 o5 : Option (Nat × Int)} (hL : x_SL L) (hF : x_Fin xFL G) (hE : mEq m S I G) (hBd : mBd lo hi mk G) (hz : mFL z G) (hbg : mBg z G) (hp : G 127 22 = ((zbg z 4 : Nat) : Int)) (hB : zBz lo hi (zub S I (2 * m)) z) (hl : zLn m S I z) (hQ : FM zwnS [22] G0 G) :
    X mX12_waysNow 2 0 0 (pWn L G0 m S I lo hi mk z) 134 [some (vR 127), some (vI w), some (vI w3), o3, o4, o5] [] L G 0 0 := by
  have hV : zEV m S I := fun q hq => ⟨(hE.2.2 q hq).2.1, fun j hj => ((hE.2.2 q hq).2.2 j hj).2⟩
  refine x_iconst (pc := 134) dX12_waysNow_134 ?_
  refine x_istoren (pc := 135) dX12_waysNow_135 rfl (by decide) rfl ?_
  refine l_mo_wC (G1 := G) hL (fun G2 a1 a2 a3 => ?_) 35 0 G (Nat.zero_add _) (fun v hv => absurd hv (Nat.not_lt_zero v)) FM.rf hF
  refine x_iconst (pc := 178) dX12_waysNow_178 ?_
  refine x_istoren (pc := 179) dX12_waysNow_179 rfl (by decide) rfl ?_
  have hE2 := hE.FM a2 (by decide) (by decide) (by decide) (by decide)
  have hz2 := hz.FM a2 (by decide)
  have hb2 := hbg.FM a2 (by decide)
  have hM0 : zMn (zEr (zEp S I z 0 0)) (fun i => i) := zMn.id.cg2 (fun i j h => h.elim) (fun i j ⟨a, b, h, _⟩ => zEp_0 h)
  have hU0 : mLd (fun i => i) G2 := fun x hx => ⟨x, (a1 x hx).1, Nat.le_refl _, Nat.le_refl _, rfl, Iff.rfl, rfl⟩
  refine l_mo_wD hL hE2 hz2 hb2 hl (fun G3 b1 b2 b3 o3 o4 => ?_) m 0 G2 _ _ _ (Nat.zero_add _) hM0 hU0 FM.rf a3
  have hq := a2.tr (b2.mono (S' := [146, 147]) (F' := []) (by decide) (by decide))
  exact l_mo_n241 hL b3 hV (hBd.FM hq (by decide) (by decide) (by decide)) (hz.FM hq (by decide)) (hbg.FM hq (by decide)) b1 (fun x hx => by rw [b2 147 x (by decide) (fun e => absurd e (by decide))]; exact (a1 x hx).2) (by rw [hq.at 127 22]; exact hp) hB hl (hQ.tr (hq.mono (by decide) (by decide)))
theorem l_mo_n97 {w3 : Int} {G0 G : Nat → Nat → Int} {o3 o4 o5 : Option (Nat × Int)} (hL : x_SL L) (hF : x_Fin xFL G) (hE : mEq m S I G0) (hBd : mBd lo hi mk G0) (hz : mFL z G0) (hbg : mBg z G) (hp : G 127 22 = ((zbg z 4 : Nat) : Int)) (hB : zBz lo hi (zub S I (2 * m)) z) (hQ : FM zwnS [22] G0 G) :
    X mX12_waysNow 2 0 0 (pWn L G0 m S I lo hi mk z) 97 [some (vR 127), some (vI (zus S I (2 * m))), some (vI w3), o3, o4, o5] [] L G 0 0 := by
  refine x_iconst (pc := 97) dX12_waysNow_97 ?_
  refine x_istoren (pc := 98) dX12_waysNow_98 rfl (by decide) rfl ?_
  exact l_mo_wB hL hE hz hQ hF (fun hl => l_mo_n134 hL hF (hE.FM hQ (by decide) (by decide) (by decide) (by decide)) (hBd.FM hQ (by decide) (by decide) (by decide)) (hz.FM hQ (by decide)) hbg hp hB hl hQ) m 0 (Nat.zero_add _) (fun e h => absurd h (Nat.not_lt_zero e))
theorem c_mo_waysNow {G : Nat → Nat → Int} (hL : x_SL L) (hF : x_Fin xFL G) (hE : mEq m S I G) (hBd : mBd lo hi mk G) (hz : mFL z G) :
    CM yX12_waysNow mX12_waysNow 2 0 0 [vR 127] L G (pWn L G m S I lo hi mk z) := by
  refine Ct.of_X (μ := mX12_waysNow) rfl rfl (by decide) (fun h => by cases h) (Nat.le_of_ble_eq_true rfl) rfl ?_
  refine x_aloadn (pc := 0) dX12_waysNow_0 rfl ?_
  refine x_cVI (pc := 1) dX12_waysNow_1 lk_X12_169 (c_mo_usedNames hL hF hE) k_127 ⟨by decide, rfl⟩ (hL 127 (by decide) (by decide)) (⟨by decide, by decide⟩) (Nat.le_of_ble_eq_true rfl) rfl ?_
  rintro x G' ⟨rfl, rfl⟩
  refine x_istoren (pc := 4) dX12_waysNow_4 rfl (by decide) rfl ?_
  refine x_aloadn (pc := 5) dX12_waysNow_5 rfl ?_
  refine x_iconst (pc := 6) dX12_waysNow_6 ?_
  refine x_putIF (pc := 7) dX12_waysNow_7 fp_X12_172 k_127 (hL 127 (by decide) (by decide)) hF (fun hF => ?_)
  refine x_iconst (pc := 10) dX12_waysNow_10 ?_
  refine x_istoren (pc := 11) dX12_waysNow_11 rfl (by decide) rfl ?_
  exact l_mo_wA hL hE hBd hz (fun G2 a1 a2 a3 a4 a5 => l_mo_n97 hL a5 hE hBd hz a3 a2 a1 a4) 4 0 _ (Nat.zero_add _) (fun u hu => absurd hu (Nat.not_lt_zero u)) x_up_s (fun v hv => absurd hv (Nat.not_lt_zero v)) (FM.rf.upF (by decide)) hF
end XNA

