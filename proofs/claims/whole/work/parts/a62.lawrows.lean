/-! word and pattern: what they leave, told closer; rows of the law -/
abbrev z_dkS : List Nat := [99, 100, 106, 107, 113, 114, 120, 121]
abbrev z_ptS : List Nat := [2, 101, 102, 103, 108, 109, 110, 115, 116, 117, 122, 123, 124]
theorem c_ts_word2 {dn : Nat → Nat} {dl : Nat → Nat → Nat} {i w n : Int} {L : List Nat} {G : Nat → Nat → Int} (hL : x_SL L) (hF : x_Fin xFL G) (hD : cDk dn dl G) (hi : -2147483648 ≤ i ∧ i < 2147483648) (hw : -9223372036854775808 ≤ w ∧ w < 9223372036854775808) (hn : -2147483648 ≤ n ∧ n < 2147483648) :
    CM yX11_word mX11_word 2 0 0 [vR 1, vI i, vL w, vI n] L G (qI L fun x G' => (¬ (0 ≤ i ∧ i < 4) ∧ x = -2 ∧ G' = G) ∨ ((0 ≤ i ∧ i < 4) ∧ ¬ (0 ≤ n ∧ n ≤ 30 ∧ zgood w n.toNat) ∧ x = -3 ∧ G' = G) ∨ ((0 ≤ i ∧ i < 4) ∧ (0 ≤ n ∧ n ≤ 30 ∧ zgood w n.toNat) ∧ x = 1 ∧ cDk (zup dn i.toNat n.toNat) (zup dl i.toNat (zln w)) G' ∧ FR z_dkS G G' ∧ x_Fin xFL G')) := by
  refine Ct.of_X (μ := mX11_word) rfl rfl (by decide) (fun h => by cases h) (Nat.le_of_ble_eq_true rfl) rfl ?_
  refine x_iloadn (pc := 0) dX11_word_0 rfl ?_
  refine x_cSI (pc := 1) dX11_word_1 lk_X11_105 (c_ts_none hi) (⟨by decide, by decide⟩) (Nat.le_of_ble_eq_true rfl) rfl ?_
  rintro x G' ⟨rfl, h_G⟩
  obtain rfl := h_G.symm
  refine x_ieq (tgt := 10) (pc := 4) dX11_word_4 (by decide) (by split <;> omega) (fun c_4 => ?_) (fun c_4 => ?_)
  · skip
    refine x_iload (pc := 10) dX11_word_10 rfl ?_
    refine x_ilt (tgt := 31) (pc := 12) dX11_word_12 (by decide) (by omega) (fun c_12 => ?_) (fun c_12 => ?_)
    · skip
      refine x_bipush (pc := 31) dX11_word_31 (by decide) ?_
      refine x_rI (pc := 33) dX11_word_33 rfl ?_
      refine Or.inr (Or.inl ⟨by split at c_4 <;> omega, ?_, rfl, rfl⟩)
      intro q
      first | omega | (rcases hx with hx | hx; omega; exact hx.2 q.2.2)
    · skip
      refine x_iload (pc := 15) dX11_word_15 rfl ?_
      refine x_bipush (pc := 17) dX11_word_17 (by decide) ?_
      refine x_cgt (tgt := 31) (pc := 19) dX11_word_19 (by decide) (by omega) (fun c_19 => ?_) (fun c_19 => ?_)
      · skip
        refine x_bipush (pc := 31) dX11_word_31 (by decide) ?_
        refine x_rI (pc := 33) dX11_word_33 rfl ?_
        refine Or.inr (Or.inl ⟨by split at c_4 <;> omega, ?_, rfl, rfl⟩)
        intro q
        first | omega | (rcases hx with hx | hx; omega; exact hx.2 q.2.2)
      · skip
        refine x_lloadn (pc := 22) dX11_word_22 rfl ?_
        refine x_iload (pc := 23) dX11_word_23 rfl ?_
        refine x_cSI (pc := 25) dX11_word_25 lk_X11_128 (c_ts_hasNo (w := w) hw (by omega)) (⟨by decide, by decide⟩) (Nat.le_of_ble_eq_true rfl) rfl ?_
        rintro x G' ⟨hx, hG⟩
        subst hG
        refine x_ieq (tgt := 34) (pc := 28) dX11_word_28 (by decide) (by omega) (fun c_28 => ?_) (fun c_28 => ?_)
        · skip
          have g0 : 0 ≤ i ∧ i < 4 := by split at c_4 <;> omega
          have g1 : zgood w n.toNat := by rcases hx with hx | hx; exact hx.2; omega
          obtain ⟨i, rfl⟩ : ∃ j : Nat, i = j := ⟨i.toNat, by omega⟩
          obtain ⟨n, rfl⟩ : ∃ j : Nat, n = j := ⟨n.toNat, by omega⟩
          have hx := dk_w (i := i) (by omega)
          refine x_aloadn (pc := 34) dX11_word_34 rfl ?_
          refine x_getR (83) (pc := 35) dX11_word_35 fl_X11_39 k_1 (hL 1 (by decide) (by decide)) (f_1_4 hF) ?_
          refine x_iloadn (pc := 38) dX11_word_38 rfl ?_
          refine x_aald (99 + 7 * i) (i) (pc := 39) dX11_word_39 k_83 (by decide) (hL 83 (by decide) (by decide)) (⟨by omega, by omega, by decide⟩) (hF _ (dk_fl i (by omega))) ?_
          refine x_lloadn (pc := 40) dX11_word_40 rfl ?_
          refine x_iload (pc := 41) dX11_word_41 rfl ?_
          refine x_cVV (pc := 43) dX11_word_43 lk_X11_164 (c_Wd_be hx hL hF hw (by omega)) (wd_k hx).1 ⟨by decide, rfl⟩ (wd_m hx hL 0 (by decide)) (⟨by decide, by decide⟩) (Nat.le_of_ble_eq_true rfl) rfl ?_
          rintro G' ⟨a1, a2, a3, hF⟩
          refine x_iconst (pc := 46) dX11_word_46 ?_
          refine x_rI (pc := 47) dX11_word_47 rfl ?_
          refine Or.inr (Or.inr ⟨g0, ⟨by omega, by omega, g1⟩, rfl, fun q hq => ?_, a3.mono (fun k hk => by simp only [List.mem_cons, List.not_mem_nil, or_false] at hk ⊢; omega), hF⟩)
          rw [Int.toNat_natCast, Int.toNat_natCast]
          by_cases c : q = i
          · subst c
            rw [zup_s, zup_s]
            refine ⟨a1, by omega, fun j hj => ?_⟩
            have := g1 j (by omega)
            have := zlet_bd w j
            exact ⟨by rw [a2 j hj]; exact zln_eq w j, by unfold zln; omega⟩
          · rw [zup_n c, zup_n c]
            obtain ⟨b1, b2, b3⟩ := hD q hq
            refine ⟨by rw [a3 _ (by simp; omega)]; exact b1, b2, fun j hj => ?_⟩
            rw [a3 _ (by simp; omega)]; exact b3 j hj
        · skip
          refine x_bipush (pc := 31) dX11_word_31 (by decide) ?_
          refine x_rI (pc := 33) dX11_word_33 rfl ?_
          refine Or.inr (Or.inl ⟨by split at c_4 <;> omega, ?_, rfl, rfl⟩)
          intro q
          first | omega | (rcases hx with hx | hx; omega; exact hx.2 q.2.2)
  · skip
    refine x_bipush (pc := 7) dX11_word_7 (by decide) ?_
    refine x_rI (pc := 9) dX11_word_9 rfl ?_
    exact Or.inl ⟨by split at c_4 <;> omega, rfl, rfl⟩

abbrev pPatC2 (L : List Nat) (G : Nat → Nat → Int) (pn : Nat → Nat) (pl : Nat → Nat → Nat) (i : Int) (z : Option (Nat × (Nat → Nat))) : x_Q := qI L fun x G' => (¬ (0 ≤ i ∧ i < 4) ∧ x = -2 ∧ G' = G) ∨ ((0 ≤ i ∧ i < 4) ∧ zpo z = false ∧ x = -4 ∧ G' = G) ∨ ((0 ≤ i ∧ i < 4) ∧ zpo z = true ∧ ∃ p, z = some p ∧ x = p.1 ∧ cPt (zup pn i.toNat p.1) (zup pl i.toNat p.2) G' ∧ cTx 0 (fun _ => 0) G' ∧ FR z_ptS G G' ∧ x_Fin xFL G')
theorem c_ts_pattern2 {n : Nat} {b : Nat → Nat} {pn : Nat → Nat} {pl : Nat → Nat → Nat} {i : Int} {L : List Nat} {G : Nat → Nat → Int} (hL : x_SL L) (hF : x_Fin xFL G) (hT : cTx n b G) (hP : cPt pn pl G) (hi : -2147483648 ≤ i ∧ i < 2147483648) :
    CM yX11_pattern mX11_pattern 3 0 0 [vR 1, vI i] L G (pPatC2 L G pn pl i (zpr b n 0 0 (fun _ => 0))) := by
  refine Ct.of_X (μ := mX11_pattern) rfl rfl (by decide) (fun h => by cases h) (Nat.le_of_ble_eq_true rfl) rfl ?_
  by_cases g0 : 0 ≤ i ∧ i < 4
  · obtain ⟨i, rfl⟩ : ∃ j : Nat, i = j := ⟨i.toNat, by omega⟩
    have hx := pt_sd (i := i) (by omega)
    by_cases hz : zpo (zpr b n 0 0 (fun _ => 0)) = true
    · obtain ⟨p, hp, hp1⟩ := zpo_some hz
      have hpb := zpr_bd b n 0 0 (fun _ => 0) p (by decide) (fun j hj => absurd hj (Nat.not_lt_zero j)) hp
      refine x_iloadn (pc := 0) dX11_pattern_0 rfl ?_
      refine x_cSI (pc := 1) dX11_pattern_1 lk_X11_105 (c_ts_none hi) (⟨by decide, by decide⟩) (Nat.le_of_ble_eq_true rfl) rfl ?_
      rintro x G' ⟨rfl, h_G⟩
      obtain rfl := h_G.symm
      refine x_ieq (tgt := 10) (pc := 4) dX11_pattern_4 (by decide) (by split <;> omega) (fun c_4 => ?_) (fun c_4 => ?_)
      rotate_left
      · skip
        exact absurd c_4 (by split <;> omega)
      refine x_aloadn (pc := 10) dX11_pattern_10 rfl ?_
      refine x_getR (2) (pc := 11) dX11_pattern_11 fl_X11_10 k_1 (hL 1 (by decide) (by decide)) (f_1_0 hF) ?_
      refine x_cVI (pc := 14) dX11_pattern_14 lk_X11_207 (c_Tx_os hL hF hT) k_2 ⟨by decide, rfl⟩ (hL 2 (by decide) (by decide)) (⟨by decide, by decide⟩) (Nat.le_of_ble_eq_true rfl) rfl ?_
      rintro x G' ⟨hx0, hG⟩
      subst hG
      rw [if_pos hz] at hx0
      subst hx0
      refine x_ine (tgt := 23) (pc := 17) dX11_pattern_17 (by decide) (by omega) (fun c_17 => ?_) (fun c_17 => ?_)
      rotate_left
      · skip
        exact absurd c_17 (by decide)
      refine x_aloadn (pc := 23) dX11_pattern_23 rfl ?_
      refine x_getR (2) (pc := 24) dX11_pattern_24 fl_X11_10 k_1 (hL 1 (by decide) (by decide)) (f_1_0 hF) ?_
      refine x_aloadn (pc := 27) dX11_pattern_27 rfl ?_
      refine x_getR (87) (pc := 28) dX11_pattern_28 fl_X11_52 k_1 (hL 1 (by decide) (by decide)) (f_1_6 hF) ?_
      refine x_iloadn (pc := 31) dX11_pattern_31 rfl ?_
      refine x_aald (101 + 7 * i) (i) (pc := 32) dX11_pattern_32 k_87 (by decide) (hL 87 (by decide) (by decide)) (⟨by omega, by omega, by decide⟩) (hF _ (pt_fl i (by omega))) ?_
      refine x_cVV (pc := 33) dX11_pattern_33 lk_X11_211 (c_Tx_ts (q := i) hx hL hF hT hp) k_2 ⟨by decide, rfl⟩ (hL 2 (by decide) (by decide)) (⟨by decide, by decide⟩) (Nat.le_of_ble_eq_true rfl) rfl ?_
      rintro G1 ⟨a1, a2, hF⟩
      refine x_aloadn (pc := 36) dX11_pattern_36 rfl ?_
      refine x_getR (2) (pc := 37) dX11_pattern_37 fl_X11_10 k_1 (hL 1 (by decide) (by decide)) (f_1_0 hF) ?_
      refine x_cVV (pc := 40) dX11_pattern_40 lk_X11_79 (c_Tx_empty hL hF) k_2 ⟨by decide, rfl⟩ (hL 2 (by decide) (by decide)) (⟨by decide, by decide⟩) (Nat.le_of_ble_eq_true rfl) rfl ?_
      rintro G2 ⟨b1, b2, hF⟩
      refine x_aloadn (pc := 43) dX11_pattern_43 rfl ?_
      refine x_getR (87) (pc := 44) dX11_pattern_44 fl_X11_52 k_1 (hL 1 (by decide) (by decide)) (f_1_6 hF) ?_
      refine x_iloadn (pc := 47) dX11_pattern_47 rfl ?_
      refine x_aald (101 + 7 * i) (i) (pc := 48) dX11_pattern_48 k_87 (by decide) (hL 87 (by decide) (by decide)) (⟨by omega, by omega, by decide⟩) (hF _ (pt_fl i (by omega))) ?_
      refine x_cVI (pc := 49) dX11_pattern_49 lk_X11_215 (c_Sd_length hx hL (a1.FR b2 (by simp <;> omega) (by simp <;> omega) (by simp <;> omega))) (sd_k hx).1 ⟨by decide, rfl⟩ (sd_m hx hL 0 (by decide)) (⟨by decide, by decide⟩) (Nat.le_of_ble_eq_true rfl) rfl ?_
      rintro x G' ⟨rfl, h_G⟩
      obtain rfl := h_G.symm
      refine x_rI (pc := 52) dX11_pattern_52 rfl ?_
      refine Or.inr (Or.inr ⟨g0, hz, p, hp, rfl, fun q hq => ?_, b1, (a2.mono (fun k hk => by simp only [List.mem_cons, List.not_mem_nil, or_false] at hk ⊢; omega)).tr (b2.mono (by decide)), hF⟩)
      rw [Int.toNat_natCast]
      by_cases c : q = i
      · subst c
        rw [zup_s]
        exact (a1.cg (p := q) (J := zup pl q p.2) (fun _ => rfl) (fun _ => rfl) (fun _ => rfl) (fun j _ => by rw [zup_s])).FR b2 (by simp <;> omega) (by simp <;> omega) (by simp <;> omega)
      · rw [zup_n c]
        exact (((hP q hq).cg (p := q) (J := zup pl i p.2) (fun _ => rfl) (fun _ => rfl) (fun _ => rfl) (fun j _ => by rw [zup_n c])).FR a2 (by simp <;> omega) (by simp <;> omega) (by simp <;> omega)).FR b2 (by simp <;> omega) (by simp <;> omega) (by simp <;> omega)
    · skip
      refine x_iloadn (pc := 0) dX11_pattern_0 rfl ?_
      refine x_cSI (pc := 1) dX11_pattern_1 lk_X11_105 (c_ts_none hi) (⟨by decide, by decide⟩) (Nat.le_of_ble_eq_true rfl) rfl ?_
      rintro x G' ⟨rfl, h_G⟩
      obtain rfl := h_G.symm
      refine x_ieq (tgt := 10) (pc := 4) dX11_pattern_4 (by decide) (by split <;> omega) (fun c_4 => ?_) (fun c_4 => ?_)
      rotate_left
      · skip
        exact absurd c_4 (by split <;> omega)
      refine x_aloadn (pc := 10) dX11_pattern_10 rfl ?_
      refine x_getR (2) (pc := 11) dX11_pattern_11 fl_X11_10 k_1 (hL 1 (by decide) (by decide)) (f_1_0 hF) ?_
      refine x_cVI (pc := 14) dX11_pattern_14 lk_X11_207 (c_Tx_os hL hF hT) k_2 ⟨by decide, rfl⟩ (hL 2 (by decide) (by decide)) (⟨by decide, by decide⟩) (Nat.le_of_ble_eq_true rfl) rfl ?_
      rintro x G' ⟨hx0, hG⟩
      subst hG
      rw [if_neg hz] at hx0
      subst hx0
      refine x_ine (tgt := 23) (pc := 17) dX11_pattern_17 (by decide) (by omega) (fun c_17 => ?_) (fun c_17 => ?_)
      · skip
        exact absurd rfl c_17
      refine x_bipush (pc := 20) dX11_pattern_20 (by decide) ?_
      refine x_rI (pc := 22) dX11_pattern_22 rfl ?_
      exact Or.inr (Or.inl ⟨g0, by rw [← Bool.not_eq_true]; exact hz, rfl, rfl⟩)
  · skip
    refine x_iloadn (pc := 0) dX11_pattern_0 rfl ?_
    refine x_cSI (pc := 1) dX11_pattern_1 lk_X11_105 (c_ts_none hi) (⟨by decide, by decide⟩) (Nat.le_of_ble_eq_true rfl) rfl ?_
    rintro x G' ⟨rfl, h_G⟩
    obtain rfl := h_G.symm
    refine x_ieq (tgt := 10) (pc := 4) dX11_pattern_4 (by decide) (by split <;> omega) (fun c_4 => ?_) (fun c_4 => ?_)
    · skip
      exact absurd c_4 (by split <;> omega)
    refine x_bipush (pc := 7) dX11_pattern_7 (by decide) ?_
    refine x_rI (pc := 9) dX11_pattern_9 rfl ?_
    exact Or.inl ⟨g0, rfl, rfl⟩


abbrev mL_law (N : Nat) (sc : Nat → Int) : x_M := (RL, cL_law, 4, (some .boolean), false, N + 1, sc)
def zlo (x y : Int) : Int := (Int64.ofInt x ||| Int64.ofInt y).toInt
theorem zlo_bd (x y : Int) : -9223372036854775808 ≤ zlo x y ∧ zlo x y < 9223372036854775808 := ⟨Int64.le_toInt _, Int64.toInt_lt _⟩
section XLW
variable {μ : x_M} {d mc ms : Nat} {Q : x_Q} {pc : Nat} {ls : List (Option (Nat × Int))} {st : List (Nat × Int)} {L : List Nat} {G : Nat → Nat → Int} {k n : Nat}
theorem x_lorD {x y : Int} {pc : Nat} (hd : decode (x_cc μ) pc = .ok (.lor, 1)) (kk : X μ d mc ms Q (pc + 1) ls (vL (zlo x y) :: st) L G k n) : X μ d mc ms Q pc ls (vL y :: vL x :: st) L G k n := by
  intro p l e s m args below meth c D cy B L0 ρ0 Z H locs lsA ρ C hR hE hS hl ho hv h1 h2
  refine lv_lor C.1 C.2.1 hd ?_
  exact x_eqW (s2 := (vL (zlo x y) :: st).map (x_rv ρ)) (by rw [List.map_cons, x_rvL]; unfold zlo; rw [Int64.ofInt_toInt]) (kk p l e s m args below meth c D cy B L0 ρ0 Z H locs lsA ρ C hR hE hS hl (x_okA x_okL (x_okt ho)) hv h1 h2)
theorem x_ceqS {x y : Int} {off : Int} {tgt : Nat} {pc : Nat} (hd : decode (x_cc μ) pc = .ok (.if_icmp .eq off, 3)) (ht : (pc : Int) + off = (tgt : Int)) (he : x = y) (kt : X μ d mc ms Q tgt ls st L G k n) : X μ d mc ms Q pc ls (vI y :: vI x :: st) L G k n := by
  intro p l e s m args below meth c D cy B L0 ρ0 Z H locs lsA ρ C hR hE hS hl ho hv h1 h2
  subst he
  refine lv_icmp_eq C.1 C.2.1 hd ht (fun q => ?_) (fun q => absurd rfl q)
  exact kt p l e s m args below meth c D cy B L0 ρ0 Z H locs lsA ρ C hR hE hS hl (x_okt (x_okt ho)) hv h1 h2
theorem x_scr {p : Program} {l : Launch} {e : Env} {s : State} {m : MethodId} {args : Array Value} {below : List Frame} {meth : Method} {c : Code} {D : va_G} {cy : Nat → ClassId} {B : Nat} {L0 : List Nat} {ρ0 : Nat → Nat} {Z : State → Prop} {N : Nat} (C : x_C μ d mc ms Q p l e s m args below meth c D cy B L0 ρ0 Z) (hs : x_sn μ = N + 1) : va_X (ρ0 0) N (fun j => Int32.ofInt (x_sc μ j)) s s.heap ∧ ρ0 0 < s.heap.size ∧ ¬ B ≤ ρ0 0 := by
  rcases C.2.2.2.2.2.2.2.2.1 with w | w
  · rw [hs] at w
    exact absurd w (Nat.succ_ne_zero N)
  · rw [hs, Nat.add_sub_cancel] at w
    exact w
theorem x_slen {N : Nat} {pc : Nat} (hd : decode (x_cc μ) pc = .ok (.arraylength, 1)) (hs : x_sn μ = N + 1) (kk : X μ d mc ms Q (pc + 1) ls (vI (N : Int) :: st) L G k n) : X μ d mc ms Q pc ls (vR 0 :: st) L G k n := by
  intro p l e s m args below meth c D cy B L0 ρ0 Z H locs lsA ρ C hR hE hS hl ho hv h1 h2
  obtain ⟨x1, x2, x3⟩ := x_scr C hs
  refine x_eqW (s2 := .ref (ρ0 0) :: st.map (x_rv ρ)) (by rw [List.map_cons, x_rvR, hE.2]) ?_
  refine va_slen C.1 C.2.1 x1 x2 x3 hS hd ?_
  refine x_eqW (s2 := (vI (N : Int) :: st).map (x_rv ρ)) (by rw [List.map_cons, x_rvI, Int32.ofInt_eq_ofNat]) ?_
  exact kk p l e s m args below meth c D cy B L0 ρ0 Z H locs lsA ρ C hR hE hS hl (x_okc x_okI (x_okt ho)) hv h1 h2
theorem x_sld {N : Nat} (j : Nat) {a : Int} {pc : Nat} (hd : decode (x_cc μ) pc = .ok (.iaload, 1)) (hs : x_sn μ = N + 1) (hj : a = (j : Int) ∧ j < N ∧ N < 2147483648) (kk : X μ d mc ms Q (pc + 1) ls (vI (x_sc μ j) :: st) L G k n) : X μ d mc ms Q pc ls (vI a :: vR 0 :: st) L G k n := by
  intro p l e s m args below meth c D cy B L0 ρ0 Z H locs lsA ρ C hR hE hS hl ho hv h1 h2
  obtain ⟨x1, x2, x3⟩ := x_scr C hs
  obtain ⟨hj, hb, hN⟩ := hj
  subst hj
  have hin : vp_in (Int32.ofInt (j : Int)) N := z_vpin (by omega) (by omega) hN
  have hcl : (Int32.ofInt (j : Int)).toNatClampNeg = j := by rw [z_clamp (by omega) (by omega), Int.toNat_natCast]
  refine x_eqW (s2 := .int (Int32.ofInt (j : Int)) :: .ref (ρ0 0) :: st.map (x_rv ρ)) (by rw [List.map_cons, List.map_cons, x_rvR, x_rvI, hE.2]) ?_
  refine va_sld C.1 C.2.1 x1 x2 x3 hS hin hd ?_
  rw [hcl]
  refine x_eqW (s2 := (vI (x_sc μ j) :: st).map (x_rv ρ)) (by rw [List.map_cons, x_rvI]) ?_
  exact kk p l e s m args below meth c D cy B L0 ρ0 Z H locs lsA ρ C hR hE hS hl (x_okc x_okI (x_okt (x_okt ho))) hv h1 h2
end XLW

