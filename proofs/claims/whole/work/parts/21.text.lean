/-! TEXTS: what a row of bytes says, and the text's own methods -/
def FR (S : List Nat) (G G' : Nat → Nat → Int) : Prop := ∀ i, i ∉ S → G' i = G i
theorem FR.rf {S : List Nat} {G : Nat → Nat → Int} : FR S G G := fun _ _ => rfl
theorem FR.tr {S : List Nat} {G G1 G2 : Nat → Nat → Int} (h : FR S G G1) (k : FR S G1 G2) : FR S G G2 := fun i hi => (k i hi).trans (h i hi)
theorem FR.mono {S T : List Nat} {G G1 : Nat → Nat → Int} (h : FR S G G1) (k : ∀ i, i ∈ S → i ∈ T) : FR T G G1 := fun i hi => h i (fun q => hi (k i q))
theorem FR.up {S : List Nat} {G G1 : Nat → Nat → Int} {r j : Nat} {z : Int} (h : FR S G G1) (hr : r ∈ S) : FR S G (x_up G1 r j z) := fun i hi => (congrFun rfl i).trans ((x_up_ne (G := G1) (r := r) (k := j) (z := z) (fun q : i = r => hi (by rw [q]; exact hr))).trans (h i hi))
def zitem (b : Int) : Int := if 97 ≤ b ∧ b ≤ 99 then b - 97 else if 119 ≤ b ∧ b ≤ 122 then b - 115 else -1
theorem zitem_bd (b : Int) : -1 ≤ zitem b ∧ zitem b ≤ 7 := by unfold zitem; split; omega; split <;> omega
abbrev zW : Type := Nat × Nat × (Nat → Nat) × (Nat → Nat → Nat)
def zS1 (S : Nat → Nat) (k : Nat) : Nat → Nat := fun q => if q = k then S q + 1 else S q
def zI1 (S : Nat → Nat) (I : Nat → Nat → Nat) (k v : Nat) : Nat → Nat → Nat := fun q j => if q = k ∧ j = S q then v else I q j
theorem zS1_s {S : Nat → Nat} {k : Nat} : zS1 S k k = S k + 1 := if_pos rfl
theorem zS1_n {S : Nat → Nat} {k q : Nat} (h : q ≠ k) : zS1 S k q = S q := if_neg h
theorem zI1_s {S : Nat → Nat} {I : Nat → Nat → Nat} {k v : Nat} : zI1 S I k v k (S k) = v := if_pos ⟨rfl, rfl⟩
theorem zI1_n {S : Nat → Nat} {I : Nat → Nat → Nat} {k v q j : Nat} (h : q ≠ k ∨ j ≠ S q) : zI1 S I k v q j = I q j := if_neg (fun w => by rcases h with h | h; exact h w.1; exact h w.2)
def zst (c : Nat) (w : zW) : Option zW :=
  if c = 32 then some w
  else if zitem c ≠ -1 ∧ w.2.2.1 (2 * w.1 + w.2.1) < 12 then some (w.1, w.2.1, zS1 w.2.2.1 (2 * w.1 + w.2.1), zI1 w.2.2.1 w.2.2.2 (2 * w.1 + w.2.1) (zitem c).toNat)
  else if c = 61 ∧ w.2.1 = 0 then some (w.1, 1, w.2.2)
  else if c = 59 ∧ w.2.1 = 1 ∧ w.1 < 3 then some (w.1 + 1, 0, w.2.2)
  else none
theorem zst_eq (c e s : Nat) (S : Nat → Nat) (I : Nat → Nat → Nat) : zst c (e, s, S, I) = if c = 32 then some (e, s, S, I) else if zitem c ≠ -1 ∧ S (2 * e + s) < 12 then some (e, s, zS1 S (2 * e + s), zI1 S I (2 * e + s) (zitem c).toNat) else if c = 61 ∧ s = 0 then some (e, 1, S, I) else if c = 59 ∧ s = 1 ∧ e < 3 then some (e + 1, 0, S, I) else none := rfl
def zrun (b : Nat → Nat) : Nat → Nat → zW → Int × zW
  | 0, i, w => (if w.2.1 = 1 then -1 else (i : Int), w)
  | k + 1, i, w => match zst (b i) w with
    | none => ((i : Int), w)
    | some w' => zrun b k (i + 1) w'
def zw0 : zW := (0, 0, fun _ => 0, fun _ _ => 0)
theorem zrun_n {b : Nat → Nat} {k i : Nat} {w : zW} (h : zst (b i) w = none) : zrun b (k + 1) i w = ((i : Int), w) := by rw [zrun, h]
theorem zrun_s {b : Nat → Nat} {k i : Nat} {w w' : zW} (h : zst (b i) w = some w') : zrun b (k + 1) i w = zrun b k (i + 1) w' := by rw [zrun, h]
def byt (w : Int) (j : Nat) : Nat := ((w / 2 ^ (8 * j)) % 256).toNat
theorem byt_lt (w : Int) (j : Nat) : byt w j < 256 := by unfold byt; omega
theorem byt_eq (w : Int) (j : Nat) : (w / 2 ^ (8 * j)) % 256 = (byt w j : Int) := by unfold byt; omega
/-- the text: n bytes b -/
def cTx (n : Nat) (b : Nat → Nat) (G : Nat → Nat → Int) : Prop := G 2 1 = n ∧ n ≤ 100 ∧ ∀ i, i < n → G 3 i = b i ∧ b i < 256
def mTx (n : Nat) (b : Nat → Nat) (G : Nat → Nat → Int) : Prop := G 127 1 = n ∧ n ≤ 100 ∧ ∀ i, i < n → G 128 i = b i ∧ b i < 256
/-! the class -/
theorem c_Tx_itemOf {a : Int} {L : List Nat} {G : Nat → Nat → Int} (ha : -2147483648 ≤ a ∧ a < 2147483648) :
    CM yX9_itemOf mX9_itemOf 0 0 0 [vI a] L G (qI L fun x G' => x = zitem a ∧ G' = G) := by
  refine Ct.of_X (μ := mX9_itemOf) rfl rfl (by decide) (fun h => by cases h) (Nat.le_of_ble_eq_true rfl) rfl ?_
  refine x_iloadn (pc := 0) dX9_itemOf_0 rfl ?_
  refine x_bipush (pc := 1) dX9_itemOf_1 (by decide) ?_
  refine x_clt (tgt := 17) (pc := 3) dX9_itemOf_3 (by decide) (by omega) (fun c_3 => ?_) (fun c_3 => ?_)
  · skip
    refine x_iloadn (pc := 17) dX9_itemOf_17 rfl ?_
    refine x_bipush (pc := 18) dX9_itemOf_18 (by decide) ?_
    refine x_clt (tgt := 36) (pc := 20) dX9_itemOf_20 (by decide) (by omega) (fun c_20 => ?_) (fun c_20 => ?_)
    · skip
      refine x_iconst (pc := 36) dX9_itemOf_36 ?_
      refine x_rI (pc := 37) dX9_itemOf_37 rfl ?_
      exact ⟨by unfold zitem; split; omega; split <;> omega, rfl⟩
    · skip
      refine x_iloadn (pc := 23) dX9_itemOf_23 rfl ?_
      refine x_bipush (pc := 24) dX9_itemOf_24 (by decide) ?_
      refine x_cgt (tgt := 36) (pc := 26) dX9_itemOf_26 (by decide) (by omega) (fun c_26 => ?_) (fun c_26 => ?_)
      · skip
        refine x_iconst (pc := 36) dX9_itemOf_36 ?_
        refine x_rI (pc := 37) dX9_itemOf_37 rfl ?_
        exact ⟨by unfold zitem; split; omega; split <;> omega, rfl⟩
      · skip
        refine x_iloadn (pc := 29) dX9_itemOf_29 rfl ?_
        refine x_bipush (pc := 30) dX9_itemOf_30 (by decide) ?_
        refine x_isub (pc := 32) dX9_itemOf_32 ?_
        refine x_iconst (pc := 33) dX9_itemOf_33 ?_
        refine x_iadd (pc := 34) dX9_itemOf_34 ?_
        refine x_rI (pc := 35) dX9_itemOf_35 rfl ?_
        exact ⟨by unfold zitem; split; omega; split <;> omega, rfl⟩
  · skip
    refine x_iloadn (pc := 6) dX9_itemOf_6 rfl ?_
    refine x_bipush (pc := 7) dX9_itemOf_7 (by decide) ?_
    refine x_cgt (tgt := 17) (pc := 9) dX9_itemOf_9 (by decide) (by omega) (fun c_9 => ?_) (fun c_9 => ?_)
    · skip
      refine x_iloadn (pc := 17) dX9_itemOf_17 rfl ?_
      refine x_bipush (pc := 18) dX9_itemOf_18 (by decide) ?_
      refine x_clt (tgt := 36) (pc := 20) dX9_itemOf_20 (by decide) (by omega) (fun c_20 => ?_) (fun c_20 => ?_)
      · skip
        refine x_iconst (pc := 36) dX9_itemOf_36 ?_
        refine x_rI (pc := 37) dX9_itemOf_37 rfl ?_
        exact ⟨by unfold zitem; split; omega; split <;> omega, rfl⟩
      · skip
        refine x_iloadn (pc := 23) dX9_itemOf_23 rfl ?_
        refine x_bipush (pc := 24) dX9_itemOf_24 (by decide) ?_
        refine x_cgt (tgt := 36) (pc := 26) dX9_itemOf_26 (by decide) (by omega) (fun c_26 => ?_) (fun c_26 => ?_)
        · skip
          refine x_iconst (pc := 36) dX9_itemOf_36 ?_
          refine x_rI (pc := 37) dX9_itemOf_37 rfl ?_
          exact ⟨by unfold zitem; split; omega; split <;> omega, rfl⟩
        · skip
          refine x_iloadn (pc := 29) dX9_itemOf_29 rfl ?_
          refine x_bipush (pc := 30) dX9_itemOf_30 (by decide) ?_
          refine x_isub (pc := 32) dX9_itemOf_32 ?_
          refine x_iconst (pc := 33) dX9_itemOf_33 ?_
          refine x_iadd (pc := 34) dX9_itemOf_34 ?_
          refine x_rI (pc := 35) dX9_itemOf_35 rfl ?_
          exact ⟨by unfold zitem; split; omega; split <;> omega, rfl⟩
    · skip
      refine x_iloadn (pc := 12) dX9_itemOf_12 rfl ?_
      refine x_bipush (pc := 13) dX9_itemOf_13 (by decide) ?_
      refine x_isub (pc := 15) dX9_itemOf_15 ?_
      refine x_rI (pc := 16) dX9_itemOf_16 rfl ?_
      exact ⟨by unfold zitem; split; omega; split <;> omega, rfl⟩
theorem c_Tx_length {n : Nat} {b : Nat → Nat} {L : List Nat} {G : Nat → Nat → Int} (hL : x_SL L) (hT : cTx n b G) :
    CM yX9_length mX9_length 0 0 0 [vR 2] L G (qI L fun x G' => x = n ∧ G' = G) := by
  refine Ct.of_X (μ := mX9_length) rfl rfl (by decide) (fun h => by cases h) (Nat.le_of_ble_eq_true rfl) rfl ?_
  refine x_aloadn (pc := 0) dX9_length_0 rfl ?_
  refine x_getI (pc := 1) dX9_length_1 fl_X9_15 k_2 (hL 2 (by decide) (by decide)) ?_
  refine x_rI (pc := 4) dX9_length_4 rfl ?_
  exact ⟨hT.1, rfl⟩
theorem c_Tx_empty {L : List Nat} {G : Nat → Nat → Int} (hL : x_SL L) (hF : x_Fin xFL G) :
    CM yX9_empty mX9_empty 0 0 0 [vR 2] L G (qV L fun G' => cTx 0 (fun _ => 0) G' ∧ FR [2] G G' ∧ x_Fin xFL G') := by
  refine Ct.of_X (μ := mX9_empty) rfl rfl (by decide) (fun h => by cases h) (Nat.le_of_ble_eq_true rfl) rfl ?_
  refine x_aloadn (pc := 0) dX9_empty_0 rfl ?_
  refine x_iconst (pc := 1) dX9_empty_1 ?_
  refine x_putIF (pc := 2) dX9_empty_2 fp_X9_15 k_2 (hL 2 (by decide) (by decide)) hF (fun hF => ?_)
  refine x_rV (pc := 5) dX9_empty_5 rfl ?_
  exact ⟨⟨x_up_s, by decide, fun i hi => absurd hi (Nat.not_lt_zero i)⟩, FR.rf.up (by decide), hF⟩
theorem c_Tx_hasRoomFor {n : Nat} {b : Nat → Nat} {a : Int} {L : List Nat} {G : Nat → Nat → Int} (hL : x_SL L) (hF : x_Fin xFL G) (hT : cTx n b G) (ha : 1 ≤ a ∧ a ≤ 8) :
    CM yX9_hasRoomFor mX9_hasRoomFor 0 0 0 [vR 2, vI a] L G (qI L fun x G' => x = (if (n : Int) + a ≤ 100 then 1 else 0) ∧ G' = G) := by
  obtain ⟨h1, h2, h3⟩ := hT
  refine Ct.of_X (μ := mX9_hasRoomFor) rfl rfl (by decide) (fun h => by cases h) (Nat.le_of_ble_eq_true rfl) rfl ?_
  refine x_iloadn (pc := 0) dX9_hasRoomFor_0 rfl ?_
  refine x_aloadn (pc := 1) dX9_hasRoomFor_1 rfl ?_
  refine x_getR (3) (pc := 2) dX9_hasRoomFor_2 fl_X9_9 k_2 (hL 2 (by decide) (by decide)) (f_2_0 hF) ?_
  refine x_alen (pc := 5) dX9_hasRoomFor_5 k_3 (by decide) (hL 3 (by decide) (by decide)) ?_
  refine x_aloadn (pc := 6) dX9_hasRoomFor_6 rfl ?_
  refine x_getI (pc := 7) dX9_hasRoomFor_7 fl_X9_15 k_2 (hL 2 (by decide) (by decide)) ?_
  refine x_isub (pc := 10) dX9_hasRoomFor_10 ?_
  refine x_cgt (tgt := 18) (pc := 11) dX9_hasRoomFor_11 (by decide) (by omega) (fun c_11 => ?_) (fun c_11 => ?_)
  · skip
    refine x_iconst (pc := 18) dX9_hasRoomFor_18 ?_
    refine x_rZ (pc := 19) dX9_hasRoomFor_19 rfl (by omega) ?_
    exact ⟨by split <;> omega, rfl⟩
  · skip
    refine x_iconst (pc := 14) dX9_hasRoomFor_14 ?_
    refine x_goto (tgt := 19) (pc := 15) dX9_hasRoomFor_15 (by decide) ?_
    refine x_rZ (pc := 19) dX9_hasRoomFor_19 rfl (by omega) ?_
    exact ⟨by split <;> omega, rfl⟩
theorem cTx_cg {n : Nat} {b b' : Nat → Nat} {G : Nat → Nat → Int} (h : cTx n b G) (e : ∀ i, i < n → b' i = b i) : cTx n b' G := ⟨h.1, h.2.1, fun i hi => by rw [e i hi]; exact h.2.2 i hi⟩
theorem mTx_cg {n : Nat} {b b' : Nat → Nat} {G : Nat → Nat → Int} (h : mTx n b G) (e : ∀ i, i < n → b' i = b i) : mTx n b' G := ⟨h.1, h.2.1, fun i hi => by rw [e i hi]; exact h.2.2 i hi⟩
theorem c_Tx_add {n : Nat} {b : Nat → Nat} {a : Int} {L : List Nat} {G : Nat → Nat → Int} (hL : x_SL L) (hF : x_Fin xFL G) (hT : cTx n b G) (hn : n < 100) (ha : 0 ≤ a ∧ a < 256) :
    CM yX9_add mX9_add 0 0 0 [vR 2, vI a] L G (qV L fun G' => cTx (n + 1) (fun i => if i = n then a.toNat else b i) G' ∧ FR [2, 3] G G' ∧ x_Fin xFL G') := by
  obtain ⟨h1, h2, h3⟩ := hT
  refine Ct.of_X (μ := mX9_add) rfl rfl (by decide) (fun h => by cases h) (Nat.le_of_ble_eq_true rfl) rfl ?_
  refine x_aloadn (pc := 0) dX9_add_0 rfl ?_
  refine x_getI (pc := 1) dX9_add_1 fl_X9_15 k_2 (hL 2 (by decide) (by decide)) ?_
  refine x_aloadn (pc := 4) dX9_add_4 rfl ?_
  refine x_getR (3) (pc := 5) dX9_add_5 fl_X9_9 k_2 (hL 2 (by decide) (by decide)) (f_2_0 hF) ?_
  refine x_alen (pc := 8) dX9_add_8 k_3 (by decide) (hL 3 (by decide) (by decide)) ?_
  refine x_clt (tgt := 13) (pc := 9) dX9_add_9 (by decide) (by omega) (fun c_9 => ?_) (fun c_9 => ?_)
  rotate_left
  · skip
    exact absurd c_9 (by omega)
  refine x_aloadn (pc := 13) dX9_add_13 rfl ?_
  refine x_getR (3) (pc := 14) dX9_add_14 fl_X9_9 k_2 (hL 2 (by decide) (by decide)) (f_2_0 hF) ?_
  refine x_aloadn (pc := 17) dX9_add_17 rfl ?_
  refine x_getI (pc := 18) dX9_add_18 fl_X9_15 k_2 (hL 2 (by decide) (by decide)) ?_
  refine x_iloadn (pc := 21) dX9_add_21 rfl ?_
  refine x_iastF (n) (pc := 22) dX9_add_22 k_3 (hL 3 (by decide) (by decide)) (⟨by omega, by omega, by decide⟩) hF (fun hF => ?_)
  refine x_aloadn (pc := 23) dX9_add_23 rfl ?_
  refine x_dup (pc := 24) dX9_add_24 (by decide) ?_
  refine x_getI (pc := 25) dX9_add_25 fl_X9_15 k_2 (hL 2 (by decide) (by decide)) ?_
  refine x_iconst (pc := 28) dX9_add_28 ?_
  refine x_iadd (pc := 29) dX9_add_29 ?_
  refine x_putIF (pc := 30) dX9_add_30 fp_X9_15 k_2 (hL 2 (by decide) (by decide)) hF (fun hF => ?_)
  refine x_rV (pc := 33) dX9_add_33 rfl ?_
  refine ⟨⟨by rw [x_up_s, x_up_ne (by decide), h1]; rfl, by omega, fun i hi => ?_⟩, (FR.rf.up (by decide)).up (by decide), hF⟩
  rw [x_up_ne (by decide)]
  by_cases c : i = n
  · subst c; rw [x_up_s]; show a = (((if i = i then a.toNat else b i) : Nat) : Int) ∧ (if i = i then a.toNat else b i) < 256; rw [if_pos rfl]; omega
  · rw [x_up_k c]; show G 3 i = (((if i = n then a.toNat else b i) : Nat) : Int) ∧ (if i = n then a.toNat else b i) < 256; rw [if_neg c]; exact h3 i (by omega)
theorem l_Tx_ff {n : Nat} {b : Nat → Nat} {z : Int} {L : List Nat} {G : Nat → Nat → Int} (hL : x_SL L) (hF : x_Fin xFL G) (hT : cTx n b G) : ∀ (k i e s : Nat) (S : Nat → Nat) (I : Nat → Nat → Nat) (o : Option (Nat × Int)), i + k = n → S (2 * e + s) ≤ 12 → (s = 0 ∨ s = 1) → e ≤ 3 → (∀ q, 2 * e + s < q → S q = 0) → (zrun b k i (e, s, S, I)).1 = z →
    X mX9_firstFault 1 0 0 (qI L fun x G' => x = z ∧ G' = G) 9 [some (vR 2), some (vI e), some (vI s), some (vI (S (2 * e + s))), some (vI i), o] [] L G 0 0 := by
  obtain ⟨h1, h2, h3⟩ := hT
  intro k
  induction k with
  | zero =>
    intro i e s S I o hi ht hs he hS hz
    have hz : (if s = 1 then -1 else (i : Int)) = z := hz
    refine x_iload (pc := 9) dX9_firstFault_9 rfl ?_
    refine x_aloadn (pc := 11) dX9_firstFault_11 rfl ?_
    refine x_getI (pc := 12) dX9_firstFault_12 fl_X9_15 k_2 (hL 2 (by decide) (by decide)) ?_
    refine x_cge (tgt := 112) (pc := 15) dX9_firstFault_15 (by decide) (by omega) (fun c_15 => ?_) (fun c_15 => ?_)
    rotate_left
    · skip
      exact absurd c_15 (by omega)
    refine x_iloadn (pc := 112) dX9_firstFault_112 rfl ?_
    refine x_iconst (pc := 113) dX9_firstFault_113 ?_
    refine x_cne (tgt := 121) (pc := 114) dX9_firstFault_114 (by decide) (by omega) (fun c_114 => ?_) (fun c_114 => ?_)
    · skip
      refine x_aloadn (pc := 121) dX9_firstFault_121 rfl ?_
      refine x_getI (pc := 122) dX9_firstFault_122 fl_X9_15 k_2 (hL 2 (by decide) (by decide)) ?_
      refine x_rI (pc := 125) dX9_firstFault_125 rfl ?_
      exact ⟨by rw [← hz]; split <;> omega, rfl⟩
    · skip
      refine x_iconst (pc := 117) dX9_firstFault_117 ?_
      refine x_goto (tgt := 125) (pc := 118) dX9_firstFault_118 (by decide) ?_
      refine x_rI (pc := 125) dX9_firstFault_125 rfl ?_
      exact ⟨by rw [← hz]; split <;> omega, rfl⟩
  | succ k ih =>
    intro i e s S I o hi ht hs he hS hz
    have hbi := h3 i (by omega)
    have hzb := zitem_bd (b i)
    have tl : ∀ (e' s' : Nat) (S' : Nat → Nat) (I' : Nat → Nat → Nat) (E T U : Int), E = e' → U = s' → T = S' (2 * e' + s') → zst (b i) (e, s, S, I) = some (e', s', S', I') → S' (2 * e' + s') ≤ 12 → (s' = 0 ∨ s' = 1) → e' ≤ 3 → (∀ q, 2 * e' + s' < q → S' q = 0) →
        X mX9_firstFault 1 0 0 (qI L fun x G' => x = z ∧ G' = G) 106 [some (vR 2), some (vI E), some (vI U), some (vI T), some (vI i), some (vI (b i))] [] L G 0 0 := by
      intro e' s' S' I' E T U hE hU hT hz' g1 g2 g3 g4
      subst hE; subst hU; subst hT
      refine x_iinc (pc := 106) dX9_firstFault_106 rfl (by decide) rfl ?_
      refine x_goto (tgt := 9) (pc := 109) dX9_firstFault_109 (by decide) ?_
      exact ih (i + 1) e' s' S' I' _ (by omega) g1 g2 g3 g4 (by rw [← hz, zrun_s hz'])
    refine x_iload (pc := 9) dX9_firstFault_9 rfl ?_
    refine x_aloadn (pc := 11) dX9_firstFault_11 rfl ?_
    refine x_getI (pc := 12) dX9_firstFault_12 fl_X9_15 k_2 (hL 2 (by decide) (by decide)) ?_
    refine x_cge (tgt := 112) (pc := 15) dX9_firstFault_15 (by decide) (by omega) (fun c_15 => ?_) (fun c_15 => ?_)
    · skip
      exact absurd c_15 (by omega)
    refine x_aloadn (pc := 18) dX9_firstFault_18 rfl ?_
    refine x_getR (3) (pc := 19) dX9_firstFault_19 fl_X9_9 k_2 (hL 2 (by decide) (by decide)) (f_2_0 hF) ?_
    refine x_iload (pc := 22) dX9_firstFault_22 rfl ?_
    refine x_iald _ (pc := 24) dX9_firstFault_24 k_3 (hL 3 (by decide) (by decide)) (⟨rfl, by omega, by decide⟩) ?_
    rw [hbi.1]
    refine x_istore (pc := 25) dX9_firstFault_25 (by decide) rfl ?_
    refine x_iload (pc := 27) dX9_firstFault_27 rfl ?_
    refine x_bipush (pc := 29) dX9_firstFault_29 (by decide) ?_
    refine x_cne (tgt := 37) (pc := 31) dX9_firstFault_31 (by decide) (by omega) (fun c_31 => ?_) (fun c_31 => ?_)
    · skip
      refine x_iload (pc := 37) dX9_firstFault_37 rfl ?_
      refine x_cSI (pc := 39) dX9_firstFault_39 lk_X9_19 (c_Tx_itemOf (by omega)) (⟨by decide, by decide⟩) (Nat.le_of_ble_eq_true rfl) rfl ?_
      rintro x G' ⟨rfl, rfl⟩
      refine x_iconst (pc := 42) dX9_firstFault_42 ?_
      refine x_ceq (tgt := 58) (pc := 43) dX9_firstFault_43 (by decide) (by omega) (fun c_43 => ?_) (fun c_43 => ?_)
      · skip
        refine x_iload (pc := 58) dX9_firstFault_58 rfl ?_
        refine x_bipush (pc := 60) dX9_firstFault_60 (by decide) ?_
        refine x_cne (tgt := 76) (pc := 62) dX9_firstFault_62 (by decide) (by omega) (fun c_62 => ?_) (fun c_62 => ?_)
        · skip
          refine x_iload (pc := 76) dX9_firstFault_76 rfl ?_
          refine x_bipush (pc := 78) dX9_firstFault_78 (by decide) ?_
          refine x_cne (tgt := 103) (pc := 80) dX9_firstFault_80 (by decide) (by omega) (fun c_80 => ?_) (fun c_80 => ?_)
          · skip
            refine x_iload (pc := 103) dX9_firstFault_103 rfl ?_
            refine x_rI (pc := 105) dX9_firstFault_105 rfl ?_
            exact ⟨by rw [← hz, zrun_n (by rw [zst_eq, if_neg (by omega), if_neg (by omega), if_neg (by omega), if_neg (by omega)])], rfl⟩
          · skip
            refine x_iloadn (pc := 83) dX9_firstFault_83 rfl ?_
            refine x_iconst (pc := 84) dX9_firstFault_84 ?_
            refine x_cne (tgt := 103) (pc := 85) dX9_firstFault_85 (by decide) (by omega) (fun c_85 => ?_) (fun c_85 => ?_)
            · skip
              refine x_iload (pc := 103) dX9_firstFault_103 rfl ?_
              refine x_rI (pc := 105) dX9_firstFault_105 rfl ?_
              exact ⟨by rw [← hz, zrun_n (by rw [zst_eq, if_neg (by omega), if_neg (by omega), if_neg (by omega), if_neg (by omega)])], rfl⟩
            · skip
              refine x_iloadn (pc := 88) dX9_firstFault_88 rfl ?_
              refine x_iconst (pc := 89) dX9_firstFault_89 ?_
              refine x_cge (tgt := 103) (pc := 90) dX9_firstFault_90 (by decide) (by omega) (fun c_90 => ?_) (fun c_90 => ?_)
              · skip
                refine x_iload (pc := 103) dX9_firstFault_103 rfl ?_
                refine x_rI (pc := 105) dX9_firstFault_105 rfl ?_
                exact ⟨by rw [← hz, zrun_n (by rw [zst_eq, if_neg (by omega), if_neg (by omega), if_neg (by omega), if_neg (by omega)])], rfl⟩
              · skip
                refine x_iinc (pc := 93) dX9_firstFault_93 rfl (by decide) rfl ?_
                refine x_iconst (pc := 96) dX9_firstFault_96 ?_
                refine x_istoren (pc := 97) dX9_firstFault_97 rfl (by decide) rfl ?_
                refine x_iconst (pc := 98) dX9_firstFault_98 ?_
                refine x_istoren (pc := 99) dX9_firstFault_99 rfl (by decide) rfl ?_
                refine x_goto (tgt := 106) (pc := 100) dX9_firstFault_100 (by decide) ?_
                first
                | exact tl e s S I _ _ _ rfl rfl rfl (by rw [zst_eq, if_pos (by omega)]) ht hs he hS
                | exact tl e s (zS1 S (2 * e + s)) (zI1 S I (2 * e + s) (zitem (b i)).toNat) _ _ _ rfl rfl (by rw [zS1_s]; omega) (by rw [zst_eq, if_neg (by omega), if_pos (by omega)]) (by rw [zS1_s]; omega) hs he (fun q hq => by rw [zS1_n (by omega)]; exact hS q hq)
                | exact tl e 1 S I _ _ _ rfl rfl (by rw [hS _ (by omega)]; rfl) (by rw [zst_eq, if_neg (by omega), if_neg (by omega), if_pos (by omega)]) (by rw [hS _ (by omega)]; decide) (Or.inr rfl) he (fun q hq => hS q (by omega))
                | exact tl (e + 1) 0 S I _ _ _ rfl rfl (by rw [hS _ (by omega)]; rfl) (by rw [zst_eq, if_neg (by omega), if_neg (by omega), if_neg (by omega), if_pos (by omega)]) (by rw [hS _ (by omega)]; decide) (Or.inl rfl) (by omega) (fun q hq => hS q (by omega))
        · skip
          refine x_iloadn (pc := 65) dX9_firstFault_65 rfl ?_
          refine x_ine (tgt := 76) (pc := 66) dX9_firstFault_66 (by decide) (by omega) (fun c_66 => ?_) (fun c_66 => ?_)
          · skip
            refine x_iload (pc := 76) dX9_firstFault_76 rfl ?_
            refine x_bipush (pc := 78) dX9_firstFault_78 (by decide) ?_
            refine x_cne (tgt := 103) (pc := 80) dX9_firstFault_80 (by decide) (by omega) (fun c_80 => ?_) (fun c_80 => ?_)
            · skip
              refine x_iload (pc := 103) dX9_firstFault_103 rfl ?_
              refine x_rI (pc := 105) dX9_firstFault_105 rfl ?_
              exact ⟨by rw [← hz, zrun_n (by rw [zst_eq, if_neg (by omega), if_neg (by omega), if_neg (by omega), if_neg (by omega)])], rfl⟩
            · skip
              refine x_iloadn (pc := 83) dX9_firstFault_83 rfl ?_
              refine x_iconst (pc := 84) dX9_firstFault_84 ?_
              refine x_cne (tgt := 103) (pc := 85) dX9_firstFault_85 (by decide) (by omega) (fun c_85 => ?_) (fun c_85 => ?_)
              · skip
                refine x_iload (pc := 103) dX9_firstFault_103 rfl ?_
                refine x_rI (pc := 105) dX9_firstFault_105 rfl ?_
                exact ⟨by rw [← hz, zrun_n (by rw [zst_eq, if_neg (by omega), if_neg (by omega), if_neg (by omega), if_neg (by omega)])], rfl⟩
              · skip
                refine x_iloadn (pc := 88) dX9_firstFault_88 rfl ?_
                refine x_iconst (pc := 89) dX9_firstFault_89 ?_
                refine x_cge (tgt := 103) (pc := 90) dX9_firstFault_90 (by decide) (by omega) (fun c_90 => ?_) (fun c_90 => ?_)
                · skip
                  refine x_iload (pc := 103) dX9_firstFault_103 rfl ?_
                  refine x_rI (pc := 105) dX9_firstFault_105 rfl ?_
                  exact ⟨by rw [← hz, zrun_n (by rw [zst_eq, if_neg (by omega), if_neg (by omega), if_neg (by omega), if_neg (by omega)])], rfl⟩
                · skip
                  refine x_iinc (pc := 93) dX9_firstFault_93 rfl (by decide) rfl ?_
                  refine x_iconst (pc := 96) dX9_firstFault_96 ?_
                  refine x_istoren (pc := 97) dX9_firstFault_97 rfl (by decide) rfl ?_
                  refine x_iconst (pc := 98) dX9_firstFault_98 ?_
                  refine x_istoren (pc := 99) dX9_firstFault_99 rfl (by decide) rfl ?_
                  refine x_goto (tgt := 106) (pc := 100) dX9_firstFault_100 (by decide) ?_
                  first
                  | exact tl e s S I _ _ _ rfl rfl rfl (by rw [zst_eq, if_pos (by omega)]) ht hs he hS
                  | exact tl e s (zS1 S (2 * e + s)) (zI1 S I (2 * e + s) (zitem (b i)).toNat) _ _ _ rfl rfl (by rw [zS1_s]; omega) (by rw [zst_eq, if_neg (by omega), if_pos (by omega)]) (by rw [zS1_s]; omega) hs he (fun q hq => by rw [zS1_n (by omega)]; exact hS q hq)
                  | exact tl e 1 S I _ _ _ rfl rfl (by rw [hS _ (by omega)]; rfl) (by rw [zst_eq, if_neg (by omega), if_neg (by omega), if_pos (by omega)]) (by rw [hS _ (by omega)]; decide) (Or.inr rfl) he (fun q hq => hS q (by omega))
                  | exact tl (e + 1) 0 S I _ _ _ rfl rfl (by rw [hS _ (by omega)]; rfl) (by rw [zst_eq, if_neg (by omega), if_neg (by omega), if_neg (by omega), if_pos (by omega)]) (by rw [hS _ (by omega)]; decide) (Or.inl rfl) (by omega) (fun q hq => hS q (by omega))
          · skip
            refine x_iconst (pc := 69) dX9_firstFault_69 ?_
            refine x_istoren (pc := 70) dX9_firstFault_70 rfl (by decide) rfl ?_
            refine x_iconst (pc := 71) dX9_firstFault_71 ?_
            refine x_istoren (pc := 72) dX9_firstFault_72 rfl (by decide) rfl ?_
            refine x_goto (tgt := 106) (pc := 73) dX9_firstFault_73 (by decide) ?_
            first
            | exact tl e s S I _ _ _ rfl rfl rfl (by rw [zst_eq, if_pos (by omega)]) ht hs he hS
            | exact tl e s (zS1 S (2 * e + s)) (zI1 S I (2 * e + s) (zitem (b i)).toNat) _ _ _ rfl rfl (by rw [zS1_s]; omega) (by rw [zst_eq, if_neg (by omega), if_pos (by omega)]) (by rw [zS1_s]; omega) hs he (fun q hq => by rw [zS1_n (by omega)]; exact hS q hq)
            | exact tl e 1 S I _ _ _ rfl rfl (by rw [hS _ (by omega)]; rfl) (by rw [zst_eq, if_neg (by omega), if_neg (by omega), if_pos (by omega)]) (by rw [hS _ (by omega)]; decide) (Or.inr rfl) he (fun q hq => hS q (by omega))
            | exact tl (e + 1) 0 S I _ _ _ rfl rfl (by rw [hS _ (by omega)]; rfl) (by rw [zst_eq, if_neg (by omega), if_neg (by omega), if_neg (by omega), if_pos (by omega)]) (by rw [hS _ (by omega)]; decide) (Or.inl rfl) (by omega) (fun q hq => hS q (by omega))
      · skip
        refine x_iloadn (pc := 46) dX9_firstFault_46 rfl ?_
        refine x_bipush (pc := 47) dX9_firstFault_47 (by decide) ?_
        refine x_cge (tgt := 58) (pc := 49) dX9_firstFault_49 (by decide) (by omega) (fun c_49 => ?_) (fun c_49 => ?_)
        · skip
          refine x_iload (pc := 58) dX9_firstFault_58 rfl ?_
          refine x_bipush (pc := 60) dX9_firstFault_60 (by decide) ?_
          refine x_cne (tgt := 76) (pc := 62) dX9_firstFault_62 (by decide) (by omega) (fun c_62 => ?_) (fun c_62 => ?_)
          · skip
            refine x_iload (pc := 76) dX9_firstFault_76 rfl ?_
            refine x_bipush (pc := 78) dX9_firstFault_78 (by decide) ?_
            refine x_cne (tgt := 103) (pc := 80) dX9_firstFault_80 (by decide) (by omega) (fun c_80 => ?_) (fun c_80 => ?_)
            · skip
              refine x_iload (pc := 103) dX9_firstFault_103 rfl ?_
              refine x_rI (pc := 105) dX9_firstFault_105 rfl ?_
              exact ⟨by rw [← hz, zrun_n (by rw [zst_eq, if_neg (by omega), if_neg (by omega), if_neg (by omega), if_neg (by omega)])], rfl⟩
            · skip
              refine x_iloadn (pc := 83) dX9_firstFault_83 rfl ?_
              refine x_iconst (pc := 84) dX9_firstFault_84 ?_
              refine x_cne (tgt := 103) (pc := 85) dX9_firstFault_85 (by decide) (by omega) (fun c_85 => ?_) (fun c_85 => ?_)
              · skip
                refine x_iload (pc := 103) dX9_firstFault_103 rfl ?_
                refine x_rI (pc := 105) dX9_firstFault_105 rfl ?_
                exact ⟨by rw [← hz, zrun_n (by rw [zst_eq, if_neg (by omega), if_neg (by omega), if_neg (by omega), if_neg (by omega)])], rfl⟩
              · skip
                refine x_iloadn (pc := 88) dX9_firstFault_88 rfl ?_
                refine x_iconst (pc := 89) dX9_firstFault_89 ?_
                refine x_cge (tgt := 103) (pc := 90) dX9_firstFault_90 (by decide) (by omega) (fun c_90 => ?_) (fun c_90 => ?_)
                · skip
                  refine x_iload (pc := 103) dX9_firstFault_103 rfl ?_
                  refine x_rI (pc := 105) dX9_firstFault_105 rfl ?_
                  exact ⟨by rw [← hz, zrun_n (by rw [zst_eq, if_neg (by omega), if_neg (by omega), if_neg (by omega), if_neg (by omega)])], rfl⟩
                · skip
                  refine x_iinc (pc := 93) dX9_firstFault_93 rfl (by decide) rfl ?_
                  refine x_iconst (pc := 96) dX9_firstFault_96 ?_
                  refine x_istoren (pc := 97) dX9_firstFault_97 rfl (by decide) rfl ?_
                  refine x_iconst (pc := 98) dX9_firstFault_98 ?_
                  refine x_istoren (pc := 99) dX9_firstFault_99 rfl (by decide) rfl ?_
                  refine x_goto (tgt := 106) (pc := 100) dX9_firstFault_100 (by decide) ?_
                  first
                  | exact tl e s S I _ _ _ rfl rfl rfl (by rw [zst_eq, if_pos (by omega)]) ht hs he hS
                  | exact tl e s (zS1 S (2 * e + s)) (zI1 S I (2 * e + s) (zitem (b i)).toNat) _ _ _ rfl rfl (by rw [zS1_s]; omega) (by rw [zst_eq, if_neg (by omega), if_pos (by omega)]) (by rw [zS1_s]; omega) hs he (fun q hq => by rw [zS1_n (by omega)]; exact hS q hq)
                  | exact tl e 1 S I _ _ _ rfl rfl (by rw [hS _ (by omega)]; rfl) (by rw [zst_eq, if_neg (by omega), if_neg (by omega), if_pos (by omega)]) (by rw [hS _ (by omega)]; decide) (Or.inr rfl) he (fun q hq => hS q (by omega))
                  | exact tl (e + 1) 0 S I _ _ _ rfl rfl (by rw [hS _ (by omega)]; rfl) (by rw [zst_eq, if_neg (by omega), if_neg (by omega), if_neg (by omega), if_pos (by omega)]) (by rw [hS _ (by omega)]; decide) (Or.inl rfl) (by omega) (fun q hq => hS q (by omega))
          · skip
            refine x_iloadn (pc := 65) dX9_firstFault_65 rfl ?_
            refine x_ine (tgt := 76) (pc := 66) dX9_firstFault_66 (by decide) (by omega) (fun c_66 => ?_) (fun c_66 => ?_)
            · skip
              refine x_iload (pc := 76) dX9_firstFault_76 rfl ?_
              refine x_bipush (pc := 78) dX9_firstFault_78 (by decide) ?_
              refine x_cne (tgt := 103) (pc := 80) dX9_firstFault_80 (by decide) (by omega) (fun c_80 => ?_) (fun c_80 => ?_)
              · skip
                refine x_iload (pc := 103) dX9_firstFault_103 rfl ?_
                refine x_rI (pc := 105) dX9_firstFault_105 rfl ?_
                exact ⟨by rw [← hz, zrun_n (by rw [zst_eq, if_neg (by omega), if_neg (by omega), if_neg (by omega), if_neg (by omega)])], rfl⟩
              · skip
                refine x_iloadn (pc := 83) dX9_firstFault_83 rfl ?_
                refine x_iconst (pc := 84) dX9_firstFault_84 ?_
                refine x_cne (tgt := 103) (pc := 85) dX9_firstFault_85 (by decide) (by omega) (fun c_85 => ?_) (fun c_85 => ?_)
                · skip
                  refine x_iload (pc := 103) dX9_firstFault_103 rfl ?_
                  refine x_rI (pc := 105) dX9_firstFault_105 rfl ?_
                  exact ⟨by rw [← hz, zrun_n (by rw [zst_eq, if_neg (by omega), if_neg (by omega), if_neg (by omega), if_neg (by omega)])], rfl⟩
                · skip
                  refine x_iloadn (pc := 88) dX9_firstFault_88 rfl ?_
                  refine x_iconst (pc := 89) dX9_firstFault_89 ?_
                  refine x_cge (tgt := 103) (pc := 90) dX9_firstFault_90 (by decide) (by omega) (fun c_90 => ?_) (fun c_90 => ?_)
                  · skip
                    refine x_iload (pc := 103) dX9_firstFault_103 rfl ?_
                    refine x_rI (pc := 105) dX9_firstFault_105 rfl ?_
                    exact ⟨by rw [← hz, zrun_n (by rw [zst_eq, if_neg (by omega), if_neg (by omega), if_neg (by omega), if_neg (by omega)])], rfl⟩
                  · skip
                    refine x_iinc (pc := 93) dX9_firstFault_93 rfl (by decide) rfl ?_
                    refine x_iconst (pc := 96) dX9_firstFault_96 ?_
                    refine x_istoren (pc := 97) dX9_firstFault_97 rfl (by decide) rfl ?_
                    refine x_iconst (pc := 98) dX9_firstFault_98 ?_
                    refine x_istoren (pc := 99) dX9_firstFault_99 rfl (by decide) rfl ?_
                    refine x_goto (tgt := 106) (pc := 100) dX9_firstFault_100 (by decide) ?_
                    first
                    | exact tl e s S I _ _ _ rfl rfl rfl (by rw [zst_eq, if_pos (by omega)]) ht hs he hS
                    | exact tl e s (zS1 S (2 * e + s)) (zI1 S I (2 * e + s) (zitem (b i)).toNat) _ _ _ rfl rfl (by rw [zS1_s]; omega) (by rw [zst_eq, if_neg (by omega), if_pos (by omega)]) (by rw [zS1_s]; omega) hs he (fun q hq => by rw [zS1_n (by omega)]; exact hS q hq)
                    | exact tl e 1 S I _ _ _ rfl rfl (by rw [hS _ (by omega)]; rfl) (by rw [zst_eq, if_neg (by omega), if_neg (by omega), if_pos (by omega)]) (by rw [hS _ (by omega)]; decide) (Or.inr rfl) he (fun q hq => hS q (by omega))
                    | exact tl (e + 1) 0 S I _ _ _ rfl rfl (by rw [hS _ (by omega)]; rfl) (by rw [zst_eq, if_neg (by omega), if_neg (by omega), if_neg (by omega), if_pos (by omega)]) (by rw [hS _ (by omega)]; decide) (Or.inl rfl) (by omega) (fun q hq => hS q (by omega))
            · skip
              refine x_iconst (pc := 69) dX9_firstFault_69 ?_
              refine x_istoren (pc := 70) dX9_firstFault_70 rfl (by decide) rfl ?_
              refine x_iconst (pc := 71) dX9_firstFault_71 ?_
              refine x_istoren (pc := 72) dX9_firstFault_72 rfl (by decide) rfl ?_
              refine x_goto (tgt := 106) (pc := 73) dX9_firstFault_73 (by decide) ?_
              first
              | exact tl e s S I _ _ _ rfl rfl rfl (by rw [zst_eq, if_pos (by omega)]) ht hs he hS
              | exact tl e s (zS1 S (2 * e + s)) (zI1 S I (2 * e + s) (zitem (b i)).toNat) _ _ _ rfl rfl (by rw [zS1_s]; omega) (by rw [zst_eq, if_neg (by omega), if_pos (by omega)]) (by rw [zS1_s]; omega) hs he (fun q hq => by rw [zS1_n (by omega)]; exact hS q hq)
              | exact tl e 1 S I _ _ _ rfl rfl (by rw [hS _ (by omega)]; rfl) (by rw [zst_eq, if_neg (by omega), if_neg (by omega), if_pos (by omega)]) (by rw [hS _ (by omega)]; decide) (Or.inr rfl) he (fun q hq => hS q (by omega))
              | exact tl (e + 1) 0 S I _ _ _ rfl rfl (by rw [hS _ (by omega)]; rfl) (by rw [zst_eq, if_neg (by omega), if_neg (by omega), if_neg (by omega), if_pos (by omega)]) (by rw [hS _ (by omega)]; decide) (Or.inl rfl) (by omega) (fun q hq => hS q (by omega))
        · skip
          refine x_iinc (pc := 52) dX9_firstFault_52 rfl (by decide) rfl ?_
          refine x_goto (tgt := 106) (pc := 55) dX9_firstFault_55 (by decide) ?_
          first
          | exact tl e s S I _ _ _ rfl rfl rfl (by rw [zst_eq, if_pos (by omega)]) ht hs he hS
          | exact tl e s (zS1 S (2 * e + s)) (zI1 S I (2 * e + s) (zitem (b i)).toNat) _ _ _ rfl rfl (by rw [zS1_s]; omega) (by rw [zst_eq, if_neg (by omega), if_pos (by omega)]) (by rw [zS1_s]; omega) hs he (fun q hq => by rw [zS1_n (by omega)]; exact hS q hq)
          | exact tl e 1 S I _ _ _ rfl rfl (by rw [hS _ (by omega)]; rfl) (by rw [zst_eq, if_neg (by omega), if_neg (by omega), if_pos (by omega)]) (by rw [hS _ (by omega)]; decide) (Or.inr rfl) he (fun q hq => hS q (by omega))
          | exact tl (e + 1) 0 S I _ _ _ rfl rfl (by rw [hS _ (by omega)]; rfl) (by rw [zst_eq, if_neg (by omega), if_neg (by omega), if_neg (by omega), if_pos (by omega)]) (by rw [hS _ (by omega)]; decide) (Or.inl rfl) (by omega) (fun q hq => hS q (by omega))
    · skip
      refine x_goto (tgt := 106) (pc := 34) dX9_firstFault_34 (by decide) ?_
      first
      | exact tl e s S I _ _ _ rfl rfl rfl (by rw [zst_eq, if_pos (by omega)]) ht hs he hS
      | exact tl e s (zS1 S (2 * e + s)) (zI1 S I (2 * e + s) (zitem (b i)).toNat) _ _ _ rfl rfl (by rw [zS1_s]; omega) (by rw [zst_eq, if_neg (by omega), if_pos (by omega)]) (by rw [zS1_s]; omega) hs he (fun q hq => by rw [zS1_n (by omega)]; exact hS q hq)
      | exact tl e 1 S I _ _ _ rfl rfl (by rw [hS _ (by omega)]; rfl) (by rw [zst_eq, if_neg (by omega), if_neg (by omega), if_pos (by omega)]) (by rw [hS _ (by omega)]; decide) (Or.inr rfl) he (fun q hq => hS q (by omega))
      | exact tl (e + 1) 0 S I _ _ _ rfl rfl (by rw [hS _ (by omega)]; rfl) (by rw [zst_eq, if_neg (by omega), if_neg (by omega), if_neg (by omega), if_pos (by omega)]) (by rw [hS _ (by omega)]; decide) (Or.inl rfl) (by omega) (fun q hq => hS q (by omega))
theorem c_Tx_firstFault {n : Nat} {b : Nat → Nat} {L : List Nat} {G : Nat → Nat → Int} (hL : x_SL L) (hF : x_Fin xFL G) (hT : cTx n b G) :
    CM yX9_firstFault mX9_firstFault 1 0 0 [vR 2] L G (qI L fun x G' => x = (zrun b n 0 zw0).1 ∧ G' = G) := by
  refine Ct.of_X (μ := mX9_firstFault) rfl rfl (by decide) (fun h => by cases h) (Nat.le_of_ble_eq_true rfl) rfl ?_
  refine x_iconst (pc := 0) dX9_firstFault_0 ?_
  refine x_istoren (pc := 1) dX9_firstFault_1 rfl (by decide) rfl ?_
  refine x_iconst (pc := 2) dX9_firstFault_2 ?_
  refine x_istoren (pc := 3) dX9_firstFault_3 rfl (by decide) rfl ?_
  refine x_iconst (pc := 4) dX9_firstFault_4 ?_
  refine x_istoren (pc := 5) dX9_firstFault_5 rfl (by decide) rfl ?_
  refine x_iconst (pc := 6) dX9_firstFault_6 ?_
  refine x_istore (pc := 7) dX9_firstFault_7 (by decide) rfl ?_
  exact l_Tx_ff hL hF hT n 0 0 0 (fun _ => 0) (fun _ _ => 0) _ (by omega) (by decide) (Or.inl rfl) (by decide) (fun _ _ => rfl) rfl
/-! the class's own calls -/
theorem c_ts_fault {n : Nat} {b : Nat → Nat} {L : List Nat} {G : Nat → Nat → Int} (hL : x_SL L) (hF : x_Fin xFL G) (hT : cTx n b G) :
    CM yX11_fault mX11_fault 2 0 0 [vR 1] L G (qI L fun x G' => x = (zrun b n 0 zw0).1 ∧ G' = G) := by
  refine Ct.of_X (μ := mX11_fault) rfl rfl (by decide) (fun h => by cases h) (Nat.le_of_ble_eq_true rfl) rfl ?_
  refine x_aloadn (pc := 0) dX11_fault_0 rfl ?_
  refine x_getR (2) (pc := 1) dX11_fault_1 fl_X11_10 k_1 (hL 1 (by decide) (by decide)) (f_1_0 hF) ?_
  refine x_cVI (pc := 4) dX11_fault_4 lk_X11_82 (c_Tx_firstFault hL hF hT) k_2 ⟨by decide, rfl⟩ (hL 2 (by decide) (by decide)) (⟨by decide, by decide⟩) (Nat.le_of_ble_eq_true rfl) rfl ?_
  rintro x G' ⟨rfl, rfl⟩
  refine x_rI (pc := 7) dX11_fault_7 rfl ?_
  exact ⟨rfl, rfl⟩
theorem c_ts_erase {n : Nat} {b : Nat → Nat} {L : List Nat} {G : Nat → Nat → Int} (hL : x_SL L) (hF : x_Fin xFL G) (hT : cTx n b G) :
    CM yX11_erase mX11_erase 1 0 0 [vR 1] L G (qI L fun x G' => x = n ∧ cTx 0 (fun _ => 0) G' ∧ FR [2] G G' ∧ x_Fin xFL G') := by
  refine Ct.of_X (μ := mX11_erase) rfl rfl (by decide) (fun h => by cases h) (Nat.le_of_ble_eq_true rfl) rfl ?_
  refine x_aloadn (pc := 0) dX11_erase_0 rfl ?_
  refine x_getR (2) (pc := 1) dX11_erase_1 fl_X11_10 k_1 (hL 1 (by decide) (by decide)) (f_1_0 hF) ?_
  refine x_cVI (pc := 4) dX11_erase_4 lk_X11_75 (c_Tx_length hL hT) k_2 ⟨by decide, rfl⟩ (hL 2 (by decide) (by decide)) (⟨by decide, by decide⟩) (Nat.le_of_ble_eq_true rfl) rfl ?_
  rintro x G' ⟨rfl, rfl⟩
  refine x_istoren (pc := 7) dX11_erase_7 rfl (by decide) rfl ?_
  refine x_aloadn (pc := 8) dX11_erase_8 rfl ?_
  refine x_getR (2) (pc := 9) dX11_erase_9 fl_X11_10 k_1 (hL 1 (by decide) (by decide)) (f_1_0 hF) ?_
  refine x_cVV (pc := 12) dX11_erase_12 lk_X11_79 (c_Tx_empty hL hF) k_2 ⟨by decide, rfl⟩ (hL 2 (by decide) (by decide)) (⟨by decide, by decide⟩) (Nat.le_of_ble_eq_true rfl) rfl ?_
  rintro G' hG'
  refine x_iloadn (pc := 15) dX11_erase_15 rfl ?_
  refine x_rI (pc := 16) dX11_erase_16 rfl ?_
  exact ⟨rfl, hG'⟩
theorem l_ts_write {N m : Nat} {w : Int} {b : Nat → Nat} {L : List Nat} {G0 : Nat → Nat → Int} (hL : x_SL L) (hw : -9223372036854775808 ≤ w ∧ w < 9223372036854775808) (hm : m ≤ 8) (hN : N + m ≤ 100) : ∀ (k i : Nat) (G : Nat → Nat → Int), i + k = m → cTx (N + i) (fun q => if q < N then b q else byt w (q - N)) G → FR [2, 3] G0 G → x_Fin xFL G →
    X mX11_write 1 0 0 (qI L fun x G' => x = ((N + m : Nat) : Int) ∧ cTx (N + m) (fun q => if q < N then b q else byt w (q - N)) G' ∧ FR [2, 3] G0 G' ∧ x_Fin xFL G') 31 [some (vR 1), some (vL w), none, some (vI m), some (vI i)] [] L G 0 0 := by
  intro k
  induction k with
  | zero =>
    intro i G hi hT hR hF
    have hi : i = m := by omega
    subst hi
    refine x_iload (pc := 31) dX11_write_31 rfl ?_
    refine x_iloadn (pc := 33) dX11_write_33 rfl ?_
    refine x_cge (tgt := 62) (pc := 34) dX11_write_34 (by decide) (by omega) (fun c_34 => ?_) (fun c_34 => ?_)
    rotate_left
    · skip
      exact absurd c_34 (by omega)
    refine x_aloadn (pc := 62) dX11_write_62 rfl ?_
    refine x_getR (2) (pc := 63) dX11_write_63 fl_X11_10 k_1 (hL 1 (by decide) (by decide)) (f_1_0 hF) ?_
    refine x_cVI (pc := 66) dX11_write_66 lk_X11_75 (c_Tx_length hL hT) k_2 ⟨by decide, rfl⟩ (hL 2 (by decide) (by decide)) (⟨by decide, by decide⟩) (Nat.le_of_ble_eq_true rfl) rfl ?_
    rintro x G' ⟨rfl, rfl⟩
    refine x_rI (pc := 69) dX11_write_69 rfl ?_
    exact ⟨rfl, hT, hR, hF⟩
  | succ k ih =>
    intro i G hi hT hR hF
    refine x_iload (pc := 31) dX11_write_31 rfl ?_
    refine x_iloadn (pc := 33) dX11_write_33 rfl ?_
    refine x_cge (tgt := 62) (pc := 34) dX11_write_34 (by decide) (by omega) (fun c_34 => ?_) (fun c_34 => ?_)
    · skip
      exact absurd c_34 (by omega)
    refine x_aloadn (pc := 37) dX11_write_37 rfl ?_
    refine x_getR (2) (pc := 38) dX11_write_38 fl_X11_10 k_1 (hL 1 (by decide) (by decide)) (f_1_0 hF) ?_
    refine x_lloadn (pc := 41) dX11_write_41 rfl ?_
    refine x_bipush (pc := 42) dX11_write_42 (by decide) ?_
    refine x_iload (pc := 44) dX11_write_44 rfl ?_
    refine x_imul (pc := 46) dX11_write_46 ?_
    refine x_lshr (pc := 47) dX11_write_47 (8 * i) (by omega) (by omega) (by omega) ?_
    refine x_ldc2 (pc := 48) dX11_write_48 co_X11_69 ?_
    refine x_landm (pc := 51) dX11_write_51 8 256 (by decide) (by decide) (by decide) ?_
    rw [byt_eq]
    refine x_l2i (pc := 52) dX11_write_52 ?_
    refine x_cVV (pc := 53) dX11_write_53 lk_X11_71 (c_Tx_add hL hF hT (by omega) ⟨by omega, by have := byt_lt w i; omega⟩) k_2 ⟨by decide, rfl⟩ (hL 2 (by decide) (by decide)) (⟨by decide, by decide⟩) (Nat.le_of_ble_eq_true rfl) rfl ?_
    rintro G' ⟨hT', hR', hF'⟩
    refine x_iinc (pc := 56) dX11_write_56 rfl (by decide) rfl ?_
    refine x_goto (tgt := 31) (pc := 59) dX11_write_59 (by decide) ?_
    refine ih (i + 1) G' (by omega) (cTx_cg hT' (fun q hq => ?_)) (hR.tr hR') hF'
    by_cases c : q = N + i
    · subst c
      rw [if_pos rfl, if_neg (by omega), Int.toNat_natCast, Nat.add_sub_cancel_left]
    · rw [if_neg c]
theorem c_ts_write {N : Nat} {w a : Int} {b : Nat → Nat} {L : List Nat} {G : Nat → Nat → Int} (hL : x_SL L) (hF : x_Fin xFL G) (hT : cTx N b G) (hw : -9223372036854775808 ≤ w ∧ w < 9223372036854775808) (ha : -2147483648 ≤ a ∧ a < 2147483648) :
    CM yX11_write mX11_write 1 0 0 [vR 1, vL w, vI a] L G (qI L fun x G' => (¬ (1 ≤ a ∧ a ≤ 8) ∧ x = -3 ∧ G' = G) ∨ ((1 ≤ a ∧ a ≤ 8) ∧ 100 < N + a ∧ x = -5 ∧ G' = G) ∨ ((1 ≤ a ∧ a ≤ 8) ∧ N + a ≤ 100 ∧ x = N + a ∧ cTx (N + a.toNat) (fun q => if q < N then b q else byt w (q - N)) G' ∧ FR [2, 3] G G' ∧ x_Fin xFL G')) := by
  refine Ct.of_X (μ := mX11_write) rfl rfl (by decide) (fun h => by cases h) (Nat.le_of_ble_eq_true rfl) rfl ?_
  refine x_iloadn (pc := 0) dX11_write_0 rfl ?_
  refine x_iconst (pc := 1) dX11_write_1 ?_
  refine x_clt (tgt := 11) (pc := 2) dX11_write_2 (by decide) (by omega) (fun c_2 => ?_) (fun c_2 => ?_)
  · skip
    refine x_bipush (pc := 11) dX11_write_11 (by decide) ?_
    refine x_rI (pc := 13) dX11_write_13 rfl ?_
    exact Or.inl ⟨by omega, rfl, rfl⟩
  · skip
    refine x_iloadn (pc := 5) dX11_write_5 rfl ?_
    refine x_bipush (pc := 6) dX11_write_6 (by decide) ?_
    refine x_cle (tgt := 14) (pc := 8) dX11_write_8 (by decide) (by omega) (fun c_8 => ?_) (fun c_8 => ?_)
    · skip
      refine x_aloadn (pc := 14) dX11_write_14 rfl ?_
      refine x_getR (2) (pc := 15) dX11_write_15 fl_X11_10 k_1 (hL 1 (by decide) (by decide)) (f_1_0 hF) ?_
      refine x_iloadn (pc := 18) dX11_write_18 rfl ?_
      refine x_cVI (pc := 19) dX11_write_19 lk_X11_65 (c_Tx_hasRoomFor hL hF hT (by omega)) k_2 ⟨by decide, rfl⟩ (hL 2 (by decide) (by decide)) (⟨by decide, by decide⟩) (Nat.le_of_ble_eq_true rfl) rfl ?_
      rintro x G' ⟨rfl, rfl⟩
      refine x_ine (tgt := 28) (pc := 22) dX11_write_22 (by decide) (by split <;> omega) (fun c_22 => ?_) (fun c_22 => ?_)
      · skip
        refine x_iconst (pc := 28) dX11_write_28 ?_
        refine x_istore (pc := 29) dX11_write_29 (by decide) rfl ?_
        obtain ⟨m, rfl⟩ : ∃ m : Nat, a = m := ⟨a.toNat, by omega⟩
        have hcap : (N : Int) + m ≤ 100 := by split at c_22 <;> omega
        refine X.imp (fun v L' G' hq => ?_) (l_ts_write hL hw (by omega) (by omega) m 0 G' (by omega) (cTx_cg hT (fun q hq => by rw [if_pos (by omega)])) FR.rf hF)
        obtain ⟨e1, x, e2, e3, e4⟩ := hq
        exact ⟨e1, x, e2, Or.inr (Or.inr ⟨by omega, by omega, by omega, by rw [Int.toNat_natCast]; exact e4⟩)⟩
      · skip
        refine x_bipush (pc := 25) dX11_write_25 (by decide) ?_
        refine x_rI (pc := 27) dX11_write_27 rfl ?_
        exact Or.inr (Or.inl ⟨by omega, by split at c_22 <;> omega, rfl, rfl⟩)
    · skip
      refine x_bipush (pc := 11) dX11_write_11 (by decide) ?_
      refine x_rI (pc := 13) dX11_write_13 rfl ?_
      exact Or.inl ⟨by omega, rfl, rfl⟩

