/-! rows: bits of two words, an unsigned shift; memberships of what is made later; the class's pairs -/
def zlx (x y : Int) : Int := (Int64.ofInt x ^^^ Int64.ofInt y).toInt
def zlsh (x y : Int) : Int := ((Int64.ofInt x).toUInt64 >>> ((Int32.ofInt y).toInt64.toUInt64 &&& Int64.toUInt64 63)).toInt64.toInt
section XR9
variable {μ : x_M} {d mc ms : Nat} {Q : x_Q} {pc : Nat} {ls : List (Option (Nat × Int))} {st : List (Nat × Int)} {L : List Nat} {G : Nat → Nat → Int} {k n : Nat}
theorem x_lxorD {x y : Int} {pc : Nat} (hd : decode (x_cc μ) pc = .ok (.lxor, 1)) (kk : X μ d mc ms Q (pc + 1) ls (vL (zlx x y) :: st) L G k n) : X μ d mc ms Q pc ls (vL y :: vL x :: st) L G k n := by
  intro p l e s m args below meth c D cy B L0 ρ0 Z H locs lsA ρ C hR hE hS hl ho hv h1 h2
  refine lv_lxor C.1 C.2.1 hd ?_
  exact x_eqW (s2 := (vL (zlx x y) :: st).map (x_rv ρ)) (by rw [List.map_cons, x_rvL]; unfold zlx; rw [Int64.ofInt_toInt]) (kk p l e s m args below meth c D cy B L0 ρ0 Z H locs lsA ρ C hR hE hS hl (x_okA x_okL (x_okt ho)) hv h1 h2)
theorem x_lushrD {x y : Int} {pc : Nat} (hd : decode (x_cc μ) pc = .ok (.lushr, 1)) (kk : X μ d mc ms Q (pc + 1) ls (vL (zlsh x y) :: st) L G k n) : X μ d mc ms Q pc ls (vI y :: vL x :: st) L G k n := by
  intro p l e s m args below meth c D cy B L0 ρ0 Z H locs lsA ρ C hR hE hS hl ho hv h1 h2
  refine lv_lushr C.1 C.2.1 hd rfl ?_
  exact x_eqW (s2 := (vL (zlsh x y) :: st).map (x_rv ρ)) (by rw [List.map_cons, x_rvL]; unfold zlsh; rw [Int64.ofInt_toInt]) (kk p l e s m args below meth c D cy B L0 ρ0 Z H locs lsA ρ C hR hE hS hl (x_okA x_okL (x_okt ho)) hv h1 h2)
end XR9
def x_GM (L : List Nat) : Prop := ∀ i, 173 ≤ i → i < 195 → i ∈ L
theorem x_GinS {S : List Nat} {G G' : Nat → Nat → Int} (h : x_Fin xGL G) (k : FR S G G') (hS : ∀ t ∈ xGL, t.1 ∉ S) : x_Fin xGL G' := fun t ht => by rw [k _ (hS t ht)]; exact h t ht
/-! the class: an equation on its way -/
def cPr (o r0 r1 sz : Nat) (A B : List Nat) (t : Nat) (G : Nat → Nat → Int) : Prop := G sz 0 = ((A.length : Nat) : Int) ∧ G sz 1 = ((B.length : Nat) : Int) ∧ (∀ i, i < A.length → G r0 i = ((A.getD i 0 : Nat) : Int)) ∧ (∀ i, i < B.length → G r1 i = ((B.getD i 0 : Nat) : Int)) ∧ G o 2 = ((t : Nat) : Int)
abbrev c_he (A B : List Nat) (t : Nat) (G : Nat → Nat → Int) : Prop := cPr 174 176 177 178 A B t G
abbrev c_th (A B : List Nat) (t : Nat) (G : Nat → Nat → Int) : Prop := cPr 179 181 182 183 A B t G
abbrev z_heS : List Nat := [174, 176, 177, 178]
abbrev z_thS : List Nat := [179, 181, 182, 183]
theorem cPr.FR {o r0 r1 sz : Nat} {A B : List Nat} {t : Nat} {S : List Nat} {G G' : Nat → Nat → Int} (h : cPr o r0 r1 sz A B t G) (k : FR S G G') (h0 : o ∉ S) (h1 : r0 ∉ S) (h2 : r1 ∉ S) (h3 : sz ∉ S) : cPr o r0 r1 sz A B t G' := by
  unfold cPr
  rw [k _ h0, k _ h1, k _ h2, k _ h3]; exact h
def zb8 (A : List Nat) : Prop := ∀ x ∈ A, x < 8 ∧ x ≠ 3
theorem zgd_el {A : List Nat} {i : Nat} (h : i < A.length) : A.getD i 0 = A[i] := by
  rw [List.getD_eq_getElem?_getD, List.getElem?_eq_getElem h]; rfl
theorem zb8_at {A : List Nat} {i : Nat} (h : zb8 A) (hi : i < A.length) : A.getD i 0 < 8 ∧ A.getD i 0 ≠ 3 := by
  rw [zgd_el hi]; exact h _ (List.getElem_mem hi)
theorem zgd_app {A : List Nat} {x i : Nat} (h : i < (A ++ [x]).length) : (A ++ [x]).getD i 0 = if i = A.length then x else A.getD i 0 := by
  rw [List.length_append, List.length_singleton] at h
  by_cases c : i = A.length
  · rw [if_pos c, c]; simp
  · rw [if_neg c, List.getD_eq_getElem?_getD, List.getElem?_append, if_pos (by omega), ← List.getD_eq_getElem?_getD]
theorem zdr_at {A : List Nat} {i : Nat} (h : i < A.length) : A.drop i = A.getD i 0 :: A.drop (i + 1) := by
  rw [zgd_el h]; exact List.drop_eq_getElem_cons h
theorem ztk_at {A : List Nat} {i : Nat} (h : i < A.length) : A.take (i + 1) = A.take i ++ [A.getD i 0] := by
  rw [zgd_el h]; exact (List.take_append_getElem h).symm
theorem zhd_bd {A : List Nat} (h : zb8 A) : -1 ≤ zhd A ∧ zhd A < 8 ∧ zhd A ≠ 3 := by
  cases A with
  | nil => exact ⟨by decide, by decide, by decide⟩
  | cons a A =>
    have := h a List.mem_cons_self
    show -1 ≤ ((a : Nat) : Int) ∧ ((a : Nat) : Int) < 8 ∧ ((a : Nat) : Int) ≠ 3
    omega
theorem cPr.add0 {o r0 r1 sz : Nat} {A B : List Nat} {t x : Nat} {G : Nat → Nat → Int} (h : cPr o r0 r1 sz A B t G) (h1 : r0 ≠ sz) (h2 : r1 ≠ sz) (h3 : r0 ≠ r1) (h4 : o ≠ r0) (h5 : o ≠ sz) : cPr o r0 r1 sz (A ++ [x]) B t (x_up (x_up G r0 A.length x) sz 0 (((A.length : Nat) : Int) + 1)) := by
  obtain ⟨a1, a2, a3, a4, a5⟩ := h
  refine ⟨by rw [x_up_s, List.length_append]; rfl, by rw [x_up_k (by decide), x_up_ne (Ne.symm h1)]; exact a2, fun i hi => ?_, fun i hi => ?_, by rw [x_up_ne h5, x_up_ne h4]; exact a5⟩
  · rw [x_up_ne h1, zgd_app hi]
    rw [List.length_append, List.length_singleton] at hi
    by_cases c : i = A.length
    · rw [if_pos c, c]; exact x_up_s
    · rw [if_neg c, x_up_k c]; exact a3 i (by omega)
  · rw [x_up_ne h2, x_up_ne (Ne.symm h3)]; exact a4 i hi
theorem cPr.add1 {o r0 r1 sz : Nat} {A B : List Nat} {t x : Nat} {G : Nat → Nat → Int} (h : cPr o r0 r1 sz A B t G) (h1 : r0 ≠ sz) (h2 : r1 ≠ sz) (h3 : r0 ≠ r1) (h4 : o ≠ r1) (h5 : o ≠ sz) : cPr o r0 r1 sz A (B ++ [x]) t (x_up (x_up G r1 B.length x) sz 1 (((B.length : Nat) : Int) + 1)) := by
  obtain ⟨a1, a2, a3, a4, a5⟩ := h
  refine ⟨by rw [x_up_k (by decide), x_up_ne (Ne.symm h2)]; exact a1, by rw [x_up_s, List.length_append]; rfl, fun i hi => ?_, fun i hi => ?_, by rw [x_up_ne h5, x_up_ne h4]; exact a5⟩
  · rw [x_up_ne h1, x_up_ne h3]; exact a3 i hi
  · rw [x_up_ne h2, zgd_app hi]
    rw [List.length_append, List.length_singleton] at hi
    by_cases c : i = B.length
    · rw [if_pos c, c]; exact x_up_s
    · rw [if_neg c, x_up_k c]; exact a4 i (by omega)
section XPC
variable {L : List Nat} {A B : List Nat} {t : Nat}
theorem c_he_begin {G : Nat → Nat → Int} (hL : x_SL L) (hM : x_GM L) (hF : x_Fin xFL G) (hG : x_Fin xGL G) :
    CM yX6_begin mX6_begin 0 0 0 [vR 174] L G (qV L fun G' => c_he [] [] 0 G' ∧ FR z_heS G G' ∧ x_Fin xFL G' ∧ x_Fin xGL G') := by
  refine Ct.of_X (μ := mX6_begin) rfl rfl (by decide) (fun h => by cases h) (Nat.le_of_ble_eq_true rfl) rfl ?_
  refine x_aloadn (pc := 0) dX6_begin_0 rfl ?_
  refine x_getR (178) (pc := 1) dX6_begin_1 fl_X6_16 k_174 (hM 174 (by decide) (by decide)) (f_174_1 hG) ?_
  refine x_iconst (pc := 4) dX6_begin_4 ?_
  refine x_iconst (pc := 5) dX6_begin_5 ?_
  refine x_iastH 0 (pc := 6) dX6_begin_6 k_178 (hM 178 (by decide) (by decide)) (by decide) hF hG (fun hF hG => ?_)
  refine x_aloadn (pc := 7) dX6_begin_7 rfl ?_
  refine x_getR (178) (pc := 8) dX6_begin_8 fl_X6_16 k_174 (hM 174 (by decide) (by decide)) (f_174_1 hG) ?_
  refine x_iconst (pc := 11) dX6_begin_11 ?_
  refine x_iconst (pc := 12) dX6_begin_12 ?_
  refine x_iastH 1 (pc := 13) dX6_begin_13 k_178 (hM 178 (by decide) (by decide)) (by decide) hF hG (fun hF hG => ?_)
  refine x_aloadn (pc := 14) dX6_begin_14 rfl ?_
  refine x_iconst (pc := 15) dX6_begin_15 ?_
  refine x_putIH (pc := 16) dX6_begin_16 fp_X6_20 k_174 (hM 174 (by decide) (by decide)) hF hG (fun hF hG => ?_)
  refine x_rV (pc := 19) dX6_begin_19 rfl ?_
  refine ⟨⟨by rw [x_up_ne (by decide), x_up_k (by decide), x_up_s]; rfl, by rw [x_up_ne (by decide), x_up_s]; rfl, fun i hi => absurd hi (Nat.not_lt_zero i), fun i hi => absurd hi (Nat.not_lt_zero i), by rw [x_up_s]; rfl⟩, ((FR.rf.up (by decide)).up (by decide)).up (by decide), hF, hG⟩
theorem c_he_add0 {x : Nat} {G : Nat → Nat → Int} (hL : x_SL L) (hM : x_GM L) (hF : x_Fin xFL G) (hG : x_Fin xGL G) (h : c_he A B t G) (hA : A.length < 32) :
    CM yX6_add mX6_add 0 0 0 [vR 174, vI 0, vI x] L G (qV L fun G' => c_he (A ++ [x]) B t G' ∧ FR z_heS G G' ∧ x_Fin xFL G' ∧ x_Fin xGL G') := by
  have s0 := h.1
  refine Ct.of_X (μ := mX6_add) rfl rfl (by decide) (fun h => by cases h) (Nat.le_of_ble_eq_true rfl) rfl ?_
  refine x_iloadn (pc := 0) dX6_add_0 rfl ?_
  refine x_ilt (tgt := 20) (pc := 1) dX6_add_1 (by decide) (by omega) (fun c_1 => ?_) (fun c_1 => ?_)
  · skip
    exact absurd c_1 (by decide)
  refine x_iloadn (pc := 4) dX6_add_4 rfl ?_
  refine x_iconst (pc := 5) dX6_add_5 ?_
  refine x_cgt (tgt := 20) (pc := 6) dX6_add_6 (by decide) (by omega) (fun c_6 => ?_) (fun c_6 => ?_)
  · skip
    exact absurd c_6 (by decide)
  refine x_aloadn (pc := 9) dX6_add_9 rfl ?_
  refine x_getR (178) (pc := 10) dX6_add_10 fl_X6_16 k_174 (hM 174 (by decide) (by decide)) (f_174_1 hG) ?_
  refine x_iloadn (pc := 13) dX6_add_13 rfl ?_
  refine x_iald (0) (pc := 14) dX6_add_14 k_178 (hM 178 (by decide) (by decide)) (⟨rfl, by decide, by decide⟩) ?_
  rw [s0]
  refine x_bipush (pc := 15) dX6_add_15 (by decide) ?_
  refine x_clt (tgt := 21) (pc := 17) dX6_add_17 (by decide) (by omega) (fun c_17 => ?_) (fun c_17 => ?_)
  rotate_left
  · skip
    exact absurd c_17 (by omega)
  refine x_aloadn (pc := 21) dX6_add_21 rfl ?_
  refine x_getR (175) (pc := 22) dX6_add_22 fl_X6_13 k_174 (hM 174 (by decide) (by decide)) (f_174_0 hG) ?_
  refine x_iloadn (pc := 25) dX6_add_25 rfl ?_
  refine x_aald (176) (0) (pc := 26) dX6_add_26 k_175 (by decide) (hM 175 (by decide) (by decide)) (⟨rfl, by decide, by decide⟩) (f_175_0 hG) ?_
  refine x_aloadn (pc := 27) dX6_add_27 rfl ?_
  refine x_getR (178) (pc := 28) dX6_add_28 fl_X6_16 k_174 (hM 174 (by decide) (by decide)) (f_174_1 hG) ?_
  refine x_iloadn (pc := 31) dX6_add_31 rfl ?_
  refine x_iald (0) (pc := 32) dX6_add_32 k_178 (hM 178 (by decide) (by decide)) (⟨rfl, by decide, by decide⟩) ?_
  rw [s0]
  refine x_iloadn (pc := 33) dX6_add_33 rfl ?_
  refine x_iastH (A.length) (pc := 34) dX6_add_34 k_176 (hM 176 (by decide) (by decide)) (⟨by omega, by omega, by decide⟩) hF hG (fun hF hG => ?_)
  refine x_aloadn (pc := 35) dX6_add_35 rfl ?_
  refine x_getR (178) (pc := 36) dX6_add_36 fl_X6_16 k_174 (hM 174 (by decide) (by decide)) (f_174_1 hG) ?_
  refine x_iloadn (pc := 39) dX6_add_39 rfl ?_
  refine x_dup2 (pc := 40) dX6_add_40 (fun h => by cases h) (fun h => by cases h) ?_
  refine x_iald (0) (pc := 41) dX6_add_41 k_178 (hM 178 (by decide) (by decide)) (⟨rfl, by decide, by decide⟩) ?_
  rw [x_up_ne (by decide), s0]
  refine x_iconst (pc := 42) dX6_add_42 ?_
  refine x_iadd (pc := 43) dX6_add_43 ?_
  refine x_iastH (0) (pc := 44) dX6_add_44 k_178 (hM 178 (by decide) (by decide)) (⟨rfl, by decide, by decide⟩) hF hG (fun hF hG => ?_)
  refine x_rV (pc := 45) dX6_add_45 rfl ?_
  exact ⟨h.add0 (by decide) (by decide) (by decide) (by decide) (by decide), (FR.rf.up (by decide)).up (by decide), hF, hG⟩
theorem c_he_add1 {x : Nat} {G : Nat → Nat → Int} (hL : x_SL L) (hM : x_GM L) (hF : x_Fin xFL G) (hG : x_Fin xGL G) (h : c_he A B t G) (hB : B.length < 32) :
    CM yX6_add mX6_add 0 0 0 [vR 174, vI 1, vI x] L G (qV L fun G' => c_he A (B ++ [x]) t G' ∧ FR z_heS G G' ∧ x_Fin xFL G' ∧ x_Fin xGL G') := by
  have s0 := h.2.1
  refine Ct.of_X (μ := mX6_add) rfl rfl (by decide) (fun h => by cases h) (Nat.le_of_ble_eq_true rfl) rfl ?_
  refine x_iloadn (pc := 0) dX6_add_0 rfl ?_
  refine x_ilt (tgt := 20) (pc := 1) dX6_add_1 (by decide) (by omega) (fun c_1 => ?_) (fun c_1 => ?_)
  · skip
    exact absurd c_1 (by decide)
  refine x_iloadn (pc := 4) dX6_add_4 rfl ?_
  refine x_iconst (pc := 5) dX6_add_5 ?_
  refine x_cgt (tgt := 20) (pc := 6) dX6_add_6 (by decide) (by omega) (fun c_6 => ?_) (fun c_6 => ?_)
  · skip
    exact absurd c_6 (by decide)
  refine x_aloadn (pc := 9) dX6_add_9 rfl ?_
  refine x_getR (178) (pc := 10) dX6_add_10 fl_X6_16 k_174 (hM 174 (by decide) (by decide)) (f_174_1 hG) ?_
  refine x_iloadn (pc := 13) dX6_add_13 rfl ?_
  refine x_iald (1) (pc := 14) dX6_add_14 k_178 (hM 178 (by decide) (by decide)) (⟨rfl, by decide, by decide⟩) ?_
  rw [s0]
  refine x_bipush (pc := 15) dX6_add_15 (by decide) ?_
  refine x_clt (tgt := 21) (pc := 17) dX6_add_17 (by decide) (by omega) (fun c_17 => ?_) (fun c_17 => ?_)
  rotate_left
  · skip
    exact absurd c_17 (by omega)
  refine x_aloadn (pc := 21) dX6_add_21 rfl ?_
  refine x_getR (175) (pc := 22) dX6_add_22 fl_X6_13 k_174 (hM 174 (by decide) (by decide)) (f_174_0 hG) ?_
  refine x_iloadn (pc := 25) dX6_add_25 rfl ?_
  refine x_aald (177) (1) (pc := 26) dX6_add_26 k_175 (by decide) (hM 175 (by decide) (by decide)) (⟨rfl, by decide, by decide⟩) (f_175_1 hG) ?_
  refine x_aloadn (pc := 27) dX6_add_27 rfl ?_
  refine x_getR (178) (pc := 28) dX6_add_28 fl_X6_16 k_174 (hM 174 (by decide) (by decide)) (f_174_1 hG) ?_
  refine x_iloadn (pc := 31) dX6_add_31 rfl ?_
  refine x_iald (1) (pc := 32) dX6_add_32 k_178 (hM 178 (by decide) (by decide)) (⟨rfl, by decide, by decide⟩) ?_
  rw [s0]
  refine x_iloadn (pc := 33) dX6_add_33 rfl ?_
  refine x_iastH (B.length) (pc := 34) dX6_add_34 k_177 (hM 177 (by decide) (by decide)) (⟨by omega, by omega, by decide⟩) hF hG (fun hF hG => ?_)
  refine x_aloadn (pc := 35) dX6_add_35 rfl ?_
  refine x_getR (178) (pc := 36) dX6_add_36 fl_X6_16 k_174 (hM 174 (by decide) (by decide)) (f_174_1 hG) ?_
  refine x_iloadn (pc := 39) dX6_add_39 rfl ?_
  refine x_dup2 (pc := 40) dX6_add_40 (fun h => by cases h) (fun h => by cases h) ?_
  refine x_iald (1) (pc := 41) dX6_add_41 k_178 (hM 178 (by decide) (by decide)) (⟨rfl, by decide, by decide⟩) ?_
  rw [x_up_ne (by decide), s0]
  refine x_iconst (pc := 42) dX6_add_42 ?_
  refine x_iadd (pc := 43) dX6_add_43 ?_
  refine x_iastH (1) (pc := 44) dX6_add_44 k_178 (hM 178 (by decide) (by decide)) (⟨rfl, by decide, by decide⟩) hF hG (fun hF hG => ?_)
  refine x_rV (pc := 45) dX6_add_45 rfl ?_
  exact ⟨h.add1 (by decide) (by decide) (by decide) (by decide) (by decide), (FR.rf.up (by decide)).up (by decide), hF, hG⟩
theorem l_he_un0 {Q : x_Q} {V : Nat} {G : Nat → Nat → Int} (hL : x_SL L) (hM : x_GM L) (hF : x_Fin xFL G) (hG : x_Fin xGL G) (h : c_he A B t G) (hA : zb8 A) (hn : A.length ≤ 32)
    (cont : X mX6_unknowns 1 0 0 Q 60 [some (vR 174), some (vI V), some (vI 0), some (vI A.length)] [] L G 0 0) :
    ∀ (r i b : Nat), i + r = A.length → b < 16 → znf b (A.drop i) = V → X mX6_unknowns 1 0 0 Q 14 [some (vR 174), some (vI b), some (vI 0), some (vI i)] [] L G 0 0 := by
  have s0 := h.1
  intro r
  induction r with
  | zero =>
    intro i b hi hb hV
    have hi : i = A.length := by omega
    subst hi
    rw [List.drop_length] at hV
    have hV : b = V := hV
    subst hV
    refine x_iloadn (pc := 14) dX6_unknowns_14 rfl ?_
    refine x_aloadn (pc := 15) dX6_unknowns_15 rfl ?_
    refine x_getR (178) (pc := 16) dX6_unknowns_16 fl_X6_16 k_174 (hM 174 (by decide) (by decide)) (f_174_1 hG) ?_
    refine x_iloadn (pc := 19) dX6_unknowns_19 rfl ?_
    refine x_iald (0) (pc := 20) dX6_unknowns_20 k_178 (hM 178 (by decide) (by decide)) (⟨rfl, by decide, by decide⟩) ?_
    rw [s0]
    refine x_cge (tgt := 60) (pc := 21) dX6_unknowns_21 (by decide) (by omega) (fun c_21 => ?_) (fun c_21 => ?_)
    rotate_left
    · skip
      exact absurd c_21 (by omega)
    exact cont
  | succ r ih =>
    intro i b hi hb hV
    have hr := h.2.2.1 i (by omega)
    have hv := zb8_at hA (show i < A.length by omega)
    rw [zdr_at (show i < A.length by omega), znf] at hV
    obtain ⟨x, hx⟩ : ∃ x, x = A.getD i 0 := ⟨_, rfl⟩
    rw [← hx] at hr hv hV
    have hp2 : (1 : Int) * 2 ^ (x - 4) = ((2 ^ (x - 4) : Nat) : Int) := by simp
    have hp3 : 2 ^ (x - 4) < 2 ^ 4 := Nat.pow_lt_pow_right (by decide) (by omega)
    have hor := Nat.or_lt_two_pow (n := 4) hb hp3
    refine x_iloadn (pc := 14) dX6_unknowns_14 rfl ?_
    refine x_aloadn (pc := 15) dX6_unknowns_15 rfl ?_
    refine x_getR (178) (pc := 16) dX6_unknowns_16 fl_X6_16 k_174 (hM 174 (by decide) (by decide)) (f_174_1 hG) ?_
    refine x_iloadn (pc := 19) dX6_unknowns_19 rfl ?_
    refine x_iald (0) (pc := 20) dX6_unknowns_20 k_178 (hM 178 (by decide) (by decide)) (⟨rfl, by decide, by decide⟩) ?_
    rw [s0]
    refine x_cge (tgt := 60) (pc := 21) dX6_unknowns_21 (by decide) (by omega) (fun c_21 => ?_) (fun c_21 => ?_)
    · skip
      exact absurd c_21 (by omega)
    refine x_aloadn (pc := 24) dX6_unknowns_24 rfl ?_
    refine x_getR (175) (pc := 25) dX6_unknowns_25 fl_X6_13 k_174 (hM 174 (by decide) (by decide)) (f_174_0 hG) ?_
    refine x_iloadn (pc := 28) dX6_unknowns_28 rfl ?_
    refine x_aald (176) (0) (pc := 29) dX6_unknowns_29 k_175 (by decide) (hM 175 (by decide) (by decide)) (⟨rfl, by decide, by decide⟩) (f_175_0 hG) ?_
    refine x_iloadn (pc := 30) dX6_unknowns_30 rfl ?_
    refine x_iald (i) (pc := 31) dX6_unknowns_31 k_176 (hM 176 (by decide) (by decide)) (⟨by omega, by omega, by decide⟩) ?_
    rw [hr]
    refine x_cSNI (pc := 32) dX6_unknowns_32 lk_X6_54 (c_ts_isU (by omega)) (⟨by decide, by decide⟩) (Nat.le_of_ble_eq_true rfl) rfl ?_
    rintro x G' ⟨rfl, rfl⟩
    refine x_ieq (tgt := 54) (pc := 35) dX6_unknowns_35 (by decide) (by split <;> omega) (fun c_35 => ?_) (fun c_35 => ?_)
    · skip
      refine x_iinc (pc := 54) dX6_unknowns_54 rfl (by decide) rfl ?_
      refine x_goto (tgt := 14) (pc := 57) dX6_unknowns_57 (by decide) ?_
      first
      | exact ih (i + 1) b (by omega) hb (by rw [if_neg (by split at c_35 <;> omega)] at hV; exact hV)
      | exact ih (i + 1) _ (by omega) hor (by rw [if_pos (by omega)] at hV; exact hV)
    · skip
      refine x_iloadn (pc := 38) dX6_unknowns_38 rfl ?_
      refine x_iconst (pc := 39) dX6_unknowns_39 ?_
      refine x_aloadn (pc := 40) dX6_unknowns_40 rfl ?_
      refine x_getR (175) (pc := 41) dX6_unknowns_41 fl_X6_13 k_174 (hM 174 (by decide) (by decide)) (f_174_0 hG) ?_
      refine x_iloadn (pc := 44) dX6_unknowns_44 rfl ?_
      refine x_aald (176) (0) (pc := 45) dX6_unknowns_45 k_175 (by decide) (hM 175 (by decide) (by decide)) (⟨rfl, by decide, by decide⟩) (f_175_0 hG) ?_
      refine x_iloadn (pc := 46) dX6_unknowns_46 rfl ?_
      refine x_iald (i) (pc := 47) dX6_unknowns_47 k_176 (hM 176 (by decide) (by decide)) (⟨by omega, by omega, by decide⟩) ?_
      rw [hr]
      refine x_cSNI (pc := 48) dX6_unknowns_48 lk_X6_58 (c_ts_uOf) (⟨by decide, by decide⟩) (Nat.le_of_ble_eq_true rfl) rfl ?_
      rintro x G' ⟨rfl, rfl⟩
      have hx4 : 4 ≤ x := by split at c_35 <;> omega
      refine x_ishl (pc := 51) dX6_unknowns_51 (x - 4) (by omega) (by omega) ?_
      rw [hp2]
      refine x_iorN (pc := 52) dX6_unknowns_52 b (2 ^ (x - 4)) rfl rfl (by omega) ?_
      refine x_istoren (pc := 53) dX6_unknowns_53 rfl (by decide) rfl ?_
      refine x_iinc (pc := 54) dX6_unknowns_54 rfl (by decide) rfl ?_
      refine x_goto (tgt := 14) (pc := 57) dX6_unknowns_57 (by decide) ?_
      first
      | exact ih (i + 1) b (by omega) hb (by rw [if_neg (by split at c_35 <;> omega)] at hV; exact hV)
      | exact ih (i + 1) _ (by omega) hor (by rw [if_pos (by omega)] at hV; exact hV)
theorem l_he_un1 {Q : x_Q} {V : Nat} {G : Nat → Nat → Int} (hL : x_SL L) (hM : x_GM L) (hF : x_Fin xFL G) (hG : x_Fin xGL G) (h : c_he A B t G) (hB : zb8 B) (hn : B.length ≤ 32)
    (cont : X mX6_unknowns 1 0 0 Q 60 [some (vR 174), some (vI V), some (vI 1), some (vI B.length)] [] L G 0 0) :
    ∀ (r i b : Nat), i + r = B.length → b < 16 → znf b (B.drop i) = V → X mX6_unknowns 1 0 0 Q 14 [some (vR 174), some (vI b), some (vI 1), some (vI i)] [] L G 0 0 := by
  have s0 := h.2.1
  intro r
  induction r with
  | zero =>
    intro i b hi hb hV
    have hi : i = B.length := by omega
    subst hi
    rw [List.drop_length] at hV
    have hV : b = V := hV
    subst hV
    refine x_iloadn (pc := 14) dX6_unknowns_14 rfl ?_
    refine x_aloadn (pc := 15) dX6_unknowns_15 rfl ?_
    refine x_getR (178) (pc := 16) dX6_unknowns_16 fl_X6_16 k_174 (hM 174 (by decide) (by decide)) (f_174_1 hG) ?_
    refine x_iloadn (pc := 19) dX6_unknowns_19 rfl ?_
    refine x_iald (1) (pc := 20) dX6_unknowns_20 k_178 (hM 178 (by decide) (by decide)) (⟨rfl, by decide, by decide⟩) ?_
    rw [s0]
    refine x_cge (tgt := 60) (pc := 21) dX6_unknowns_21 (by decide) (by omega) (fun c_21 => ?_) (fun c_21 => ?_)
    rotate_left
    · skip
      exact absurd c_21 (by omega)
    exact cont
  | succ r ih =>
    intro i b hi hb hV
    have hr := h.2.2.2.1 i (by omega)
    have hv := zb8_at hB (show i < B.length by omega)
    rw [zdr_at (show i < B.length by omega), znf] at hV
    obtain ⟨x, hx⟩ : ∃ x, x = B.getD i 0 := ⟨_, rfl⟩
    rw [← hx] at hr hv hV
    have hp2 : (1 : Int) * 2 ^ (x - 4) = ((2 ^ (x - 4) : Nat) : Int) := by simp
    have hp3 : 2 ^ (x - 4) < 2 ^ 4 := Nat.pow_lt_pow_right (by decide) (by omega)
    have hor := Nat.or_lt_two_pow (n := 4) hb hp3
    refine x_iloadn (pc := 14) dX6_unknowns_14 rfl ?_
    refine x_aloadn (pc := 15) dX6_unknowns_15 rfl ?_
    refine x_getR (178) (pc := 16) dX6_unknowns_16 fl_X6_16 k_174 (hM 174 (by decide) (by decide)) (f_174_1 hG) ?_
    refine x_iloadn (pc := 19) dX6_unknowns_19 rfl ?_
    refine x_iald (1) (pc := 20) dX6_unknowns_20 k_178 (hM 178 (by decide) (by decide)) (⟨rfl, by decide, by decide⟩) ?_
    rw [s0]
    refine x_cge (tgt := 60) (pc := 21) dX6_unknowns_21 (by decide) (by omega) (fun c_21 => ?_) (fun c_21 => ?_)
    · skip
      exact absurd c_21 (by omega)
    refine x_aloadn (pc := 24) dX6_unknowns_24 rfl ?_
    refine x_getR (175) (pc := 25) dX6_unknowns_25 fl_X6_13 k_174 (hM 174 (by decide) (by decide)) (f_174_0 hG) ?_
    refine x_iloadn (pc := 28) dX6_unknowns_28 rfl ?_
    refine x_aald (177) (1) (pc := 29) dX6_unknowns_29 k_175 (by decide) (hM 175 (by decide) (by decide)) (⟨rfl, by decide, by decide⟩) (f_175_1 hG) ?_
    refine x_iloadn (pc := 30) dX6_unknowns_30 rfl ?_
    refine x_iald (i) (pc := 31) dX6_unknowns_31 k_177 (hM 177 (by decide) (by decide)) (⟨by omega, by omega, by decide⟩) ?_
    rw [hr]
    refine x_cSNI (pc := 32) dX6_unknowns_32 lk_X6_54 (c_ts_isU (by omega)) (⟨by decide, by decide⟩) (Nat.le_of_ble_eq_true rfl) rfl ?_
    rintro x G' ⟨rfl, rfl⟩
    refine x_ieq (tgt := 54) (pc := 35) dX6_unknowns_35 (by decide) (by split <;> omega) (fun c_35 => ?_) (fun c_35 => ?_)
    · skip
      refine x_iinc (pc := 54) dX6_unknowns_54 rfl (by decide) rfl ?_
      refine x_goto (tgt := 14) (pc := 57) dX6_unknowns_57 (by decide) ?_
      first
      | exact ih (i + 1) b (by omega) hb (by rw [if_neg (by split at c_35 <;> omega)] at hV; exact hV)
      | exact ih (i + 1) _ (by omega) hor (by rw [if_pos (by omega)] at hV; exact hV)
    · skip
      refine x_iloadn (pc := 38) dX6_unknowns_38 rfl ?_
      refine x_iconst (pc := 39) dX6_unknowns_39 ?_
      refine x_aloadn (pc := 40) dX6_unknowns_40 rfl ?_
      refine x_getR (175) (pc := 41) dX6_unknowns_41 fl_X6_13 k_174 (hM 174 (by decide) (by decide)) (f_174_0 hG) ?_
      refine x_iloadn (pc := 44) dX6_unknowns_44 rfl ?_
      refine x_aald (177) (1) (pc := 45) dX6_unknowns_45 k_175 (by decide) (hM 175 (by decide) (by decide)) (⟨rfl, by decide, by decide⟩) (f_175_1 hG) ?_
      refine x_iloadn (pc := 46) dX6_unknowns_46 rfl ?_
      refine x_iald (i) (pc := 47) dX6_unknowns_47 k_177 (hM 177 (by decide) (by decide)) (⟨by omega, by omega, by decide⟩) ?_
      rw [hr]
      refine x_cSNI (pc := 48) dX6_unknowns_48 lk_X6_58 (c_ts_uOf) (⟨by decide, by decide⟩) (Nat.le_of_ble_eq_true rfl) rfl ?_
      rintro x G' ⟨rfl, rfl⟩
      have hx4 : 4 ≤ x := by split at c_35 <;> omega
      refine x_ishl (pc := 51) dX6_unknowns_51 (x - 4) (by omega) (by omega) ?_
      rw [hp2]
      refine x_iorN (pc := 52) dX6_unknowns_52 b (2 ^ (x - 4)) rfl rfl (by omega) ?_
      refine x_istoren (pc := 53) dX6_unknowns_53 rfl (by decide) rfl ?_
      refine x_iinc (pc := 54) dX6_unknowns_54 rfl (by decide) rfl ?_
      refine x_goto (tgt := 14) (pc := 57) dX6_unknowns_57 (by decide) ?_
      first
      | exact ih (i + 1) b (by omega) hb (by rw [if_neg (by split at c_35 <;> omega)] at hV; exact hV)
      | exact ih (i + 1) _ (by omega) hor (by rw [if_pos (by omega)] at hV; exact hV)
theorem l_he_unE {V : Nat} {o3 : Option (Nat × Int)} {G : Nat → Nat → Int} :
    X mX6_unknowns 1 0 0 (qI L fun x G' => x = ((V : Nat) : Int) ∧ G' = G) 60 [some (vR 174), some (vI V), some (vI 1), o3] [] L G 0 0 := by
  refine x_iinc (pc := 60) dX6_unknowns_60 rfl (by decide) rfl ?_
  refine x_goto (tgt := 4) (pc := 63) dX6_unknowns_63 (by decide) ?_
  refine x_iloadn (pc := 4) dX6_unknowns_4 rfl ?_
  refine x_iconst (pc := 5) dX6_unknowns_5 ?_
  refine x_cge (tgt := 66) (pc := 6) dX6_unknowns_6 (by decide) (by omega) (fun c_6 => ?_) (fun c_6 => ?_)
  rotate_left
  · skip
    exact absurd c_6 (by decide)
  refine x_iloadn (pc := 66) dX6_unknowns_66 rfl ?_
  refine x_rI (pc := 67) dX6_unknowns_67 rfl ?_
  exact ⟨rfl, rfl⟩
theorem l_he_unM {V : Nat} {o3 : Option (Nat × Int)} {G : Nat → Nat → Int} (hL : x_SL L) (hM : x_GM L) (hF : x_Fin xFL G) (hG : x_Fin xGL G) (h : c_he A B t G) (hB : zb8 B) (hn : B.length ≤ 32) (ht : t ≤ B.length) (hV : V < 16) :
    X mX6_unknowns 1 0 0 (qI L fun x G' => x = ((znf V (B.drop t) : Nat) : Int) ∧ G' = G) 60 [some (vR 174), some (vI V), some (vI 0), o3] [] L G 0 0 := by
  have st := h.2.2.2.2
  refine x_iinc (pc := 60) dX6_unknowns_60 rfl (by decide) rfl ?_
  refine x_goto (tgt := 4) (pc := 63) dX6_unknowns_63 (by decide) ?_
  refine x_iloadn (pc := 4) dX6_unknowns_4 rfl ?_
  refine x_iconst (pc := 5) dX6_unknowns_5 ?_
  refine x_cge (tgt := 66) (pc := 6) dX6_unknowns_6 (by decide) (by omega) (fun c_6 => ?_) (fun c_6 => ?_)
  · skip
    exact absurd c_6 (by decide)
  refine x_aloadn (pc := 9) dX6_unknowns_9 rfl ?_
  refine x_getI (pc := 10) dX6_unknowns_10 fl_X6_20 k_174 (hM 174 (by decide) (by decide)) ?_
  rw [st]
  refine x_istoren (pc := 13) dX6_unknowns_13 rfl (by decide) rfl ?_
  exact l_he_un1 hL hM hF hG h hB hn l_he_unE (B.length - t) t V (by omega) hV rfl
theorem c_he_unknowns {G : Nat → Nat → Int} (hL : x_SL L) (hM : x_GM L) (hF : x_Fin xFL G) (hG : x_Fin xGL G) (h : c_he A B t G) (hA : zb8 A) (hB : zb8 B) (hn : A.length ≤ 32 ∧ B.length ≤ 32) (ht : t ≤ A.length ∧ t ≤ B.length) :
    CM yX6_unknowns mX6_unknowns 1 0 0 [vR 174] L G (qI L fun x G' => x = ((znm (A.drop t, B.drop t) : Nat) : Int) ∧ G' = G) := by
  have st := h.2.2.2.2
  have hv := znf_lt (A.drop t) 0 (fun x hx => (hA x (List.mem_of_mem_drop hx)).1) (by decide)
  refine Ct.of_X (μ := mX6_unknowns) rfl rfl (by decide) (fun h => by cases h) (Nat.le_of_ble_eq_true rfl) rfl ?_
  refine x_iconst (pc := 0) dX6_unknowns_0 ?_
  refine x_istoren (pc := 1) dX6_unknowns_1 rfl (by decide) rfl ?_
  refine x_iconst (pc := 2) dX6_unknowns_2 ?_
  refine x_istoren (pc := 3) dX6_unknowns_3 rfl (by decide) rfl ?_
  refine x_iloadn (pc := 4) dX6_unknowns_4 rfl ?_
  refine x_iconst (pc := 5) dX6_unknowns_5 ?_
  refine x_cge (tgt := 66) (pc := 6) dX6_unknowns_6 (by decide) (by omega) (fun c_6 => ?_) (fun c_6 => ?_)
  · skip
    exact absurd c_6 (by decide)
  refine x_aloadn (pc := 9) dX6_unknowns_9 rfl ?_
  refine x_getI (pc := 10) dX6_unknowns_10 fl_X6_20 k_174 (hM 174 (by decide) (by decide)) ?_
  rw [st]
  refine x_istoren (pc := 13) dX6_unknowns_13 rfl (by decide) rfl ?_
  exact l_he_un0 (V := znf 0 (A.drop t)) hL hM hF hG h hA hn.1 (l_he_unM hL hM hF hG h hB hn.2 ht.2 hv) (A.length - t) t 0 (by omega) (by decide) rfl
theorem c_th_begin {G : Nat → Nat → Int} (hL : x_SL L) (hM : x_GM L) (hF : x_Fin xFL G) (hG : x_Fin xGL G) :
    CM yX6_begin mX6_begin 0 0 0 [vR 179] L G (qV L fun G' => c_th [] [] 0 G' ∧ FR z_thS G G' ∧ x_Fin xFL G' ∧ x_Fin xGL G') := by
  refine Ct.of_X (μ := mX6_begin) rfl rfl (by decide) (fun h => by cases h) (Nat.le_of_ble_eq_true rfl) rfl ?_
  refine x_aloadn (pc := 0) dX6_begin_0 rfl ?_
  refine x_getR (183) (pc := 1) dX6_begin_1 fl_X6_16 k_179 (hM 179 (by decide) (by decide)) (f_179_1 hG) ?_
  refine x_iconst (pc := 4) dX6_begin_4 ?_
  refine x_iconst (pc := 5) dX6_begin_5 ?_
  refine x_iastH 0 (pc := 6) dX6_begin_6 k_183 (hM 183 (by decide) (by decide)) (by decide) hF hG (fun hF hG => ?_)
  refine x_aloadn (pc := 7) dX6_begin_7 rfl ?_
  refine x_getR (183) (pc := 8) dX6_begin_8 fl_X6_16 k_179 (hM 179 (by decide) (by decide)) (f_179_1 hG) ?_
  refine x_iconst (pc := 11) dX6_begin_11 ?_
  refine x_iconst (pc := 12) dX6_begin_12 ?_
  refine x_iastH 1 (pc := 13) dX6_begin_13 k_183 (hM 183 (by decide) (by decide)) (by decide) hF hG (fun hF hG => ?_)
  refine x_aloadn (pc := 14) dX6_begin_14 rfl ?_
  refine x_iconst (pc := 15) dX6_begin_15 ?_
  refine x_putIH (pc := 16) dX6_begin_16 fp_X6_20 k_179 (hM 179 (by decide) (by decide)) hF hG (fun hF hG => ?_)
  refine x_rV (pc := 19) dX6_begin_19 rfl ?_
  refine ⟨⟨by rw [x_up_ne (by decide), x_up_k (by decide), x_up_s]; rfl, by rw [x_up_ne (by decide), x_up_s]; rfl, fun i hi => absurd hi (Nat.not_lt_zero i), fun i hi => absurd hi (Nat.not_lt_zero i), by rw [x_up_s]; rfl⟩, ((FR.rf.up (by decide)).up (by decide)).up (by decide), hF, hG⟩
theorem c_th_add0 {x : Nat} {G : Nat → Nat → Int} (hL : x_SL L) (hM : x_GM L) (hF : x_Fin xFL G) (hG : x_Fin xGL G) (h : c_th A B t G) (hA : A.length < 32) :
    CM yX6_add mX6_add 0 0 0 [vR 179, vI 0, vI x] L G (qV L fun G' => c_th (A ++ [x]) B t G' ∧ FR z_thS G G' ∧ x_Fin xFL G' ∧ x_Fin xGL G') := by
  have s0 := h.1
  refine Ct.of_X (μ := mX6_add) rfl rfl (by decide) (fun h => by cases h) (Nat.le_of_ble_eq_true rfl) rfl ?_
  refine x_iloadn (pc := 0) dX6_add_0 rfl ?_
  refine x_ilt (tgt := 20) (pc := 1) dX6_add_1 (by decide) (by omega) (fun c_1 => ?_) (fun c_1 => ?_)
  · skip
    exact absurd c_1 (by decide)
  refine x_iloadn (pc := 4) dX6_add_4 rfl ?_
  refine x_iconst (pc := 5) dX6_add_5 ?_
  refine x_cgt (tgt := 20) (pc := 6) dX6_add_6 (by decide) (by omega) (fun c_6 => ?_) (fun c_6 => ?_)
  · skip
    exact absurd c_6 (by decide)
  refine x_aloadn (pc := 9) dX6_add_9 rfl ?_
  refine x_getR (183) (pc := 10) dX6_add_10 fl_X6_16 k_179 (hM 179 (by decide) (by decide)) (f_179_1 hG) ?_
  refine x_iloadn (pc := 13) dX6_add_13 rfl ?_
  refine x_iald (0) (pc := 14) dX6_add_14 k_183 (hM 183 (by decide) (by decide)) (⟨rfl, by decide, by decide⟩) ?_
  rw [s0]
  refine x_bipush (pc := 15) dX6_add_15 (by decide) ?_
  refine x_clt (tgt := 21) (pc := 17) dX6_add_17 (by decide) (by omega) (fun c_17 => ?_) (fun c_17 => ?_)
  rotate_left
  · skip
    exact absurd c_17 (by omega)
  refine x_aloadn (pc := 21) dX6_add_21 rfl ?_
  refine x_getR (180) (pc := 22) dX6_add_22 fl_X6_13 k_179 (hM 179 (by decide) (by decide)) (f_179_0 hG) ?_
  refine x_iloadn (pc := 25) dX6_add_25 rfl ?_
  refine x_aald (181) (0) (pc := 26) dX6_add_26 k_180 (by decide) (hM 180 (by decide) (by decide)) (⟨rfl, by decide, by decide⟩) (f_180_0 hG) ?_
  refine x_aloadn (pc := 27) dX6_add_27 rfl ?_
  refine x_getR (183) (pc := 28) dX6_add_28 fl_X6_16 k_179 (hM 179 (by decide) (by decide)) (f_179_1 hG) ?_
  refine x_iloadn (pc := 31) dX6_add_31 rfl ?_
  refine x_iald (0) (pc := 32) dX6_add_32 k_183 (hM 183 (by decide) (by decide)) (⟨rfl, by decide, by decide⟩) ?_
  rw [s0]
  refine x_iloadn (pc := 33) dX6_add_33 rfl ?_
  refine x_iastH (A.length) (pc := 34) dX6_add_34 k_181 (hM 181 (by decide) (by decide)) (⟨by omega, by omega, by decide⟩) hF hG (fun hF hG => ?_)
  refine x_aloadn (pc := 35) dX6_add_35 rfl ?_
  refine x_getR (183) (pc := 36) dX6_add_36 fl_X6_16 k_179 (hM 179 (by decide) (by decide)) (f_179_1 hG) ?_
  refine x_iloadn (pc := 39) dX6_add_39 rfl ?_
  refine x_dup2 (pc := 40) dX6_add_40 (fun h => by cases h) (fun h => by cases h) ?_
  refine x_iald (0) (pc := 41) dX6_add_41 k_183 (hM 183 (by decide) (by decide)) (⟨rfl, by decide, by decide⟩) ?_
  rw [x_up_ne (by decide), s0]
  refine x_iconst (pc := 42) dX6_add_42 ?_
  refine x_iadd (pc := 43) dX6_add_43 ?_
  refine x_iastH (0) (pc := 44) dX6_add_44 k_183 (hM 183 (by decide) (by decide)) (⟨rfl, by decide, by decide⟩) hF hG (fun hF hG => ?_)
  refine x_rV (pc := 45) dX6_add_45 rfl ?_
  exact ⟨h.add0 (by decide) (by decide) (by decide) (by decide) (by decide), (FR.rf.up (by decide)).up (by decide), hF, hG⟩
theorem c_th_add1 {x : Nat} {G : Nat → Nat → Int} (hL : x_SL L) (hM : x_GM L) (hF : x_Fin xFL G) (hG : x_Fin xGL G) (h : c_th A B t G) (hB : B.length < 32) :
    CM yX6_add mX6_add 0 0 0 [vR 179, vI 1, vI x] L G (qV L fun G' => c_th A (B ++ [x]) t G' ∧ FR z_thS G G' ∧ x_Fin xFL G' ∧ x_Fin xGL G') := by
  have s0 := h.2.1
  refine Ct.of_X (μ := mX6_add) rfl rfl (by decide) (fun h => by cases h) (Nat.le_of_ble_eq_true rfl) rfl ?_
  refine x_iloadn (pc := 0) dX6_add_0 rfl ?_
  refine x_ilt (tgt := 20) (pc := 1) dX6_add_1 (by decide) (by omega) (fun c_1 => ?_) (fun c_1 => ?_)
  · skip
    exact absurd c_1 (by decide)
  refine x_iloadn (pc := 4) dX6_add_4 rfl ?_
  refine x_iconst (pc := 5) dX6_add_5 ?_
  refine x_cgt (tgt := 20) (pc := 6) dX6_add_6 (by decide) (by omega) (fun c_6 => ?_) (fun c_6 => ?_)
  · skip
    exact absurd c_6 (by decide)
  refine x_aloadn (pc := 9) dX6_add_9 rfl ?_
  refine x_getR (183) (pc := 10) dX6_add_10 fl_X6_16 k_179 (hM 179 (by decide) (by decide)) (f_179_1 hG) ?_
  refine x_iloadn (pc := 13) dX6_add_13 rfl ?_
  refine x_iald (1) (pc := 14) dX6_add_14 k_183 (hM 183 (by decide) (by decide)) (⟨rfl, by decide, by decide⟩) ?_
  rw [s0]
  refine x_bipush (pc := 15) dX6_add_15 (by decide) ?_
  refine x_clt (tgt := 21) (pc := 17) dX6_add_17 (by decide) (by omega) (fun c_17 => ?_) (fun c_17 => ?_)
  rotate_left
  · skip
    exact absurd c_17 (by omega)
  refine x_aloadn (pc := 21) dX6_add_21 rfl ?_
  refine x_getR (180) (pc := 22) dX6_add_22 fl_X6_13 k_179 (hM 179 (by decide) (by decide)) (f_179_0 hG) ?_
  refine x_iloadn (pc := 25) dX6_add_25 rfl ?_
  refine x_aald (182) (1) (pc := 26) dX6_add_26 k_180 (by decide) (hM 180 (by decide) (by decide)) (⟨rfl, by decide, by decide⟩) (f_180_1 hG) ?_
  refine x_aloadn (pc := 27) dX6_add_27 rfl ?_
  refine x_getR (183) (pc := 28) dX6_add_28 fl_X6_16 k_179 (hM 179 (by decide) (by decide)) (f_179_1 hG) ?_
  refine x_iloadn (pc := 31) dX6_add_31 rfl ?_
  refine x_iald (1) (pc := 32) dX6_add_32 k_183 (hM 183 (by decide) (by decide)) (⟨rfl, by decide, by decide⟩) ?_
  rw [s0]
  refine x_iloadn (pc := 33) dX6_add_33 rfl ?_
  refine x_iastH (B.length) (pc := 34) dX6_add_34 k_182 (hM 182 (by decide) (by decide)) (⟨by omega, by omega, by decide⟩) hF hG (fun hF hG => ?_)
  refine x_aloadn (pc := 35) dX6_add_35 rfl ?_
  refine x_getR (183) (pc := 36) dX6_add_36 fl_X6_16 k_179 (hM 179 (by decide) (by decide)) (f_179_1 hG) ?_
  refine x_iloadn (pc := 39) dX6_add_39 rfl ?_
  refine x_dup2 (pc := 40) dX6_add_40 (fun h => by cases h) (fun h => by cases h) ?_
  refine x_iald (1) (pc := 41) dX6_add_41 k_183 (hM 183 (by decide) (by decide)) (⟨rfl, by decide, by decide⟩) ?_
  rw [x_up_ne (by decide), s0]
  refine x_iconst (pc := 42) dX6_add_42 ?_
  refine x_iadd (pc := 43) dX6_add_43 ?_
  refine x_iastH (1) (pc := 44) dX6_add_44 k_183 (hM 183 (by decide) (by decide)) (⟨rfl, by decide, by decide⟩) hF hG (fun hF hG => ?_)
  refine x_rV (pc := 45) dX6_add_45 rfl ?_
  exact ⟨h.add1 (by decide) (by decide) (by decide) (by decide) (by decide), (FR.rf.up (by decide)).up (by decide), hF, hG⟩
theorem l_th_un0 {Q : x_Q} {V : Nat} {G : Nat → Nat → Int} (hL : x_SL L) (hM : x_GM L) (hF : x_Fin xFL G) (hG : x_Fin xGL G) (h : c_th A B t G) (hA : zb8 A) (hn : A.length ≤ 32)
    (cont : X mX6_unknowns 1 0 0 Q 60 [some (vR 179), some (vI V), some (vI 0), some (vI A.length)] [] L G 0 0) :
    ∀ (r i b : Nat), i + r = A.length → b < 16 → znf b (A.drop i) = V → X mX6_unknowns 1 0 0 Q 14 [some (vR 179), some (vI b), some (vI 0), some (vI i)] [] L G 0 0 := by
  have s0 := h.1
  intro r
  induction r with
  | zero =>
    intro i b hi hb hV
    have hi : i = A.length := by omega
    subst hi
    rw [List.drop_length] at hV
    have hV : b = V := hV
    subst hV
    refine x_iloadn (pc := 14) dX6_unknowns_14 rfl ?_
    refine x_aloadn (pc := 15) dX6_unknowns_15 rfl ?_
    refine x_getR (183) (pc := 16) dX6_unknowns_16 fl_X6_16 k_179 (hM 179 (by decide) (by decide)) (f_179_1 hG) ?_
    refine x_iloadn (pc := 19) dX6_unknowns_19 rfl ?_
    refine x_iald (0) (pc := 20) dX6_unknowns_20 k_183 (hM 183 (by decide) (by decide)) (⟨rfl, by decide, by decide⟩) ?_
    rw [s0]
    refine x_cge (tgt := 60) (pc := 21) dX6_unknowns_21 (by decide) (by omega) (fun c_21 => ?_) (fun c_21 => ?_)
    rotate_left
    · skip
      exact absurd c_21 (by omega)
    exact cont
  | succ r ih =>
    intro i b hi hb hV
    have hr := h.2.2.1 i (by omega)
    have hv := zb8_at hA (show i < A.length by omega)
    rw [zdr_at (show i < A.length by omega), znf] at hV
    obtain ⟨x, hx⟩ : ∃ x, x = A.getD i 0 := ⟨_, rfl⟩
    rw [← hx] at hr hv hV
    have hp2 : (1 : Int) * 2 ^ (x - 4) = ((2 ^ (x - 4) : Nat) : Int) := by simp
    have hp3 : 2 ^ (x - 4) < 2 ^ 4 := Nat.pow_lt_pow_right (by decide) (by omega)
    have hor := Nat.or_lt_two_pow (n := 4) hb hp3
    refine x_iloadn (pc := 14) dX6_unknowns_14 rfl ?_
    refine x_aloadn (pc := 15) dX6_unknowns_15 rfl ?_
    refine x_getR (183) (pc := 16) dX6_unknowns_16 fl_X6_16 k_179 (hM 179 (by decide) (by decide)) (f_179_1 hG) ?_
    refine x_iloadn (pc := 19) dX6_unknowns_19 rfl ?_
    refine x_iald (0) (pc := 20) dX6_unknowns_20 k_183 (hM 183 (by decide) (by decide)) (⟨rfl, by decide, by decide⟩) ?_
    rw [s0]
    refine x_cge (tgt := 60) (pc := 21) dX6_unknowns_21 (by decide) (by omega) (fun c_21 => ?_) (fun c_21 => ?_)
    · skip
      exact absurd c_21 (by omega)
    refine x_aloadn (pc := 24) dX6_unknowns_24 rfl ?_
    refine x_getR (180) (pc := 25) dX6_unknowns_25 fl_X6_13 k_179 (hM 179 (by decide) (by decide)) (f_179_0 hG) ?_
    refine x_iloadn (pc := 28) dX6_unknowns_28 rfl ?_
    refine x_aald (181) (0) (pc := 29) dX6_unknowns_29 k_180 (by decide) (hM 180 (by decide) (by decide)) (⟨rfl, by decide, by decide⟩) (f_180_0 hG) ?_
    refine x_iloadn (pc := 30) dX6_unknowns_30 rfl ?_
    refine x_iald (i) (pc := 31) dX6_unknowns_31 k_181 (hM 181 (by decide) (by decide)) (⟨by omega, by omega, by decide⟩) ?_
    rw [hr]
    refine x_cSNI (pc := 32) dX6_unknowns_32 lk_X6_54 (c_ts_isU (by omega)) (⟨by decide, by decide⟩) (Nat.le_of_ble_eq_true rfl) rfl ?_
    rintro x G' ⟨rfl, rfl⟩
    refine x_ieq (tgt := 54) (pc := 35) dX6_unknowns_35 (by decide) (by split <;> omega) (fun c_35 => ?_) (fun c_35 => ?_)
    · skip
      refine x_iinc (pc := 54) dX6_unknowns_54 rfl (by decide) rfl ?_
      refine x_goto (tgt := 14) (pc := 57) dX6_unknowns_57 (by decide) ?_
      first
      | exact ih (i + 1) b (by omega) hb (by rw [if_neg (by split at c_35 <;> omega)] at hV; exact hV)
      | exact ih (i + 1) _ (by omega) hor (by rw [if_pos (by omega)] at hV; exact hV)
    · skip
      refine x_iloadn (pc := 38) dX6_unknowns_38 rfl ?_
      refine x_iconst (pc := 39) dX6_unknowns_39 ?_
      refine x_aloadn (pc := 40) dX6_unknowns_40 rfl ?_
      refine x_getR (180) (pc := 41) dX6_unknowns_41 fl_X6_13 k_179 (hM 179 (by decide) (by decide)) (f_179_0 hG) ?_
      refine x_iloadn (pc := 44) dX6_unknowns_44 rfl ?_
      refine x_aald (181) (0) (pc := 45) dX6_unknowns_45 k_180 (by decide) (hM 180 (by decide) (by decide)) (⟨rfl, by decide, by decide⟩) (f_180_0 hG) ?_
      refine x_iloadn (pc := 46) dX6_unknowns_46 rfl ?_
      refine x_iald (i) (pc := 47) dX6_unknowns_47 k_181 (hM 181 (by decide) (by decide)) (⟨by omega, by omega, by decide⟩) ?_
      rw [hr]
      refine x_cSNI (pc := 48) dX6_unknowns_48 lk_X6_58 (c_ts_uOf) (⟨by decide, by decide⟩) (Nat.le_of_ble_eq_true rfl) rfl ?_
      rintro x G' ⟨rfl, rfl⟩
      have hx4 : 4 ≤ x := by split at c_35 <;> omega
      refine x_ishl (pc := 51) dX6_unknowns_51 (x - 4) (by omega) (by omega) ?_
      rw [hp2]
      refine x_iorN (pc := 52) dX6_unknowns_52 b (2 ^ (x - 4)) rfl rfl (by omega) ?_
      refine x_istoren (pc := 53) dX6_unknowns_53 rfl (by decide) rfl ?_
      refine x_iinc (pc := 54) dX6_unknowns_54 rfl (by decide) rfl ?_
      refine x_goto (tgt := 14) (pc := 57) dX6_unknowns_57 (by decide) ?_
      first
      | exact ih (i + 1) b (by omega) hb (by rw [if_neg (by split at c_35 <;> omega)] at hV; exact hV)
      | exact ih (i + 1) _ (by omega) hor (by rw [if_pos (by omega)] at hV; exact hV)
theorem l_th_un1 {Q : x_Q} {V : Nat} {G : Nat → Nat → Int} (hL : x_SL L) (hM : x_GM L) (hF : x_Fin xFL G) (hG : x_Fin xGL G) (h : c_th A B t G) (hB : zb8 B) (hn : B.length ≤ 32)
    (cont : X mX6_unknowns 1 0 0 Q 60 [some (vR 179), some (vI V), some (vI 1), some (vI B.length)] [] L G 0 0) :
    ∀ (r i b : Nat), i + r = B.length → b < 16 → znf b (B.drop i) = V → X mX6_unknowns 1 0 0 Q 14 [some (vR 179), some (vI b), some (vI 1), some (vI i)] [] L G 0 0 := by
  have s0 := h.2.1
  intro r
  induction r with
  | zero =>
    intro i b hi hb hV
    have hi : i = B.length := by omega
    subst hi
    rw [List.drop_length] at hV
    have hV : b = V := hV
    subst hV
    refine x_iloadn (pc := 14) dX6_unknowns_14 rfl ?_
    refine x_aloadn (pc := 15) dX6_unknowns_15 rfl ?_
    refine x_getR (183) (pc := 16) dX6_unknowns_16 fl_X6_16 k_179 (hM 179 (by decide) (by decide)) (f_179_1 hG) ?_
    refine x_iloadn (pc := 19) dX6_unknowns_19 rfl ?_
    refine x_iald (1) (pc := 20) dX6_unknowns_20 k_183 (hM 183 (by decide) (by decide)) (⟨rfl, by decide, by decide⟩) ?_
    rw [s0]
    refine x_cge (tgt := 60) (pc := 21) dX6_unknowns_21 (by decide) (by omega) (fun c_21 => ?_) (fun c_21 => ?_)
    rotate_left
    · skip
      exact absurd c_21 (by omega)
    exact cont
  | succ r ih =>
    intro i b hi hb hV
    have hr := h.2.2.2.1 i (by omega)
    have hv := zb8_at hB (show i < B.length by omega)
    rw [zdr_at (show i < B.length by omega), znf] at hV
    obtain ⟨x, hx⟩ : ∃ x, x = B.getD i 0 := ⟨_, rfl⟩
    rw [← hx] at hr hv hV
    have hp2 : (1 : Int) * 2 ^ (x - 4) = ((2 ^ (x - 4) : Nat) : Int) := by simp
    have hp3 : 2 ^ (x - 4) < 2 ^ 4 := Nat.pow_lt_pow_right (by decide) (by omega)
    have hor := Nat.or_lt_two_pow (n := 4) hb hp3
    refine x_iloadn (pc := 14) dX6_unknowns_14 rfl ?_
    refine x_aloadn (pc := 15) dX6_unknowns_15 rfl ?_
    refine x_getR (183) (pc := 16) dX6_unknowns_16 fl_X6_16 k_179 (hM 179 (by decide) (by decide)) (f_179_1 hG) ?_
    refine x_iloadn (pc := 19) dX6_unknowns_19 rfl ?_
    refine x_iald (1) (pc := 20) dX6_unknowns_20 k_183 (hM 183 (by decide) (by decide)) (⟨rfl, by decide, by decide⟩) ?_
    rw [s0]
    refine x_cge (tgt := 60) (pc := 21) dX6_unknowns_21 (by decide) (by omega) (fun c_21 => ?_) (fun c_21 => ?_)
    · skip
      exact absurd c_21 (by omega)
    refine x_aloadn (pc := 24) dX6_unknowns_24 rfl ?_
    refine x_getR (180) (pc := 25) dX6_unknowns_25 fl_X6_13 k_179 (hM 179 (by decide) (by decide)) (f_179_0 hG) ?_
    refine x_iloadn (pc := 28) dX6_unknowns_28 rfl ?_
    refine x_aald (182) (1) (pc := 29) dX6_unknowns_29 k_180 (by decide) (hM 180 (by decide) (by decide)) (⟨rfl, by decide, by decide⟩) (f_180_1 hG) ?_
    refine x_iloadn (pc := 30) dX6_unknowns_30 rfl ?_
    refine x_iald (i) (pc := 31) dX6_unknowns_31 k_182 (hM 182 (by decide) (by decide)) (⟨by omega, by omega, by decide⟩) ?_
    rw [hr]
    refine x_cSNI (pc := 32) dX6_unknowns_32 lk_X6_54 (c_ts_isU (by omega)) (⟨by decide, by decide⟩) (Nat.le_of_ble_eq_true rfl) rfl ?_
    rintro x G' ⟨rfl, rfl⟩
    refine x_ieq (tgt := 54) (pc := 35) dX6_unknowns_35 (by decide) (by split <;> omega) (fun c_35 => ?_) (fun c_35 => ?_)
    · skip
      refine x_iinc (pc := 54) dX6_unknowns_54 rfl (by decide) rfl ?_
      refine x_goto (tgt := 14) (pc := 57) dX6_unknowns_57 (by decide) ?_
      first
      | exact ih (i + 1) b (by omega) hb (by rw [if_neg (by split at c_35 <;> omega)] at hV; exact hV)
      | exact ih (i + 1) _ (by omega) hor (by rw [if_pos (by omega)] at hV; exact hV)
    · skip
      refine x_iloadn (pc := 38) dX6_unknowns_38 rfl ?_
      refine x_iconst (pc := 39) dX6_unknowns_39 ?_
      refine x_aloadn (pc := 40) dX6_unknowns_40 rfl ?_
      refine x_getR (180) (pc := 41) dX6_unknowns_41 fl_X6_13 k_179 (hM 179 (by decide) (by decide)) (f_179_0 hG) ?_
      refine x_iloadn (pc := 44) dX6_unknowns_44 rfl ?_
      refine x_aald (182) (1) (pc := 45) dX6_unknowns_45 k_180 (by decide) (hM 180 (by decide) (by decide)) (⟨rfl, by decide, by decide⟩) (f_180_1 hG) ?_
      refine x_iloadn (pc := 46) dX6_unknowns_46 rfl ?_
      refine x_iald (i) (pc := 47) dX6_unknowns_47 k_182 (hM 182 (by decide) (by decide)) (⟨by omega, by omega, by decide⟩) ?_
      rw [hr]
      refine x_cSNI (pc := 48) dX6_unknowns_48 lk_X6_58 (c_ts_uOf) (⟨by decide, by decide⟩) (Nat.le_of_ble_eq_true rfl) rfl ?_
      rintro x G' ⟨rfl, rfl⟩
      have hx4 : 4 ≤ x := by split at c_35 <;> omega
      refine x_ishl (pc := 51) dX6_unknowns_51 (x - 4) (by omega) (by omega) ?_
      rw [hp2]
      refine x_iorN (pc := 52) dX6_unknowns_52 b (2 ^ (x - 4)) rfl rfl (by omega) ?_
      refine x_istoren (pc := 53) dX6_unknowns_53 rfl (by decide) rfl ?_
      refine x_iinc (pc := 54) dX6_unknowns_54 rfl (by decide) rfl ?_
      refine x_goto (tgt := 14) (pc := 57) dX6_unknowns_57 (by decide) ?_
      first
      | exact ih (i + 1) b (by omega) hb (by rw [if_neg (by split at c_35 <;> omega)] at hV; exact hV)
      | exact ih (i + 1) _ (by omega) hor (by rw [if_pos (by omega)] at hV; exact hV)
theorem l_th_unE {V : Nat} {o3 : Option (Nat × Int)} {G : Nat → Nat → Int} :
    X mX6_unknowns 1 0 0 (qI L fun x G' => x = ((V : Nat) : Int) ∧ G' = G) 60 [some (vR 179), some (vI V), some (vI 1), o3] [] L G 0 0 := by
  refine x_iinc (pc := 60) dX6_unknowns_60 rfl (by decide) rfl ?_
  refine x_goto (tgt := 4) (pc := 63) dX6_unknowns_63 (by decide) ?_
  refine x_iloadn (pc := 4) dX6_unknowns_4 rfl ?_
  refine x_iconst (pc := 5) dX6_unknowns_5 ?_
  refine x_cge (tgt := 66) (pc := 6) dX6_unknowns_6 (by decide) (by omega) (fun c_6 => ?_) (fun c_6 => ?_)
  rotate_left
  · skip
    exact absurd c_6 (by decide)
  refine x_iloadn (pc := 66) dX6_unknowns_66 rfl ?_
  refine x_rI (pc := 67) dX6_unknowns_67 rfl ?_
  exact ⟨rfl, rfl⟩
theorem l_th_unM {V : Nat} {o3 : Option (Nat × Int)} {G : Nat → Nat → Int} (hL : x_SL L) (hM : x_GM L) (hF : x_Fin xFL G) (hG : x_Fin xGL G) (h : c_th A B t G) (hB : zb8 B) (hn : B.length ≤ 32) (ht : t ≤ B.length) (hV : V < 16) :
    X mX6_unknowns 1 0 0 (qI L fun x G' => x = ((znf V (B.drop t) : Nat) : Int) ∧ G' = G) 60 [some (vR 179), some (vI V), some (vI 0), o3] [] L G 0 0 := by
  have st := h.2.2.2.2
  refine x_iinc (pc := 60) dX6_unknowns_60 rfl (by decide) rfl ?_
  refine x_goto (tgt := 4) (pc := 63) dX6_unknowns_63 (by decide) ?_
  refine x_iloadn (pc := 4) dX6_unknowns_4 rfl ?_
  refine x_iconst (pc := 5) dX6_unknowns_5 ?_
  refine x_cge (tgt := 66) (pc := 6) dX6_unknowns_6 (by decide) (by omega) (fun c_6 => ?_) (fun c_6 => ?_)
  · skip
    exact absurd c_6 (by decide)
  refine x_aloadn (pc := 9) dX6_unknowns_9 rfl ?_
  refine x_getI (pc := 10) dX6_unknowns_10 fl_X6_20 k_179 (hM 179 (by decide) (by decide)) ?_
  rw [st]
  refine x_istoren (pc := 13) dX6_unknowns_13 rfl (by decide) rfl ?_
  exact l_th_un1 hL hM hF hG h hB hn l_th_unE (B.length - t) t V (by omega) hV rfl
theorem c_th_unknowns {G : Nat → Nat → Int} (hL : x_SL L) (hM : x_GM L) (hF : x_Fin xFL G) (hG : x_Fin xGL G) (h : c_th A B t G) (hA : zb8 A) (hB : zb8 B) (hn : A.length ≤ 32 ∧ B.length ≤ 32) (ht : t ≤ A.length ∧ t ≤ B.length) :
    CM yX6_unknowns mX6_unknowns 1 0 0 [vR 179] L G (qI L fun x G' => x = ((znm (A.drop t, B.drop t) : Nat) : Int) ∧ G' = G) := by
  have st := h.2.2.2.2
  have hv := znf_lt (A.drop t) 0 (fun x hx => (hA x (List.mem_of_mem_drop hx)).1) (by decide)
  refine Ct.of_X (μ := mX6_unknowns) rfl rfl (by decide) (fun h => by cases h) (Nat.le_of_ble_eq_true rfl) rfl ?_
  refine x_iconst (pc := 0) dX6_unknowns_0 ?_
  refine x_istoren (pc := 1) dX6_unknowns_1 rfl (by decide) rfl ?_
  refine x_iconst (pc := 2) dX6_unknowns_2 ?_
  refine x_istoren (pc := 3) dX6_unknowns_3 rfl (by decide) rfl ?_
  refine x_iloadn (pc := 4) dX6_unknowns_4 rfl ?_
  refine x_iconst (pc := 5) dX6_unknowns_5 ?_
  refine x_cge (tgt := 66) (pc := 6) dX6_unknowns_6 (by decide) (by omega) (fun c_6 => ?_) (fun c_6 => ?_)
  · skip
    exact absurd c_6 (by decide)
  refine x_aloadn (pc := 9) dX6_unknowns_9 rfl ?_
  refine x_getI (pc := 10) dX6_unknowns_10 fl_X6_20 k_179 (hM 179 (by decide) (by decide)) ?_
  rw [st]
  refine x_istoren (pc := 13) dX6_unknowns_13 rfl (by decide) rfl ?_
  exact l_th_un0 (V := znf 0 (A.drop t)) hL hM hF hG h hA hn.1 (l_th_unM hL hM hF hG h hB hn.2 ht.2 hv) (A.length - t) t 0 (by omega) (by decide) rfl
end XPC

