/-! classes of places: the reference -/
def zsm (c : Nat → Nat) : Nat → Nat
  | 0 => 0
  | k + 1 => zsm c k + c k
theorem zsm_up {c : Nat → Nat} {k v : Nat} (hv : v < c k) : ∀ n, (n ≤ k → zsm (zup c k v) n = zsm c n) ∧ (k < n → zsm (zup c k v) n < zsm c n)
  | 0 => ⟨fun _ => rfl, fun h => absurd h (Nat.not_lt_zero k)⟩
  | n + 1 => by
    have ih := zsm_up hv n
    rw [zsm, zsm]
    by_cases e : n = k
    · subst e
      rw [zup_s]
      have := ih.1 (Nat.le_refl _)
      exact ⟨fun h => by omega, fun _ => by omega⟩
    · rw [zup_n e]
      exact ⟨fun h => by have := ih.1 (by omega); omega, fun h => by have := ih.2 (by omega); omega⟩
def mCl (n : Nat) (E : Nat → Nat → Prop) (c : Nat → Nat) (G : Nat → Nat → Int) : Prop := ∀ i, i < n → G 162 i = c i ∧ c i ≤ i ∧ zQ E i (c i)
def zRn (n : Nat) (c0 c : Nat → Nat) (F : Int) (D : Prop) : Prop := (F = 1 ∧ zsm c n < zsm c0 n) ∨ (F = 0 ∧ c = c0 ∧ D)
theorem c_mo_lower {n k : Nat} {b : Int} {c : Nat → Nat} {E : Nat → Nat → Prop} {L : List Nat} {G : Nat → Nat → Int} (hL : x_SL L) (hF : x_Fin xFL G) (hn : n ≤ 60) (hC : mCl n E c G) (hk : k < n) (hb : -100 ≤ b ∧ b < n) (hE : 0 ≤ b → zQ E k b.toNat) :
    CM yX12_lower mX12_lower 0 0 0 [vR 127, vI k, vI b] L G (qI L fun x G' => x_Fin xFL G' ∧ FM [162] [] G G' ∧ ((x = 0 ∧ mCl n E c G' ∧ (0 ≤ b → c k ≤ c b.toNat)) ∨ (x = 1 ∧ c b.toNat < c k ∧ mCl n E (zup c k (c b.toNat)) G'))) := by
  have ck := hC k hk
  refine Ct.of_X (μ := mX12_lower) rfl rfl (by decide) (fun h => by cases h) (Nat.le_of_ble_eq_true rfl) rfl ?_
  by_cases hb0 : 0 ≤ b
  · have cb := hC b.toNat (by omega)
    refine x_iloadn (pc := 0) dX12_lower_0 rfl ?_
    refine x_ilt (tgt := 19) (pc := 1) dX12_lower_1 (by decide) (by omega) (fun c_1 => ?_) (fun c_1 => ?_)
    · skip
      exact absurd c_1 (by omega)
    refine x_aloadn (pc := 4) dX12_lower_4 rfl ?_
    refine x_getR (162) (pc := 5) dX12_lower_5 fl_X12_114 k_127 (hL 127 (by decide) (by decide)) (f_127_46 hF) ?_
    refine x_iloadn (pc := 8) dX12_lower_8 rfl ?_
    refine x_iald (b.toNat) (pc := 9) dX12_lower_9 k_162 (hL 162 (by decide) (by decide)) (⟨by omega, by omega, by decide⟩) ?_
    refine x_aloadn (pc := 10) dX12_lower_10 rfl ?_
    refine x_getR (162) (pc := 11) dX12_lower_11 fl_X12_114 k_127 (hL 127 (by decide) (by decide)) (f_127_46 hF) ?_
    refine x_iloadn (pc := 14) dX12_lower_14 rfl ?_
    refine x_iald (k) (pc := 15) dX12_lower_15 k_162 (hL 162 (by decide) (by decide)) (⟨by omega, by omega, by decide⟩) ?_
    refine x_clt (tgt := 21) (pc := 16) dX12_lower_16 (by decide) (by omega) (fun c_16 => ?_) (fun c_16 => ?_)
    · skip
      refine x_aloadn (pc := 21) dX12_lower_21 rfl ?_
      refine x_getR (162) (pc := 22) dX12_lower_22 fl_X12_114 k_127 (hL 127 (by decide) (by decide)) (f_127_46 hF) ?_
      refine x_iloadn (pc := 25) dX12_lower_25 rfl ?_
      refine x_aloadn (pc := 26) dX12_lower_26 rfl ?_
      refine x_getR (162) (pc := 27) dX12_lower_27 fl_X12_114 k_127 (hL 127 (by decide) (by decide)) (f_127_46 hF) ?_
      refine x_iloadn (pc := 30) dX12_lower_30 rfl ?_
      refine x_iald (b.toNat) (pc := 31) dX12_lower_31 k_162 (hL 162 (by decide) (by decide)) (⟨by omega, by omega, by decide⟩) ?_
      refine x_iastF (k) (pc := 32) dX12_lower_32 k_162 (hL 162 (by decide) (by decide)) (⟨by omega, by omega, by decide⟩) hF (fun hF => ?_)
      refine x_iconst (pc := 33) dX12_lower_33 ?_
      refine x_rZ (pc := 34) dX12_lower_34 rfl (by omega) ?_
      refine ⟨hF, FM.rf.upA (by decide), Or.inr ⟨rfl, by omega, fun i hi => ?_⟩⟩
      by_cases e : i = k
      · subst e
        rw [zup_s, x_up_s]
        exact ⟨cb.1, by omega, (hE hb0).trans cb.2.2⟩
      · rw [zup_n e, x_up_k e]; exact hC i hi
    · skip
      refine x_iconst (pc := 19) dX12_lower_19 ?_
      refine x_rZ (pc := 20) dX12_lower_20 rfl (by omega) ?_
      exact ⟨hF, FM.rf, Or.inl ⟨rfl, hC, fun _ => by omega⟩⟩
  · skip
    refine x_iloadn (pc := 0) dX12_lower_0 rfl ?_
    refine x_ilt (tgt := 19) (pc := 1) dX12_lower_1 (by decide) (by omega) (fun c_1 => ?_) (fun c_1 => ?_)
    rotate_left
    · skip
      exact absurd c_1 (by omega)
    refine x_iconst (pc := 19) dX12_lower_19 ?_
    refine x_rZ (pc := 20) dX12_lower_20 rfl (by omega) ?_
    exact ⟨hF, FM.rf, Or.inl ⟨rfl, hC, fun q => absurd q hb0⟩⟩
theorem l_mo_clA {p q n k : Nat} {w F : Int} {c0 c : Nat → Nat} {E : Nat → Nat → Prop} {D : Prop} {Q : x_Q} {o7 o8 : Option (Nat × Int)} {L : List Nat} {G0 G : Nat → Nat → Int} (hL : x_SL L) (hn : n ≤ 60) (hp : 1 ≤ p ∧ p ≤ 60) (hq : 1 ≤ q ∧ q ≤ 60) (hk : k < n) (hEp : ∀ i, i + p < n → zQ E i (i + p)) (hEq : ∀ i, i + q < n → zQ E i (i + q))
    (hC : mCl n E c G) (hN : zRn n c0 c F D) (hR : FM [162] [] G0 G) (hF : x_Fin xFL G)
    (cont : ∀ (c' : Nat → Nat) (F' : Int) (G' : Nat → Nat → Int), mCl n E c' G' → zRn n c0 c' F' (D ∧ (p ≤ k → c0 k ≤ c0 (k - p))) → FM [162] [] G0 G' → x_Fin xFL G' → X mX12_classes 2 0 0 Q 124 [some (vR 127), some (vI p), some (vI q), some (vI n), some (vI w), some (vI F'), some (vI k), o7, o8] [] L G' 0 0) :
    X mX12_classes 2 0 0 Q 99 [some (vR 127), some (vI p), some (vI q), some (vI n), some (vI w), some (vI F), some (vI k), o7, o8] [] L G 0 0 := by
  have keep : ∀ (G' : Nat → Nat → Int), mCl n E c G' → FM [162] [] G0 G' → x_Fin xFL G' → (p ≤ k → c k ≤ c (k - p)) → X mX12_classes 2 0 0 Q 124 [some (vR 127), some (vI p), some (vI q), some (vI n), some (vI w), some (vI F), some (vI k), o7, o8] [] L G' 0 0 := fun G' h1 h2 h3 h4 => cont c F G' h1 (by
    rcases hN with ⟨e1, e2⟩ | ⟨e1, e2, e3⟩
    · exact Or.inl ⟨e1, e2⟩
    · subst e2; exact Or.inr ⟨e1, rfl, e3, h4⟩) h2 h3
  have less : ∀ (G' : Nat → Nat → Int) (v : Nat), v < c k → mCl n E (zup c k v) G' → FM [162] [] G0 G' → x_Fin xFL G' → X mX12_classes 2 0 0 Q 124 [some (vR 127), some (vI p), some (vI q), some (vI n), some (vI w), some (vI 1), some (vI k), o7, o8] [] L G' 0 0 := fun G' v h0 h1 h2 h3 => cont _ 1 G' h1 (Or.inl ⟨rfl, by
    have := (zsm_up h0 n).2 hk
    rcases hN with ⟨e1, e2⟩ | ⟨e1, e2, e3⟩
    · omega
    · subst e2; omega⟩) h2 h3
  have hF01 : F = 0 ∨ F = 1 := by rcases hN with h | h; exact Or.inr h.1; exact Or.inl h.1
  refine x_aloadn (pc := 99) dX12_classes_99 rfl ?_
  refine x_iload (pc := 100) dX12_classes_100 rfl ?_
  refine x_iload (pc := 102) dX12_classes_102 rfl ?_
  refine x_iloadn (pc := 104) dX12_classes_104 rfl ?_
  refine x_isub (pc := 105) dX12_classes_105 ?_
  refine x_cVI (pc := 106) dX12_classes_106 lk_X12_322 (c_mo_lower hL hF hn hC hk (by omega) (fun h => by first | (rw [show ((k : Int) - (p : Int)).toNat = k - p by omega]; have := hEp (k - p) (by omega); rw [show k - p + p = k by omega] at this; exact this.symm) | (exfalso; omega))) k_127 ⟨by decide, rfl⟩ (hL 127 (by decide) (by decide)) (⟨by decide, by decide⟩) (Nat.le_of_ble_eq_true rfl) rfl ?_
  rintro x G1 ⟨a1, a2, a3⟩
  refine x_ine (tgt := 117) (pc := 109) dX12_classes_109 (by decide) (by omega) (fun c_109 => ?_) (fun c_109 => ?_)
  · skip
    refine x_iconst (pc := 117) dX12_classes_117 ?_
    refine x_goto (tgt := 122) (pc := 118) dX12_classes_118 (by decide) ?_
    refine x_istore (pc := 122) dX12_classes_122 (by decide) rfl ?_
    rcases a3 with ⟨b1, b2, b3⟩ | ⟨b1, b2, b3⟩
    · first
      | exact absurd b1 c_109
      | (have hk4 : p ≤ k → c k ≤ c (k - p) := fun h => by first | (have := b3 (by omega); rw [show ((k : Int) - (p : Int)).toNat = k - p by omega] at this; exact this) | (exfalso; omega)
         rcases hF01 with rfl | rfl
         · first | exact keep _ b2 (hR.tr a2) a1 hk4 | exact absurd rfl c_114
         · first | exact keep _ b2 (hR.tr a2) a1 hk4 | exact absurd c_114 (by decide))
    · first
      | exact less _ _ b2 b3 (hR.tr a2) a1
      | (exfalso; omega)
  · skip
    refine x_iload (pc := 112) dX12_classes_112 rfl ?_
    refine x_ieq (tgt := 121) (pc := 114) dX12_classes_114 (by decide) (by omega) (fun c_114 => ?_) (fun c_114 => ?_)
    · skip
      refine x_iconst (pc := 121) dX12_classes_121 ?_
      refine x_istore (pc := 122) dX12_classes_122 (by decide) rfl ?_
      rcases a3 with ⟨b1, b2, b3⟩ | ⟨b1, b2, b3⟩
      · first
        | exact absurd b1 c_109
        | (have hk4 : p ≤ k → c k ≤ c (k - p) := fun h => by first | (have := b3 (by omega); rw [show ((k : Int) - (p : Int)).toNat = k - p by omega] at this; exact this) | (exfalso; omega)
           rcases hF01 with rfl | rfl
           · first | exact keep _ b2 (hR.tr a2) a1 hk4 | exact absurd rfl c_114
           · first | exact keep _ b2 (hR.tr a2) a1 hk4 | exact absurd c_114 (by decide))
      · first
        | exact less _ _ b2 b3 (hR.tr a2) a1
        | (exfalso; omega)
    · skip
      refine x_iconst (pc := 117) dX12_classes_117 ?_
      refine x_goto (tgt := 122) (pc := 118) dX12_classes_118 (by decide) ?_
      refine x_istore (pc := 122) dX12_classes_122 (by decide) rfl ?_
      rcases a3 with ⟨b1, b2, b3⟩ | ⟨b1, b2, b3⟩
      · first
        | exact absurd b1 c_109
        | (have hk4 : p ≤ k → c k ≤ c (k - p) := fun h => by first | (have := b3 (by omega); rw [show ((k : Int) - (p : Int)).toNat = k - p by omega] at this; exact this) | (exfalso; omega)
           rcases hF01 with rfl | rfl
           · first | exact keep _ b2 (hR.tr a2) a1 hk4 | exact absurd rfl c_114
           · first | exact keep _ b2 (hR.tr a2) a1 hk4 | exact absurd c_114 (by decide))
      · first
        | exact less _ _ b2 b3 (hR.tr a2) a1
        | (exfalso; omega)
theorem l_mo_clB {p q n k : Nat} {w F : Int} {c0 c : Nat → Nat} {E : Nat → Nat → Prop} {D : Prop} {Q : x_Q} {o7 o8 : Option (Nat × Int)} {L : List Nat} {G0 G : Nat → Nat → Int} (hL : x_SL L) (hn : n ≤ 60) (hp : 1 ≤ p ∧ p ≤ 60) (hq : 1 ≤ q ∧ q ≤ 60) (hk : k < n) (hEp : ∀ i, i + p < n → zQ E i (i + p)) (hEq : ∀ i, i + q < n → zQ E i (i + q))
    (hC : mCl n E c G) (hN : zRn n c0 c F D) (hR : FM [162] [] G0 G) (hF : x_Fin xFL G)
    (cont : ∀ (c' : Nat → Nat) (F' : Int) (G' : Nat → Nat → Int), mCl n E c' G' → zRn n c0 c' F' (D ∧ (q ≤ k → c0 k ≤ c0 (k - q))) → FM [162] [] G0 G' → x_Fin xFL G' → X mX12_classes 2 0 0 Q 149 [some (vR 127), some (vI p), some (vI q), some (vI n), some (vI w), some (vI F'), some (vI k), o7, o8] [] L G' 0 0) :
    X mX12_classes 2 0 0 Q 124 [some (vR 127), some (vI p), some (vI q), some (vI n), some (vI w), some (vI F), some (vI k), o7, o8] [] L G 0 0 := by
  have keep : ∀ (G' : Nat → Nat → Int), mCl n E c G' → FM [162] [] G0 G' → x_Fin xFL G' → (q ≤ k → c k ≤ c (k - q)) → X mX12_classes 2 0 0 Q 149 [some (vR 127), some (vI p), some (vI q), some (vI n), some (vI w), some (vI F), some (vI k), o7, o8] [] L G' 0 0 := fun G' h1 h2 h3 h4 => cont c F G' h1 (by
    rcases hN with ⟨e1, e2⟩ | ⟨e1, e2, e3⟩
    · exact Or.inl ⟨e1, e2⟩
    · subst e2; exact Or.inr ⟨e1, rfl, e3, h4⟩) h2 h3
  have less : ∀ (G' : Nat → Nat → Int) (v : Nat), v < c k → mCl n E (zup c k v) G' → FM [162] [] G0 G' → x_Fin xFL G' → X mX12_classes 2 0 0 Q 149 [some (vR 127), some (vI p), some (vI q), some (vI n), some (vI w), some (vI 1), some (vI k), o7, o8] [] L G' 0 0 := fun G' v h0 h1 h2 h3 => cont _ 1 G' h1 (Or.inl ⟨rfl, by
    have := (zsm_up h0 n).2 hk
    rcases hN with ⟨e1, e2⟩ | ⟨e1, e2, e3⟩
    · omega
    · subst e2; omega⟩) h2 h3
  have hF01 : F = 0 ∨ F = 1 := by rcases hN with h | h; exact Or.inr h.1; exact Or.inl h.1
  refine x_aloadn (pc := 124) dX12_classes_124 rfl ?_
  refine x_iload (pc := 125) dX12_classes_125 rfl ?_
  refine x_iload (pc := 127) dX12_classes_127 rfl ?_
  refine x_iloadn (pc := 129) dX12_classes_129 rfl ?_
  refine x_isub (pc := 130) dX12_classes_130 ?_
  refine x_cVI (pc := 131) dX12_classes_131 lk_X12_322 (c_mo_lower hL hF hn hC hk (by omega) (fun h => by first | (rw [show ((k : Int) - (q : Int)).toNat = k - q by omega]; have := hEq (k - q) (by omega); rw [show k - q + q = k by omega] at this; exact this.symm) | (exfalso; omega))) k_127 ⟨by decide, rfl⟩ (hL 127 (by decide) (by decide)) (⟨by decide, by decide⟩) (Nat.le_of_ble_eq_true rfl) rfl ?_
  rintro x G1 ⟨a1, a2, a3⟩
  refine x_ine (tgt := 142) (pc := 134) dX12_classes_134 (by decide) (by omega) (fun c_134 => ?_) (fun c_134 => ?_)
  · skip
    refine x_iconst (pc := 142) dX12_classes_142 ?_
    refine x_goto (tgt := 147) (pc := 143) dX12_classes_143 (by decide) ?_
    refine x_istore (pc := 147) dX12_classes_147 (by decide) rfl ?_
    rcases a3 with ⟨b1, b2, b3⟩ | ⟨b1, b2, b3⟩
    · first
      | exact absurd b1 c_134
      | (have hk4 : q ≤ k → c k ≤ c (k - q) := fun h => by first | (have := b3 (by omega); rw [show ((k : Int) - (q : Int)).toNat = k - q by omega] at this; exact this) | (exfalso; omega)
         rcases hF01 with rfl | rfl
         · first | exact keep _ b2 (hR.tr a2) a1 hk4 | exact absurd rfl c_139
         · first | exact keep _ b2 (hR.tr a2) a1 hk4 | exact absurd c_139 (by decide))
    · first
      | exact less _ _ b2 b3 (hR.tr a2) a1
      | (exfalso; omega)
  · skip
    refine x_iload (pc := 137) dX12_classes_137 rfl ?_
    refine x_ieq (tgt := 146) (pc := 139) dX12_classes_139 (by decide) (by omega) (fun c_139 => ?_) (fun c_139 => ?_)
    · skip
      refine x_iconst (pc := 146) dX12_classes_146 ?_
      refine x_istore (pc := 147) dX12_classes_147 (by decide) rfl ?_
      rcases a3 with ⟨b1, b2, b3⟩ | ⟨b1, b2, b3⟩
      · first
        | exact absurd b1 c_134
        | (have hk4 : q ≤ k → c k ≤ c (k - q) := fun h => by first | (have := b3 (by omega); rw [show ((k : Int) - (q : Int)).toNat = k - q by omega] at this; exact this) | (exfalso; omega)
           rcases hF01 with rfl | rfl
           · first | exact keep _ b2 (hR.tr a2) a1 hk4 | exact absurd rfl c_139
           · first | exact keep _ b2 (hR.tr a2) a1 hk4 | exact absurd c_139 (by decide))
      · first
        | exact less _ _ b2 b3 (hR.tr a2) a1
        | (exfalso; omega)
    · skip
      refine x_iconst (pc := 142) dX12_classes_142 ?_
      refine x_goto (tgt := 147) (pc := 143) dX12_classes_143 (by decide) ?_
      refine x_istore (pc := 147) dX12_classes_147 (by decide) rfl ?_
      rcases a3 with ⟨b1, b2, b3⟩ | ⟨b1, b2, b3⟩
      · first
        | exact absurd b1 c_134
        | (have hk4 : q ≤ k → c k ≤ c (k - q) := fun h => by first | (have := b3 (by omega); rw [show ((k : Int) - (q : Int)).toNat = k - q by omega] at this; exact this) | (exfalso; omega)
           rcases hF01 with rfl | rfl
           · first | exact keep _ b2 (hR.tr a2) a1 hk4 | exact absurd rfl c_139
           · first | exact keep _ b2 (hR.tr a2) a1 hk4 | exact absurd c_139 (by decide))
      · first
        | exact less _ _ b2 b3 (hR.tr a2) a1
        | (exfalso; omega)
theorem l_mo_clC {p q n k : Nat} {w F : Int} {c0 c : Nat → Nat} {E : Nat → Nat → Prop} {D : Prop} {Q : x_Q} {o7 o8 : Option (Nat × Int)} {L : List Nat} {G0 G : Nat → Nat → Int} (hL : x_SL L) (hn : n ≤ 60) (hp : 1 ≤ p ∧ p ≤ 60) (hq : 1 ≤ q ∧ q ≤ 60) (hk : k < n) (hEp : ∀ i, i + p < n → zQ E i (i + p)) (hEq : ∀ i, i + q < n → zQ E i (i + q))
    (hC : mCl n E c G) (hN : zRn n c0 c F D) (hR : FM [162] [] G0 G) (hF : x_Fin xFL G)
    (cont : ∀ (c' : Nat → Nat) (F' : Int) (G' : Nat → Nat → Int), mCl n E c' G' → zRn n c0 c' F' (D ∧ (k + p < n → c0 k ≤ c0 (k + p))) → FM [162] [] G0 G' → x_Fin xFL G' → X mX12_classes 2 0 0 Q 186 [some (vR 127), some (vI p), some (vI q), some (vI n), some (vI w), some (vI F'), some (vI k), o7, o8] [] L G' 0 0) :
    X mX12_classes 2 0 0 Q 149 [some (vR 127), some (vI p), some (vI q), some (vI n), some (vI w), some (vI F), some (vI k), o7, o8] [] L G 0 0 := by
  have keep : ∀ (G' : Nat → Nat → Int), mCl n E c G' → FM [162] [] G0 G' → x_Fin xFL G' → (k + p < n → c k ≤ c (k + p)) → X mX12_classes 2 0 0 Q 186 [some (vR 127), some (vI p), some (vI q), some (vI n), some (vI w), some (vI F), some (vI k), o7, o8] [] L G' 0 0 := fun G' h1 h2 h3 h4 => cont c F G' h1 (by
    rcases hN with ⟨e1, e2⟩ | ⟨e1, e2, e3⟩
    · exact Or.inl ⟨e1, e2⟩
    · subst e2; exact Or.inr ⟨e1, rfl, e3, h4⟩) h2 h3
  have less : ∀ (G' : Nat → Nat → Int) (v : Nat), v < c k → mCl n E (zup c k v) G' → FM [162] [] G0 G' → x_Fin xFL G' → X mX12_classes 2 0 0 Q 186 [some (vR 127), some (vI p), some (vI q), some (vI n), some (vI w), some (vI 1), some (vI k), o7, o8] [] L G' 0 0 := fun G' v h0 h1 h2 h3 => cont _ 1 G' h1 (Or.inl ⟨rfl, by
    have := (zsm_up h0 n).2 hk
    rcases hN with ⟨e1, e2⟩ | ⟨e1, e2, e3⟩
    · omega
    · subst e2; omega⟩) h2 h3
  have hF01 : F = 0 ∨ F = 1 := by rcases hN with h | h; exact Or.inr h.1; exact Or.inl h.1
  refine x_aloadn (pc := 149) dX12_classes_149 rfl ?_
  refine x_iload (pc := 150) dX12_classes_150 rfl ?_
  refine x_iload (pc := 152) dX12_classes_152 rfl ?_
  refine x_iloadn (pc := 154) dX12_classes_154 rfl ?_
  refine x_iadd (pc := 155) dX12_classes_155 ?_
  refine x_iloadn (pc := 156) dX12_classes_156 rfl ?_
  refine x_cge (tgt := 167) (pc := 157) dX12_classes_157 (by decide) (by omega) (fun c_157 => ?_) (fun c_157 => ?_)
  · skip
    refine x_iconst (pc := 167) dX12_classes_167 ?_
    refine x_cVI (pc := 168) dX12_classes_168 lk_X12_322 (c_mo_lower hL hF hn hC hk (by omega) (fun h => by first | (rw [show ((k : Int) + (p : Int)).toNat = k + p by omega]; exact hEp k (by omega)) | (exfalso; omega))) k_127 ⟨by decide, rfl⟩ (hL 127 (by decide) (by decide)) (⟨by decide, by decide⟩) (Nat.le_of_ble_eq_true rfl) rfl ?_
    rintro x G1 ⟨a1, a2, a3⟩
    refine x_ine (tgt := 179) (pc := 171) dX12_classes_171 (by decide) (by omega) (fun c_171 => ?_) (fun c_171 => ?_)
    · skip
      refine x_iconst (pc := 179) dX12_classes_179 ?_
      refine x_goto (tgt := 184) (pc := 180) dX12_classes_180 (by decide) ?_
      refine x_istore (pc := 184) dX12_classes_184 (by decide) rfl ?_
      rcases a3 with ⟨b1, b2, b3⟩ | ⟨b1, b2, b3⟩
      · first
        | exact absurd b1 c_171
        | (have hk4 : k + p < n → c k ≤ c (k + p) := fun h => by first | (have := b3 (by omega); rw [show ((k : Int) + (p : Int)).toNat = k + p by omega] at this; exact this) | (exfalso; omega)
           rcases hF01 with rfl | rfl
           · first | exact keep _ b2 (hR.tr a2) a1 hk4 | exact absurd rfl c_176
           · first | exact keep _ b2 (hR.tr a2) a1 hk4 | exact absurd c_176 (by decide))
      · first
        | exact less _ _ b2 b3 (hR.tr a2) a1
        | (exfalso; omega)
    · skip
      refine x_iload (pc := 174) dX12_classes_174 rfl ?_
      refine x_ieq (tgt := 183) (pc := 176) dX12_classes_176 (by decide) (by omega) (fun c_176 => ?_) (fun c_176 => ?_)
      · skip
        refine x_iconst (pc := 183) dX12_classes_183 ?_
        refine x_istore (pc := 184) dX12_classes_184 (by decide) rfl ?_
        rcases a3 with ⟨b1, b2, b3⟩ | ⟨b1, b2, b3⟩
        · first
          | exact absurd b1 c_171
          | (have hk4 : k + p < n → c k ≤ c (k + p) := fun h => by first | (have := b3 (by omega); rw [show ((k : Int) + (p : Int)).toNat = k + p by omega] at this; exact this) | (exfalso; omega)
             rcases hF01 with rfl | rfl
             · first | exact keep _ b2 (hR.tr a2) a1 hk4 | exact absurd rfl c_176
             · first | exact keep _ b2 (hR.tr a2) a1 hk4 | exact absurd c_176 (by decide))
        · first
          | exact less _ _ b2 b3 (hR.tr a2) a1
          | (exfalso; omega)
      · skip
        refine x_iconst (pc := 179) dX12_classes_179 ?_
        refine x_goto (tgt := 184) (pc := 180) dX12_classes_180 (by decide) ?_
        refine x_istore (pc := 184) dX12_classes_184 (by decide) rfl ?_
        rcases a3 with ⟨b1, b2, b3⟩ | ⟨b1, b2, b3⟩
        · first
          | exact absurd b1 c_171
          | (have hk4 : k + p < n → c k ≤ c (k + p) := fun h => by first | (have := b3 (by omega); rw [show ((k : Int) + (p : Int)).toNat = k + p by omega] at this; exact this) | (exfalso; omega)
             rcases hF01 with rfl | rfl
             · first | exact keep _ b2 (hR.tr a2) a1 hk4 | exact absurd rfl c_176
             · first | exact keep _ b2 (hR.tr a2) a1 hk4 | exact absurd c_176 (by decide))
        · first
          | exact less _ _ b2 b3 (hR.tr a2) a1
          | (exfalso; omega)
  · skip
    refine x_iload (pc := 160) dX12_classes_160 rfl ?_
    refine x_iloadn (pc := 162) dX12_classes_162 rfl ?_
    refine x_iadd (pc := 163) dX12_classes_163 ?_
    refine x_goto (tgt := 168) (pc := 164) dX12_classes_164 (by decide) ?_
    refine x_cVI (pc := 168) dX12_classes_168 lk_X12_322 (c_mo_lower hL hF hn hC hk (by omega) (fun h => by first | (rw [show ((k : Int) + (p : Int)).toNat = k + p by omega]; exact hEp k (by omega)) | (exfalso; omega))) k_127 ⟨by decide, rfl⟩ (hL 127 (by decide) (by decide)) (⟨by decide, by decide⟩) (Nat.le_of_ble_eq_true rfl) rfl ?_
    rintro x G1 ⟨a1, a2, a3⟩
    refine x_ine (tgt := 179) (pc := 171) dX12_classes_171 (by decide) (by omega) (fun c_171 => ?_) (fun c_171 => ?_)
    · skip
      refine x_iconst (pc := 179) dX12_classes_179 ?_
      refine x_goto (tgt := 184) (pc := 180) dX12_classes_180 (by decide) ?_
      refine x_istore (pc := 184) dX12_classes_184 (by decide) rfl ?_
      rcases a3 with ⟨b1, b2, b3⟩ | ⟨b1, b2, b3⟩
      · first
        | exact absurd b1 c_171
        | (have hk4 : k + p < n → c k ≤ c (k + p) := fun h => by first | (have := b3 (by omega); rw [show ((k : Int) + (p : Int)).toNat = k + p by omega] at this; exact this) | (exfalso; omega)
           rcases hF01 with rfl | rfl
           · first | exact keep _ b2 (hR.tr a2) a1 hk4 | exact absurd rfl c_176
           · first | exact keep _ b2 (hR.tr a2) a1 hk4 | exact absurd c_176 (by decide))
      · first
        | exact less _ _ b2 b3 (hR.tr a2) a1
        | (exfalso; omega)
    · skip
      refine x_iload (pc := 174) dX12_classes_174 rfl ?_
      refine x_ieq (tgt := 183) (pc := 176) dX12_classes_176 (by decide) (by omega) (fun c_176 => ?_) (fun c_176 => ?_)
      · skip
        refine x_iconst (pc := 183) dX12_classes_183 ?_
        refine x_istore (pc := 184) dX12_classes_184 (by decide) rfl ?_
        rcases a3 with ⟨b1, b2, b3⟩ | ⟨b1, b2, b3⟩
        · first
          | exact absurd b1 c_171
          | (have hk4 : k + p < n → c k ≤ c (k + p) := fun h => by first | (have := b3 (by omega); rw [show ((k : Int) + (p : Int)).toNat = k + p by omega] at this; exact this) | (exfalso; omega)
             rcases hF01 with rfl | rfl
             · first | exact keep _ b2 (hR.tr a2) a1 hk4 | exact absurd rfl c_176
             · first | exact keep _ b2 (hR.tr a2) a1 hk4 | exact absurd c_176 (by decide))
        · first
          | exact less _ _ b2 b3 (hR.tr a2) a1
          | (exfalso; omega)
      · skip
        refine x_iconst (pc := 179) dX12_classes_179 ?_
        refine x_goto (tgt := 184) (pc := 180) dX12_classes_180 (by decide) ?_
        refine x_istore (pc := 184) dX12_classes_184 (by decide) rfl ?_
        rcases a3 with ⟨b1, b2, b3⟩ | ⟨b1, b2, b3⟩
        · first
          | exact absurd b1 c_171
          | (have hk4 : k + p < n → c k ≤ c (k + p) := fun h => by first | (have := b3 (by omega); rw [show ((k : Int) + (p : Int)).toNat = k + p by omega] at this; exact this) | (exfalso; omega)
             rcases hF01 with rfl | rfl
             · first | exact keep _ b2 (hR.tr a2) a1 hk4 | exact absurd rfl c_176
             · first | exact keep _ b2 (hR.tr a2) a1 hk4 | exact absurd c_176 (by decide))
        · first
          | exact less _ _ b2 b3 (hR.tr a2) a1
          | (exfalso; omega)
theorem l_mo_clD {p q n k : Nat} {w F : Int} {c0 c : Nat → Nat} {E : Nat → Nat → Prop} {D : Prop} {Q : x_Q} {o7 o8 : Option (Nat × Int)} {L : List Nat} {G0 G : Nat → Nat → Int} (hL : x_SL L) (hn : n ≤ 60) (hp : 1 ≤ p ∧ p ≤ 60) (hq : 1 ≤ q ∧ q ≤ 60) (hk : k < n) (hEp : ∀ i, i + p < n → zQ E i (i + p)) (hEq : ∀ i, i + q < n → zQ E i (i + q))
    (hC : mCl n E c G) (hN : zRn n c0 c F D) (hR : FM [162] [] G0 G) (hF : x_Fin xFL G)
    (cont : ∀ (c' : Nat → Nat) (F' : Int) (G' : Nat → Nat → Int), mCl n E c' G' → zRn n c0 c' F' (D ∧ (k + q < n → c0 k ≤ c0 (k + q))) → FM [162] [] G0 G' → x_Fin xFL G' → X mX12_classes 2 0 0 Q 223 [some (vR 127), some (vI p), some (vI q), some (vI n), some (vI w), some (vI F'), some (vI k), o7, o8] [] L G' 0 0) :
    X mX12_classes 2 0 0 Q 186 [some (vR 127), some (vI p), some (vI q), some (vI n), some (vI w), some (vI F), some (vI k), o7, o8] [] L G 0 0 := by
  have keep : ∀ (G' : Nat → Nat → Int), mCl n E c G' → FM [162] [] G0 G' → x_Fin xFL G' → (k + q < n → c k ≤ c (k + q)) → X mX12_classes 2 0 0 Q 223 [some (vR 127), some (vI p), some (vI q), some (vI n), some (vI w), some (vI F), some (vI k), o7, o8] [] L G' 0 0 := fun G' h1 h2 h3 h4 => cont c F G' h1 (by
    rcases hN with ⟨e1, e2⟩ | ⟨e1, e2, e3⟩
    · exact Or.inl ⟨e1, e2⟩
    · subst e2; exact Or.inr ⟨e1, rfl, e3, h4⟩) h2 h3
  have less : ∀ (G' : Nat → Nat → Int) (v : Nat), v < c k → mCl n E (zup c k v) G' → FM [162] [] G0 G' → x_Fin xFL G' → X mX12_classes 2 0 0 Q 223 [some (vR 127), some (vI p), some (vI q), some (vI n), some (vI w), some (vI 1), some (vI k), o7, o8] [] L G' 0 0 := fun G' v h0 h1 h2 h3 => cont _ 1 G' h1 (Or.inl ⟨rfl, by
    have := (zsm_up h0 n).2 hk
    rcases hN with ⟨e1, e2⟩ | ⟨e1, e2, e3⟩
    · omega
    · subst e2; omega⟩) h2 h3
  have hF01 : F = 0 ∨ F = 1 := by rcases hN with h | h; exact Or.inr h.1; exact Or.inl h.1
  refine x_aloadn (pc := 186) dX12_classes_186 rfl ?_
  refine x_iload (pc := 187) dX12_classes_187 rfl ?_
  refine x_iload (pc := 189) dX12_classes_189 rfl ?_
  refine x_iloadn (pc := 191) dX12_classes_191 rfl ?_
  refine x_iadd (pc := 192) dX12_classes_192 ?_
  refine x_iloadn (pc := 193) dX12_classes_193 rfl ?_
  refine x_cge (tgt := 204) (pc := 194) dX12_classes_194 (by decide) (by omega) (fun c_194 => ?_) (fun c_194 => ?_)
  · skip
    refine x_iconst (pc := 204) dX12_classes_204 ?_
    refine x_cVI (pc := 205) dX12_classes_205 lk_X12_322 (c_mo_lower hL hF hn hC hk (by omega) (fun h => by first | (rw [show ((k : Int) + (q : Int)).toNat = k + q by omega]; exact hEq k (by omega)) | (exfalso; omega))) k_127 ⟨by decide, rfl⟩ (hL 127 (by decide) (by decide)) (⟨by decide, by decide⟩) (Nat.le_of_ble_eq_true rfl) rfl ?_
    rintro x G1 ⟨a1, a2, a3⟩
    refine x_ine (tgt := 216) (pc := 208) dX12_classes_208 (by decide) (by omega) (fun c_208 => ?_) (fun c_208 => ?_)
    · skip
      refine x_iconst (pc := 216) dX12_classes_216 ?_
      refine x_goto (tgt := 221) (pc := 217) dX12_classes_217 (by decide) ?_
      refine x_istore (pc := 221) dX12_classes_221 (by decide) rfl ?_
      rcases a3 with ⟨b1, b2, b3⟩ | ⟨b1, b2, b3⟩
      · first
        | exact absurd b1 c_208
        | (have hk4 : k + q < n → c k ≤ c (k + q) := fun h => by first | (have := b3 (by omega); rw [show ((k : Int) + (q : Int)).toNat = k + q by omega] at this; exact this) | (exfalso; omega)
           rcases hF01 with rfl | rfl
           · first | exact keep _ b2 (hR.tr a2) a1 hk4 | exact absurd rfl c_213
           · first | exact keep _ b2 (hR.tr a2) a1 hk4 | exact absurd c_213 (by decide))
      · first
        | exact less _ _ b2 b3 (hR.tr a2) a1
        | (exfalso; omega)
    · skip
      refine x_iload (pc := 211) dX12_classes_211 rfl ?_
      refine x_ieq (tgt := 220) (pc := 213) dX12_classes_213 (by decide) (by omega) (fun c_213 => ?_) (fun c_213 => ?_)
      · skip
        refine x_iconst (pc := 220) dX12_classes_220 ?_
        refine x_istore (pc := 221) dX12_classes_221 (by decide) rfl ?_
        rcases a3 with ⟨b1, b2, b3⟩ | ⟨b1, b2, b3⟩
        · first
          | exact absurd b1 c_208
          | (have hk4 : k + q < n → c k ≤ c (k + q) := fun h => by first | (have := b3 (by omega); rw [show ((k : Int) + (q : Int)).toNat = k + q by omega] at this; exact this) | (exfalso; omega)
             rcases hF01 with rfl | rfl
             · first | exact keep _ b2 (hR.tr a2) a1 hk4 | exact absurd rfl c_213
             · first | exact keep _ b2 (hR.tr a2) a1 hk4 | exact absurd c_213 (by decide))
        · first
          | exact less _ _ b2 b3 (hR.tr a2) a1
          | (exfalso; omega)
      · skip
        refine x_iconst (pc := 216) dX12_classes_216 ?_
        refine x_goto (tgt := 221) (pc := 217) dX12_classes_217 (by decide) ?_
        refine x_istore (pc := 221) dX12_classes_221 (by decide) rfl ?_
        rcases a3 with ⟨b1, b2, b3⟩ | ⟨b1, b2, b3⟩
        · first
          | exact absurd b1 c_208
          | (have hk4 : k + q < n → c k ≤ c (k + q) := fun h => by first | (have := b3 (by omega); rw [show ((k : Int) + (q : Int)).toNat = k + q by omega] at this; exact this) | (exfalso; omega)
             rcases hF01 with rfl | rfl
             · first | exact keep _ b2 (hR.tr a2) a1 hk4 | exact absurd rfl c_213
             · first | exact keep _ b2 (hR.tr a2) a1 hk4 | exact absurd c_213 (by decide))
        · first
          | exact less _ _ b2 b3 (hR.tr a2) a1
          | (exfalso; omega)
  · skip
    refine x_iload (pc := 197) dX12_classes_197 rfl ?_
    refine x_iloadn (pc := 199) dX12_classes_199 rfl ?_
    refine x_iadd (pc := 200) dX12_classes_200 ?_
    refine x_goto (tgt := 205) (pc := 201) dX12_classes_201 (by decide) ?_
    refine x_cVI (pc := 205) dX12_classes_205 lk_X12_322 (c_mo_lower hL hF hn hC hk (by omega) (fun h => by first | (rw [show ((k : Int) + (q : Int)).toNat = k + q by omega]; exact hEq k (by omega)) | (exfalso; omega))) k_127 ⟨by decide, rfl⟩ (hL 127 (by decide) (by decide)) (⟨by decide, by decide⟩) (Nat.le_of_ble_eq_true rfl) rfl ?_
    rintro x G1 ⟨a1, a2, a3⟩
    refine x_ine (tgt := 216) (pc := 208) dX12_classes_208 (by decide) (by omega) (fun c_208 => ?_) (fun c_208 => ?_)
    · skip
      refine x_iconst (pc := 216) dX12_classes_216 ?_
      refine x_goto (tgt := 221) (pc := 217) dX12_classes_217 (by decide) ?_
      refine x_istore (pc := 221) dX12_classes_221 (by decide) rfl ?_
      rcases a3 with ⟨b1, b2, b3⟩ | ⟨b1, b2, b3⟩
      · first
        | exact absurd b1 c_208
        | (have hk4 : k + q < n → c k ≤ c (k + q) := fun h => by first | (have := b3 (by omega); rw [show ((k : Int) + (q : Int)).toNat = k + q by omega] at this; exact this) | (exfalso; omega)
           rcases hF01 with rfl | rfl
           · first | exact keep _ b2 (hR.tr a2) a1 hk4 | exact absurd rfl c_213
           · first | exact keep _ b2 (hR.tr a2) a1 hk4 | exact absurd c_213 (by decide))
      · first
        | exact less _ _ b2 b3 (hR.tr a2) a1
        | (exfalso; omega)
    · skip
      refine x_iload (pc := 211) dX12_classes_211 rfl ?_
      refine x_ieq (tgt := 220) (pc := 213) dX12_classes_213 (by decide) (by omega) (fun c_213 => ?_) (fun c_213 => ?_)
      · skip
        refine x_iconst (pc := 220) dX12_classes_220 ?_
        refine x_istore (pc := 221) dX12_classes_221 (by decide) rfl ?_
        rcases a3 with ⟨b1, b2, b3⟩ | ⟨b1, b2, b3⟩
        · first
          | exact absurd b1 c_208
          | (have hk4 : k + q < n → c k ≤ c (k + q) := fun h => by first | (have := b3 (by omega); rw [show ((k : Int) + (q : Int)).toNat = k + q by omega] at this; exact this) | (exfalso; omega)
             rcases hF01 with rfl | rfl
             · first | exact keep _ b2 (hR.tr a2) a1 hk4 | exact absurd rfl c_213
             · first | exact keep _ b2 (hR.tr a2) a1 hk4 | exact absurd c_213 (by decide))
        · first
          | exact less _ _ b2 b3 (hR.tr a2) a1
          | (exfalso; omega)
      · skip
        refine x_iconst (pc := 216) dX12_classes_216 ?_
        refine x_goto (tgt := 221) (pc := 217) dX12_classes_217 (by decide) ?_
        refine x_istore (pc := 221) dX12_classes_221 (by decide) rfl ?_
        rcases a3 with ⟨b1, b2, b3⟩ | ⟨b1, b2, b3⟩
        · first
          | exact absurd b1 c_208
          | (have hk4 : k + q < n → c k ≤ c (k + q) := fun h => by first | (have := b3 (by omega); rw [show ((k : Int) + (q : Int)).toNat = k + q by omega] at this; exact this) | (exfalso; omega)
             rcases hF01 with rfl | rfl
             · first | exact keep _ b2 (hR.tr a2) a1 hk4 | exact absurd rfl c_213
             · first | exact keep _ b2 (hR.tr a2) a1 hk4 | exact absurd c_213 (by decide))
        · first
          | exact less _ _ b2 b3 (hR.tr a2) a1
          | (exfalso; omega)

