/-! the reference's reading of texts -/
def zV (v : Nat) : Prop := v ≤ 7 ∧ v ≠ 3
theorem zitem_V {c : Int} (h : zitem c ≠ -1) : zV (zitem c).toNat ∧ ((zitem c).toNat : Int) = zitem c := by
  unfold zitem at h ⊢
  unfold zV
  split at h
  · rename_i q; rw [if_pos q]; omega
  · rename_i q
    rw [if_neg q]
    split at h
    · rename_i q2; rw [if_pos q2]; omega
    · exact absurd rfl h
theorem zitem_ge (c : Int) : zitem c = -1 ∨ 97 ≤ c := by
  unfold zitem
  split
  · omega
  · split <;> omega
/-- the reading so far: 2 m rows of items -/
def mRow (m : Nat) (S : Nat → Nat) (I : Nat → Nat → Nat) (G : Nat → Nat → Int) : Prop := ∀ q, q < 2 * m → G 143 q = S q ∧ S q ≤ 12 ∧ ∀ j, j < S q → G 142 (12 * q + j) = I q j ∧ zV (I q j)
theorem mRow.add {m k v : Nat} {S : Nat → Nat} {I : Nat → Nat → Nat} {G : Nat → Nat → Int} (h : mRow m S I G) (hk : k < 2 * m) (hS : S k < 12) (hv : zV v) : mRow m (zS1 S k) (zI1 S I k v) (x_up (x_up G 142 (12 * k + S k) v) 143 k (S k + 1)) := by
  intro q hq
  obtain ⟨h1, h2, h3⟩ := h q hq
  by_cases c : q = k
  · subst c
    rw [x_up_s, zS1_s]
    refine ⟨rfl, by omega, fun j hj => ?_⟩
    rw [x_up_ne (by decide)]
    by_cases c2 : j = S q
    · subst c2
      rw [x_up_s, zI1_s]; exact ⟨rfl, hv⟩
    · rw [x_up_k (by omega), zI1_n (Or.inr c2)]; exact h3 j (by omega)
  · rw [x_up_k c, zS1_n c, x_up_ne (by decide)]
    refine ⟨h1, h2, fun j hj => ?_⟩
    rw [x_up_ne (by decide), x_up_k (by omega), zI1_n (Or.inl c)]; exact h3 j hj
theorem mRow.new {m : Nat} {S : Nat → Nat} {I : Nat → Nat → Nat} {G : Nat → Nat → Int} (h : mRow m S I G) (h1 : S (2 * m) = 0) (h2 : S (2 * m + 1) = 0) : mRow (m + 1) S I (x_up (x_up G 143 (2 * m) 0) 143 (2 * m + 1) 0) := by
  intro q hq
  by_cases c : q = 2 * m + 1
  · subst c
    rw [x_up_s, h2]
    exact ⟨rfl, by omega, fun j hj => absurd hj (Nat.not_lt_zero j)⟩
  · rw [x_up_k c]
    by_cases c2 : q = 2 * m
    · subst c2
      rw [x_up_s, h1]
      exact ⟨rfl, by omega, fun j hj => absurd hj (Nat.not_lt_zero j)⟩
    · rw [x_up_k c2, x_up_ne (by decide), x_up_ne (by decide)]; exact h q (by omega)
theorem mTx_FM {n : Nat} {b : Nat → Nat} {S F : List Nat} {G G' : Nat → Nat → Int} (h : mTx n b G) (hR : FM S F G G') (h1 : 127 ∉ S) (h2 : 128 ∉ S) (h3 : 1 ∉ F) : mTx n b G' := ⟨by rw [hR _ _ h1 (fun _ => h3)]; exact h.1, h.2.1, fun i hi => by rw [hR _ _ h2 (fun e => by cases e)]; exact h.2.2 i hi⟩
abbrev pFlt (L : List Nat) (G0 : Nat → Nat → Int) (z : Int × zW) : x_Q := qI L fun x G' => x = z.1 ∧ FM [142, 143] [5] G0 G' ∧ x_Fin xFL G' ∧ (x = -1 → G' 127 5 = z.2.1 + 1 ∧ z.2.1 ≤ 3 ∧ mRow (z.2.1 + 1) z.2.2.2.1 z.2.2.2.2 G')
theorem l_mo_fault {n : Nat} {b : Nat → Nat} {z : Int × zW} {L : List Nat} {G0 : Nat → Nat → Int} (hL : x_SL L) (hT : mTx n b G0) : ∀ (k i e s : Nat) (S : Nat → Nat) (I : Nat → Nat → Nat) (G : Nat → Nat → Int) (o4 o5 o6 : Option (Nat × Int)), i + k = n → (s = 0 ∨ s = 1) → e ≤ 3 → (∀ q, 2 * e + s < q → S q = 0) → mRow (e + 1) S I G → FM [142, 143] [5] G0 G → x_Fin xFL G → zrun b k i (e, s, S, I) = z →
    X mX12_fault 1 0 0 (pFlt L G0 z) 20 [some (vR 127), some (vI e), some (vI s), some (vI i), o4, o5, o6] [] L G 0 0 := by
  intro k
  induction k with
  | zero =>
    intro i e s S I G o4 o5 o6 hi hs he hS hM hR hF hz
    obtain ⟨h1, h2, h3⟩ := mTx_FM hT hR (by decide) (by decide) (by decide)
    subst hz
    refine x_iloadn (pc := 20) dX12_fault_20 rfl ?_
    refine x_aloadn (pc := 21) dX12_fault_21 rfl ?_
    refine x_getI (pc := 22) dX12_fault_22 fl_X12_137 k_127 (hL 127 (by decide) (by decide)) ?_
    refine x_cge (tgt := 184) (pc := 25) dX12_fault_25 (by decide) (by omega) (fun c_25 => ?_) (fun c_25 => ?_)
    rotate_left
    · skip
      exact absurd c_25 (by omega)
    refine x_aloadn (pc := 184) dX12_fault_184 rfl ?_
    refine x_iloadn (pc := 185) dX12_fault_185 rfl ?_
    refine x_iconst (pc := 186) dX12_fault_186 ?_
    refine x_iadd (pc := 187) dX12_fault_187 ?_
    refine x_putIF (pc := 188) dX12_fault_188 fp_X12_147 k_127 (hL 127 (by decide) (by decide)) hF (fun hF => ?_)
    refine x_iloadn (pc := 191) dX12_fault_191 rfl ?_
    refine x_iconst (pc := 192) dX12_fault_192 ?_
    refine x_cne (tgt := 200) (pc := 193) dX12_fault_193 (by decide) (by omega) (fun c_193 => ?_) (fun c_193 => ?_)
    · skip
      refine x_aloadn (pc := 200) dX12_fault_200 rfl ?_
      refine x_getI (pc := 201) dX12_fault_201 fl_X12_137 k_127 (hL 127 (by decide) (by decide)) ?_
      refine x_rI (pc := 204) dX12_fault_204 rfl ?_
      refine ⟨?_, hR.upF (by decide), hF, fun hx => ⟨x_up_s, he, fun q hq => ?_⟩⟩
      · show _ = (if s = 1 then (-1 : Int) else (i : Int))
        first | (rw [if_pos (by omega)]; done) | (rw [if_neg (by omega), x_up_k (by decide), h1]; omega)
      · rw [x_up_ne (by decide), x_up_ne (by decide)]; exact hM q hq
    · skip
      refine x_iconst (pc := 196) dX12_fault_196 ?_
      refine x_goto (tgt := 204) (pc := 197) dX12_fault_197 (by decide) ?_
      refine x_rI (pc := 204) dX12_fault_204 rfl ?_
      refine ⟨?_, hR.upF (by decide), hF, fun hx => ⟨x_up_s, he, fun q hq => ?_⟩⟩
      · show _ = (if s = 1 then (-1 : Int) else (i : Int))
        first | (rw [if_pos (by omega)]; done) | (rw [if_neg (by omega), x_up_k (by decide), h1]; omega)
      · rw [x_up_ne (by decide), x_up_ne (by decide)]; exact hM q hq
  | succ k ih =>
    intro i e s S I G o4 o5 o6 hi hs he hS hM hR hF hz
    obtain ⟨h1, h2, h3⟩ := mTx_FM hT hR (by decide) (by decide) (by decide)
    have hbi := h3 i (by omega)
    have hzb := zitem_bd (b i)
    have hzg := zitem_ge (b i)
    obtain ⟨hrs, hrs2, -⟩ := hM (2 * e + s) (by omega)
    have tl : ∀ (e' s' : Nat) (S' : Nat → Nat) (I' : Nat → Nat → Nat) (G' : Nat → Nat → Int) (E U : Int) (p4 p5 p6 : Option (Nat × Int)), E = e' → U = s' → zst (b i) (e, s, S, I) = some (e', s', S', I') → (s' = 0 ∨ s' = 1) → e' ≤ 3 → (∀ q, 2 * e' + s' < q → S' q = 0) → mRow (e' + 1) S' I' G' → FM [142, 143] [5] G0 G' → x_Fin xFL G' →
        X mX12_fault 1 0 0 (pFlt L G0 z) 178 [some (vR 127), some (vI E), some (vI U), some (vI i), p4, p5, p6] [] L G' 0 0 := by
      intro e' s' S' I' G' E U p4 p5 p6 hE hU hz' g1 g2 g3 g4 g5 g6
      subst hE; subst hU
      refine x_iinc (pc := 178) dX12_fault_178 rfl (by decide) rfl ?_
      refine x_goto (tgt := 20) (pc := 181) dX12_fault_181 (by decide) ?_
      exact ih (i + 1) e' s' S' I' G' _ _ _ (by omega) g1 g2 g3 g4 g5 g6 (by rw [← hz, zrun_s hz'])
    have out : zst (b i) (e, s, S, I) = none → ∀ (pc : Nat) (ls : List (Option (Nat × Int))), decode (x_cc mX12_fault) pc = .ok (.ireturn, 1) → X mX12_fault 1 0 0 (pFlt L G0 z) pc ls [vI i] L G 0 0 := by
      intro hz' pc ls hd
      rw [zrun_n hz'] at hz
      refine x_rI hd rfl ⟨by rw [← hz], hR, hF, fun hx => ?_⟩
      omega
    refine x_iloadn (pc := 20) dX12_fault_20 rfl ?_
    refine x_aloadn (pc := 21) dX12_fault_21 rfl ?_
    refine x_getI (pc := 22) dX12_fault_22 fl_X12_137 k_127 (hL 127 (by decide) (by decide)) ?_
    refine x_cge (tgt := 184) (pc := 25) dX12_fault_25 (by decide) (by omega) (fun c_25 => ?_) (fun c_25 => ?_)
    · skip
      exact absurd c_25 (by omega)
    refine x_aloadn (pc := 28) dX12_fault_28 rfl ?_
    refine x_getR (128) (pc := 29) dX12_fault_29 fl_X12_7 k_127 (hL 127 (by decide) (by decide)) (f_127_0 hF) ?_
    refine x_iloadn (pc := 32) dX12_fault_32 rfl ?_
    refine x_iald _ (pc := 33) dX12_fault_33 k_128 (hL 128 (by decide) (by decide)) (⟨rfl, by omega, by decide⟩) ?_
    rw [hbi.1]
    refine x_istore (pc := 34) dX12_fault_34 (by decide) rfl ?_
    refine x_iload (pc := 36) dX12_fault_36 rfl ?_
    refine x_cSI (pc := 38) dX12_fault_38 lk_X12_143 (c_mo_itemOf (by omega)) (⟨by decide, by decide⟩) (Nat.le_of_ble_eq_true rfl) rfl ?_
    rintro x G' ⟨rfl, rfl⟩
    refine x_istore (pc := 41) dX12_fault_41 (by decide) rfl ?_
    refine x_iconst (pc := 43) dX12_fault_43 ?_
    refine x_iloadn (pc := 44) dX12_fault_44 rfl ?_
    refine x_imul (pc := 45) dX12_fault_45 ?_
    refine x_iloadn (pc := 46) dX12_fault_46 rfl ?_
    refine x_iadd (pc := 47) dX12_fault_47 ?_
    refine x_istore (pc := 48) dX12_fault_48 (by decide) rfl ?_
    refine x_iload (pc := 50) dX12_fault_50 rfl ?_
    refine x_iconst (pc := 52) dX12_fault_52 ?_
    refine x_ceq (tgt := 104) (pc := 53) dX12_fault_53 (by decide) (by omega) (fun c_53 => ?_) (fun c_53 => ?_)
    · skip
      refine x_iload (pc := 104) dX12_fault_104 rfl ?_
      refine x_bipush (pc := 106) dX12_fault_106 (by decide) ?_
      refine x_cne (tgt := 123) (pc := 108) dX12_fault_108 (by decide) (by omega) (fun c_108 => ?_) (fun c_108 => ?_)
      · skip
        refine x_iload (pc := 123) dX12_fault_123 rfl ?_
        refine x_bipush (pc := 125) dX12_fault_125 (by decide) ?_
        refine x_cne (tgt := 169) (pc := 127) dX12_fault_127 (by decide) (by omega) (fun c_127 => ?_) (fun c_127 => ?_)
        · skip
          refine x_iload (pc := 169) dX12_fault_169 rfl ?_
          refine x_bipush (pc := 171) dX12_fault_171 (by decide) ?_
          refine x_ceq (tgt := 178) (pc := 173) dX12_fault_173 (by decide) (by omega) (fun c_173 => ?_) (fun c_173 => ?_)
          · skip
            first
            | exact tl e s S I _ _ _ _ _ _ rfl rfl (by rw [zst_eq, if_pos (by omega)]) hs he hS hM hR hF
            | exact tl e 1 S I _ _ _ _ _ _ rfl rfl (by rw [zst_eq, if_neg (by omega), if_neg (by omega), if_pos (by omega)]) (Or.inr rfl) he (fun q hq => hS q (by omega)) hM hR hF
            | exact tl (e + 1) 0 S I _ _ _ _ _ _ rfl rfl (by rw [zst_eq, if_neg (by omega), if_neg (by omega), if_neg (by omega), if_pos (by omega)]) (Or.inl rfl) (by omega) (fun q hq => hS q (by omega)) (hM.new (hS _ (by omega)) (hS _ (by omega))) ((hR.upA (by decide)).upA (by decide)) hF
            | (obtain ⟨v1, v2⟩ := zitem_V c_53; have hM' := hM.add (k := 2 * e + s) (by omega) (by omega) v1; rw [v2] at hM'; exact tl e s (zS1 S (2 * e + s)) (zI1 S I (2 * e + s) (zitem (b i)).toNat) _ _ _ _ _ _ rfl rfl (by rw [zst_eq, if_neg (by omega), if_pos (by omega)]) hs he (fun q hq => by rw [zS1_n (by omega)]; exact hS q hq) hM' ((hR.upA (by decide)).upA (by decide)) hF)
          · skip
            refine x_iloadn (pc := 176) dX12_fault_176 rfl ?_
            exact out (by rw [zst_eq, if_neg (by omega), if_neg (by omega), if_neg (by omega), if_neg (by omega)]) _ _ dX12_fault_177
        · skip
          refine x_iloadn (pc := 130) dX12_fault_130 rfl ?_
          refine x_ieq (tgt := 139) (pc := 131) dX12_fault_131 (by decide) (by omega) (fun c_131 => ?_) (fun c_131 => ?_)
          · skip
            refine x_iloadn (pc := 139) dX12_fault_139 rfl ?_
            exact out (by rw [zst_eq, if_neg (by omega), if_neg (by omega), if_neg (by omega), if_neg (by omega)]) _ _ dX12_fault_140
          · skip
            refine x_iloadn (pc := 134) dX12_fault_134 rfl ?_
            refine x_iconst (pc := 135) dX12_fault_135 ?_
            refine x_cne (tgt := 141) (pc := 136) dX12_fault_136 (by decide) (by omega) (fun c_136 => ?_) (fun c_136 => ?_)
            · skip
              refine x_iinc (pc := 141) dX12_fault_141 rfl (by decide) rfl ?_
              refine x_iconst (pc := 144) dX12_fault_144 ?_
              refine x_istoren (pc := 145) dX12_fault_145 rfl (by decide) rfl ?_
              refine x_aloadn (pc := 146) dX12_fault_146 rfl ?_
              refine x_getR (143) (pc := 147) dX12_fault_147 fl_X12_55 k_127 (hL 127 (by decide) (by decide)) (f_127_19 hF) ?_
              refine x_iconst (pc := 150) dX12_fault_150 ?_
              refine x_iloadn (pc := 151) dX12_fault_151 rfl ?_
              refine x_imul (pc := 152) dX12_fault_152 ?_
              refine x_iconst (pc := 153) dX12_fault_153 ?_
              refine x_iastF (2 * (e + 1)) (pc := 154) dX12_fault_154 k_143 (hL 143 (by decide) (by decide)) (⟨by omega, by omega, by decide⟩) hF (fun hF => ?_)
              refine x_aloadn (pc := 155) dX12_fault_155 rfl ?_
              refine x_getR (143) (pc := 156) dX12_fault_156 fl_X12_55 k_127 (hL 127 (by decide) (by decide)) (f_127_19 hF) ?_
              refine x_iconst (pc := 159) dX12_fault_159 ?_
              refine x_iloadn (pc := 160) dX12_fault_160 rfl ?_
              refine x_imul (pc := 161) dX12_fault_161 ?_
              refine x_iconst (pc := 162) dX12_fault_162 ?_
              refine x_iadd (pc := 163) dX12_fault_163 ?_
              refine x_iconst (pc := 164) dX12_fault_164 ?_
              refine x_iastF (2 * (e + 1) + 1) (pc := 165) dX12_fault_165 k_143 (hL 143 (by decide) (by decide)) (⟨by omega, by omega, by decide⟩) hF (fun hF => ?_)
              refine x_goto (tgt := 178) (pc := 166) dX12_fault_166 (by decide) ?_
              first
              | exact tl e s S I _ _ _ _ _ _ rfl rfl (by rw [zst_eq, if_pos (by omega)]) hs he hS hM hR hF
              | exact tl e 1 S I _ _ _ _ _ _ rfl rfl (by rw [zst_eq, if_neg (by omega), if_neg (by omega), if_pos (by omega)]) (Or.inr rfl) he (fun q hq => hS q (by omega)) hM hR hF
              | exact tl (e + 1) 0 S I _ _ _ _ _ _ rfl rfl (by rw [zst_eq, if_neg (by omega), if_neg (by omega), if_neg (by omega), if_pos (by omega)]) (Or.inl rfl) (by omega) (fun q hq => hS q (by omega)) (hM.new (hS _ (by omega)) (hS _ (by omega))) ((hR.upA (by decide)).upA (by decide)) hF
              | (obtain ⟨v1, v2⟩ := zitem_V c_53; have hM' := hM.add (k := 2 * e + s) (by omega) (by omega) v1; rw [v2] at hM'; exact tl e s (zS1 S (2 * e + s)) (zI1 S I (2 * e + s) (zitem (b i)).toNat) _ _ _ _ _ _ rfl rfl (by rw [zst_eq, if_neg (by omega), if_pos (by omega)]) hs he (fun q hq => by rw [zS1_n (by omega)]; exact hS q hq) hM' ((hR.upA (by decide)).upA (by decide)) hF)
            · skip
              refine x_iloadn (pc := 139) dX12_fault_139 rfl ?_
              exact out (by rw [zst_eq, if_neg (by omega), if_neg (by omega), if_neg (by omega), if_neg (by omega)]) _ _ dX12_fault_140
      · skip
        refine x_iloadn (pc := 111) dX12_fault_111 rfl ?_
        refine x_iconst (pc := 112) dX12_fault_112 ?_
        refine x_cne (tgt := 118) (pc := 113) dX12_fault_113 (by decide) (by omega) (fun c_113 => ?_) (fun c_113 => ?_)
        · skip
          refine x_iconst (pc := 118) dX12_fault_118 ?_
          refine x_istoren (pc := 119) dX12_fault_119 rfl (by decide) rfl ?_
          refine x_goto (tgt := 178) (pc := 120) dX12_fault_120 (by decide) ?_
          first
          | exact tl e s S I _ _ _ _ _ _ rfl rfl (by rw [zst_eq, if_pos (by omega)]) hs he hS hM hR hF
          | exact tl e 1 S I _ _ _ _ _ _ rfl rfl (by rw [zst_eq, if_neg (by omega), if_neg (by omega), if_pos (by omega)]) (Or.inr rfl) he (fun q hq => hS q (by omega)) hM hR hF
          | exact tl (e + 1) 0 S I _ _ _ _ _ _ rfl rfl (by rw [zst_eq, if_neg (by omega), if_neg (by omega), if_neg (by omega), if_pos (by omega)]) (Or.inl rfl) (by omega) (fun q hq => hS q (by omega)) (hM.new (hS _ (by omega)) (hS _ (by omega))) ((hR.upA (by decide)).upA (by decide)) hF
          | (obtain ⟨v1, v2⟩ := zitem_V c_53; have hM' := hM.add (k := 2 * e + s) (by omega) (by omega) v1; rw [v2] at hM'; exact tl e s (zS1 S (2 * e + s)) (zI1 S I (2 * e + s) (zitem (b i)).toNat) _ _ _ _ _ _ rfl rfl (by rw [zst_eq, if_neg (by omega), if_pos (by omega)]) hs he (fun q hq => by rw [zS1_n (by omega)]; exact hS q hq) hM' ((hR.upA (by decide)).upA (by decide)) hF)
        · skip
          refine x_iloadn (pc := 116) dX12_fault_116 rfl ?_
          exact out (by rw [zst_eq, if_neg (by omega), if_neg (by omega), if_neg (by omega), if_neg (by omega)]) _ _ dX12_fault_117
    · skip
      refine x_aloadn (pc := 56) dX12_fault_56 rfl ?_
      refine x_getR (143) (pc := 57) dX12_fault_57 fl_X12_55 k_127 (hL 127 (by decide) (by decide)) (f_127_19 hF) ?_
      refine x_iload (pc := 60) dX12_fault_60 rfl ?_
      refine x_iald (2 * e + s) (pc := 62) dX12_fault_62 k_143 (hL 143 (by decide) (by decide)) (⟨by omega, by omega, by decide⟩) ?_
      rw [hrs]
      refine x_bipush (pc := 63) dX12_fault_63 (by decide) ?_
      refine x_cne (tgt := 70) (pc := 65) dX12_fault_65 (by decide) (by omega) (fun c_65 => ?_) (fun c_65 => ?_)
      · skip
        refine x_aloadn (pc := 70) dX12_fault_70 rfl ?_
        refine x_getR (142) (pc := 71) dX12_fault_71 fl_X12_52 k_127 (hL 127 (by decide) (by decide)) (f_127_18 hF) ?_
        refine x_bipush (pc := 74) dX12_fault_74 (by decide) ?_
        refine x_iload (pc := 76) dX12_fault_76 rfl ?_
        refine x_imul (pc := 78) dX12_fault_78 ?_
        refine x_aloadn (pc := 79) dX12_fault_79 rfl ?_
        refine x_getR (143) (pc := 80) dX12_fault_80 fl_X12_55 k_127 (hL 127 (by decide) (by decide)) (f_127_19 hF) ?_
        refine x_iload (pc := 83) dX12_fault_83 rfl ?_
        refine x_iald (2 * e + s) (pc := 85) dX12_fault_85 k_143 (hL 143 (by decide) (by decide)) (⟨by omega, by omega, by decide⟩) ?_
        rw [hrs]
        refine x_iadd (pc := 86) dX12_fault_86 ?_
        refine x_iload (pc := 87) dX12_fault_87 rfl ?_
        refine x_iastF (12 * (2 * e + s) + S (2 * e + s)) (pc := 89) dX12_fault_89 k_142 (hL 142 (by decide) (by decide)) (⟨by omega, by omega, by decide⟩) hF (fun hF => ?_)
        refine x_aloadn (pc := 90) dX12_fault_90 rfl ?_
        refine x_getR (143) (pc := 91) dX12_fault_91 fl_X12_55 k_127 (hL 127 (by decide) (by decide)) (f_127_19 hF) ?_
        refine x_iload (pc := 94) dX12_fault_94 rfl ?_
        refine x_dup2 (pc := 96) dX12_fault_96 (fun h => by cases h) (fun h => by cases h) ?_
        refine x_iald (2 * e + s) (pc := 97) dX12_fault_97 k_143 (hL 143 (by decide) (by decide)) (⟨by omega, by omega, by decide⟩) ?_
        rw [x_up_ne (by decide), hrs]
        refine x_iconst (pc := 98) dX12_fault_98 ?_
        refine x_iadd (pc := 99) dX12_fault_99 ?_
        refine x_iastF (2 * e + s) (pc := 100) dX12_fault_100 k_143 (hL 143 (by decide) (by decide)) (⟨by omega, by omega, by decide⟩) hF (fun hF => ?_)
        refine x_goto (tgt := 178) (pc := 101) dX12_fault_101 (by decide) ?_
        first
        | exact tl e s S I _ _ _ _ _ _ rfl rfl (by rw [zst_eq, if_pos (by omega)]) hs he hS hM hR hF
        | exact tl e 1 S I _ _ _ _ _ _ rfl rfl (by rw [zst_eq, if_neg (by omega), if_neg (by omega), if_pos (by omega)]) (Or.inr rfl) he (fun q hq => hS q (by omega)) hM hR hF
        | exact tl (e + 1) 0 S I _ _ _ _ _ _ rfl rfl (by rw [zst_eq, if_neg (by omega), if_neg (by omega), if_neg (by omega), if_pos (by omega)]) (Or.inl rfl) (by omega) (fun q hq => hS q (by omega)) (hM.new (hS _ (by omega)) (hS _ (by omega))) ((hR.upA (by decide)).upA (by decide)) hF
        | (obtain ⟨v1, v2⟩ := zitem_V c_53; have hM' := hM.add (k := 2 * e + s) (by omega) (by omega) v1; rw [v2] at hM'; exact tl e s (zS1 S (2 * e + s)) (zI1 S I (2 * e + s) (zitem (b i)).toNat) _ _ _ _ _ _ rfl rfl (by rw [zst_eq, if_neg (by omega), if_pos (by omega)]) hs he (fun q hq => by rw [zS1_n (by omega)]; exact hS q hq) hM' ((hR.upA (by decide)).upA (by decide)) hF)
      · skip
        refine x_iloadn (pc := 68) dX12_fault_68 rfl ?_
        exact out (by rw [zst_eq, if_neg (by omega), if_neg (by omega), if_neg (by omega), if_neg (by omega)]) _ _ dX12_fault_69
theorem c_mo_fault {n : Nat} {b : Nat → Nat} {L : List Nat} {G : Nat → Nat → Int} (hL : x_SL L) (hF : x_Fin xFL G) (hT : mTx n b G) :
    CM yX12_fault mX12_fault 1 0 0 [vR 127] L G (pFlt L G (zrun b n 0 zw0)) := by
  refine Ct.of_X (μ := mX12_fault) rfl rfl (by decide) (fun h => by cases h) (Nat.le_of_ble_eq_true rfl) rfl ?_
  refine x_iconst (pc := 0) dX12_fault_0 ?_
  refine x_istoren (pc := 1) dX12_fault_1 rfl (by decide) rfl ?_
  refine x_iconst (pc := 2) dX12_fault_2 ?_
  refine x_istoren (pc := 3) dX12_fault_3 rfl (by decide) rfl ?_
  refine x_aloadn (pc := 4) dX12_fault_4 rfl ?_
  refine x_getR (143) (pc := 5) dX12_fault_5 fl_X12_55 k_127 (hL 127 (by decide) (by decide)) (f_127_19 hF) ?_
  refine x_iconst (pc := 8) dX12_fault_8 ?_
  refine x_iconst (pc := 9) dX12_fault_9 ?_
  refine x_iastF 0 (pc := 10) dX12_fault_10 k_143 (hL 143 (by decide) (by decide)) (by decide) hF (fun hF => ?_)
  refine x_aloadn (pc := 11) dX12_fault_11 rfl ?_
  refine x_getR (143) (pc := 12) dX12_fault_12 fl_X12_55 k_127 (hL 127 (by decide) (by decide)) (f_127_19 hF) ?_
  refine x_iconst (pc := 15) dX12_fault_15 ?_
  refine x_iconst (pc := 16) dX12_fault_16 ?_
  refine x_iastF 1 (pc := 17) dX12_fault_17 k_143 (hL 143 (by decide) (by decide)) (by decide) hF (fun hF => ?_)
  refine x_iconst (pc := 18) dX12_fault_18 ?_
  refine x_istoren (pc := 19) dX12_fault_19 rfl (by decide) rfl ?_
  refine l_mo_fault hL hT n 0 0 0 (fun _ => 0) (fun _ _ => 0) _ _ _ _ (by omega) (Or.inl rfl) (by decide) (fun _ _ => rfl) ?_ ((FM.rf.upA (by decide)).upA (by decide)) hF rfl
  exact mRow.new (m := 0) (S := fun _ => 0) (I := fun _ _ => 0) (fun q hq => absurd hq (Nat.not_lt_zero q)) rfl rfl

