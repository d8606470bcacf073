/-! the reference: ring -/
section XRX
variable {L : List Nat} {n : Nat} {T : Nat → Int} {B : Nat → Prop} {ld : Nat → Nat}
def zFp (T : Nat → Int) (B : Nat → Prop) (n : Nat) (fe : Nat → Int) (ff : Int) (m : Nat) : Prop := ff = 1 ∨ ∃ e, e < m ∧ fe e = 1 ∧ ∃ y : Nat, T e = ((y : Nat) : Int) ∧ zLe n T B y
theorem zFp_s {fe : Nat → Int} {ff : Int} {m : Nat} : zFp T B n fe ff (m + 1) ↔ zFp T B n fe ff m ∨ (fe m = 1 ∧ ∃ y : Nat, T m = ((y : Nat) : Int) ∧ zLe n T B y) := by
  unfold zFp
  constructor
  · rintro (h | ⟨e, h1, h2⟩)
    · exact Or.inl (Or.inl h)
    · by_cases c : e = m
      · rw [c] at h2; exact Or.inr h2
      · exact Or.inl (Or.inr ⟨e, by omega, h2⟩)
  · rintro ((h | ⟨e, h1, h2⟩) | h)
    · exact Or.inl h
    · exact Or.inr ⟨e, by omega, h2⟩
    · exact Or.inr ⟨m, by omega, h⟩
def mFe (n : Nat) (fe : Nat → Int) (G : Nat → Nat → Int) : Prop := ∀ e, e < 4 * n → G 152 e = fe e ∧ (fe e = 0 ∨ fe e = 1)
theorem mFe.FM {fe : Nat → Int} {S F : List Nat} {G G' : Nat → Nat → Int} (h : mFe n fe G) (k : FM S F G G') (h1 : 152 ∉ S) : mFe n fe G' := fun j hj => by
  rw [k 152 _ h1 (fun w => absurd w (by decide))]; exact h j hj
theorem l_mo_riJ {Q : x_Q} {e0 w2 ff : Int} {fe : Nat → Int} {k : Nat} {G0 : Nat → Nat → Int} (hL : x_SL L) (ht : mTg n T G0) (hT : ∀ e, e < 4 * n → T e = -1 ∨ (0 ≤ T e ∧ T e < n)) (hlg : mLg n ld G0) (hld : ∀ y, y < n → (ld y = 1 ↔ zLe n T B y)) (hfe : mFe n fe G0) (hk : k < n)
    (cont : ∀ (G : Nat → Nat → Int) (w3 : Int) (o6 : Option (Nat × Int)), G 157 k = ((zoc T ld (fun _ => 0) k 4 : Nat) : Int) → (∀ k', k' ≠ k → G 157 k' = G0 157 k') → ((w3 = 1 ∧ zFp T B n fe ff (4 * k + 4)) ∨ (w3 = 0 ∧ ¬ zFp T B n fe ff (4 * k + 4))) → FM [157] [] G0 G → x_Fin xFL G → X mX12_ring 3 0 0 Q 148 [some (vR 127), some (vI e0), some (vI w2), some (vI w3), some (vI k), some (vI 4), o6] [] L G 0 0) :
    ∀ (r j : Nat) (G : Nat → Nat → Int) (w3 : Int) (o6 : Option (Nat × Int)), j + r = 4 → G 157 k = ((zoc T ld (fun _ => 0) k j : Nat) : Int) → (∀ k', k' ≠ k → G 157 k' = G0 157 k') → ((w3 = 1 ∧ zFp T B n fe ff (4 * k + j)) ∨ (w3 = 0 ∧ ¬ zFp T B n fe ff (4 * k + j))) → FM [157] [] G0 G → x_Fin xFL G →
    X mX12_ring 3 0 0 Q 58 [some (vR 127), some (vI e0), some (vI w2), some (vI w3), some (vI k), some (vI j), o6] [] L G 0 0 := by
  have hn := ht.2.1
  intro r
  induction r with
  | zero =>
    intro j G w3 o6 hj ho ho2 hw hQ hF
    have hj : j = 4 := by omega
    subst hj
    refine x_iload (pc := 58) dX12_ring_58 rfl ?_
    refine x_iconst (pc := 60) dX12_ring_60 ?_
    refine x_cge (tgt := 148) (pc := 61) dX12_ring_61 (by decide) (by omega) (fun c_61 => ?_) (fun c_61 => ?_)
    rotate_left
    · skip
      exact absurd c_61 (by decide)
    exact cont G w3 _ ho ho2 hw hQ hF
  | succ r ih =>
    intro j G w3 o6 hj ho ho2 hw hQ hF
    have ht' := ht.FM hQ (by decide) (by decide) (by decide)
    have hlg' := hlg.FM hQ (by decide)
    have hfe' := hfe.FM hQ (by decide)
    have hei : 4 * ((k : Nat) : Int) + ((j : Nat) : Int) = ((4 * k + j : Nat) : Int) := by omega
    have hTe := ht'.2.2 (4 * k + j) (by omega)
    obtain ⟨f1, f2⟩ := hfe' (4 * k + j) (by omega)
    have hz : zoc T ld (fun _ => 0) k (j + 1) = zoc T ld (fun _ => 0) k j + zoe T ld (fun _ => 0) (4 * k + j) := rfl
    have hzl := zoc_le (T := T) (ld := ld) (off := fun _ => 0) (k := k) j
    have hw01 : w3 = 0 ∨ w3 = 1 := hw.elim (fun w => Or.inr w.1) (fun w => Or.inl w.1)
    have dk := hlg' k hk
    have hFs := fun (_ : Unit) => zFp_s (T := T) (B := B) (n := n) (fe := fe) (ff := ff) (m := 4 * k + j)
    have ihx := ih (j + 1)
    rw [hz, show 4 * k + (j + 1) = 4 * k + j + 1 by omega] at ihx
    have off0 : ∀ _ : Unit, ¬ (∃ y : Nat, T (4 * k + j) = ((y : Nat) : Int) ∧ zLe n T B y) → zoe T ld (fun _ => 0) (4 * k + j) = 0 ∧ ((w3 = 1 ∧ zFp T B n fe ff (4 * k + j + 1)) ∨ (w3 = 0 ∧ ¬ zFp T B n fe ff (4 * k + j + 1))) := fun _ w => by
      refine ⟨?_, ?_⟩
      · unfold zoe
        rw [if_neg]
        intro q
        have hTb : T (4 * k + j) < n := by rcases hT (4 * k + j) (by omega) with v | v <;> omega
        exact w ⟨(T (4 * k + j)).toNat, by omega, (hld _ (by omega)).mp q.2.1⟩
      · rw [hFs ()]
        rcases hw with ⟨q1, q2⟩ | ⟨q1, q2⟩
        · exact Or.inl ⟨q1, Or.inl q2⟩
        · exact Or.inr ⟨q1, fun q => q.elim q2 (fun v => w v.2)⟩
    rcases hT (4 * k + j) (by omega) with t1 | ⟨t1, t2⟩
    · obtain ⟨z1, z2⟩ := off0 () (fun ⟨y, w, _⟩ => by omega)
      rw [z1, Nat.add_zero] at ihx
      rw [t1] at hTe
      refine x_iload (pc := 58) dX12_ring_58 rfl ?_
      refine x_iconst (pc := 60) dX12_ring_60 ?_
      refine x_cge (tgt := 148) (pc := 61) dX12_ring_61 (by decide) (by omega) (fun c_61 => ?_) (fun c_61 => ?_)
      · skip
        exact absurd c_61 (by omega)
      refine x_aloadn (pc := 64) dX12_ring_64 rfl ?_
      refine x_getR (151) (pc := 65) dX12_ring_65 fl_X12_80 k_127 (hL 127 (by decide) (by decide)) (f_127_29 hF) ?_
      refine x_iconst (pc := 68) dX12_ring_68 ?_
      refine x_iload (pc := 69) dX12_ring_69 rfl ?_
      refine x_imul (pc := 71) dX12_ring_71 ?_
      refine x_iload (pc := 72) dX12_ring_72 rfl ?_
      refine x_iadd (pc := 74) dX12_ring_74 ?_
      rw [hei]
      refine x_iald (4 * k + j) (pc := 75) dX12_ring_75 k_151 (hL 151 (by decide) (by decide)) (⟨by omega, by omega, by decide⟩) ?_
      rw [hTe]
      refine x_istore (pc := 76) dX12_ring_76 (by decide) rfl ?_
      refine x_aloadn (pc := 78) dX12_ring_78 rfl ?_
      refine x_getR (153) (pc := 79) dX12_ring_79 fl_X12_87 k_127 (hL 127 (by decide) (by decide)) (f_127_31 hF) ?_
      refine x_iload (pc := 82) dX12_ring_82 rfl ?_
      refine x_iald (k) (pc := 84) dX12_ring_84 k_153 (hL 153 (by decide) (by decide)) (⟨by omega, by omega, by decide⟩) ?_
      refine x_iconst (pc := 85) dX12_ring_85 ?_
      refine x_ceq (tgt := 142) (pc := 86) dX12_ring_86 (by decide) (by omega) (fun c_86 => ?_) (fun c_86 => ?_)
      · skip
        refine x_iinc (pc := 142) dX12_ring_142 rfl (by decide) rfl ?_
        refine x_goto (tgt := 58) (pc := 145) dX12_ring_145 (by decide) ?_
        exact ihx G w3 _ (by omega) ho ho2 z2 hQ hF
      · skip
        refine x_iload (pc := 89) dX12_ring_89 rfl ?_
        refine x_iconst (pc := 91) dX12_ring_91 ?_
        refine x_ceq (tgt := 142) (pc := 92) dX12_ring_92 (by decide) (by omega) (fun c_92 => ?_) (fun c_92 => ?_)
        rotate_left
        · skip
          exact absurd rfl c_92
        refine x_iinc (pc := 142) dX12_ring_142 rfl (by decide) rfl ?_
        refine x_goto (tgt := 58) (pc := 145) dX12_ring_145 (by decide) ?_
        exact ihx G w3 _ (by omega) ho ho2 z2 hQ hF
    · obtain ⟨y, hy⟩ : ∃ y : Nat, T (4 * k + j) = ((y : Nat) : Int) := ⟨(T (4 * k + j)).toNat, by omega⟩
      rw [hy] at hTe t2
      have hyn : y < n := by omega
      have dy := hlg' y hyn
      by_cases cl : ld y = 1
      · have hly := (hld y hyn).mp cl
        have hkl : ld k = 1 := (hld k hk).mpr (hly.bk hk (by omega) hy)
        have z1 : zoe T ld (fun _ => 0) (4 * k + j) = 1 := by
          unfold zoe
          rw [hy, Int.toNat_natCast, if_pos ⟨by omega, cl, rfl⟩]
        rw [z1] at ihx
        have nw : ∀ v : Int, ((v = 1 ∧ (w3 = 1 ∨ fe (4 * k + j) = 1)) ∨ (v = 0 ∧ w3 = 0 ∧ fe (4 * k + j) = 0)) → ((v = 1 ∧ zFp T B n fe ff (4 * k + j + 1)) ∨ (v = 0 ∧ ¬ zFp T B n fe ff (4 * k + j + 1))) := fun v hv => by
          rw [hFs ()]
          rcases hv with ⟨v1, v2⟩ | ⟨v1, v2, v3⟩
          · refine Or.inl ⟨v1, ?_⟩
            rcases v2 with v2 | v2
            · rcases hw with ⟨_, q⟩ | ⟨q, _⟩
              · exact Or.inl q
              · omega
            · exact Or.inr ⟨v2, y, hy, hly⟩
          · refine Or.inr ⟨v1, fun q => ?_⟩
            rcases q with q | q
            · rcases hw with ⟨w, _⟩ | ⟨_, w⟩
              · omega
              · exact w q
            · have := q.1; omega
        refine x_iload (pc := 58) dX12_ring_58 rfl ?_
        refine x_iconst (pc := 60) dX12_ring_60 ?_
        refine x_cge (tgt := 148) (pc := 61) dX12_ring_61 (by decide) (by omega) (fun c_61 => ?_) (fun c_61 => ?_)
        · skip
          exact absurd c_61 (by omega)
        refine x_aloadn (pc := 64) dX12_ring_64 rfl ?_
        refine x_getR (151) (pc := 65) dX12_ring_65 fl_X12_80 k_127 (hL 127 (by decide) (by decide)) (f_127_29 hF) ?_
        refine x_iconst (pc := 68) dX12_ring_68 ?_
        refine x_iload (pc := 69) dX12_ring_69 rfl ?_
        refine x_imul (pc := 71) dX12_ring_71 ?_
        refine x_iload (pc := 72) dX12_ring_72 rfl ?_
        refine x_iadd (pc := 74) dX12_ring_74 ?_
        rw [hei]
        refine x_iald (4 * k + j) (pc := 75) dX12_ring_75 k_151 (hL 151 (by decide) (by decide)) (⟨by omega, by omega, by decide⟩) ?_
        rw [hTe]
        refine x_istore (pc := 76) dX12_ring_76 (by decide) rfl ?_
        refine x_aloadn (pc := 78) dX12_ring_78 rfl ?_
        refine x_getR (153) (pc := 79) dX12_ring_79 fl_X12_87 k_127 (hL 127 (by decide) (by decide)) (f_127_31 hF) ?_
        refine x_iload (pc := 82) dX12_ring_82 rfl ?_
        refine x_iald (k) (pc := 84) dX12_ring_84 k_153 (hL 153 (by decide) (by decide)) (⟨by omega, by omega, by decide⟩) ?_
        refine x_iconst (pc := 85) dX12_ring_85 ?_
        refine x_ceq (tgt := 142) (pc := 86) dX12_ring_86 (by decide) (by omega) (fun c_86 => ?_) (fun c_86 => ?_)
        · skip
          exact absurd c_86 (by omega)
        refine x_iload (pc := 89) dX12_ring_89 rfl ?_
        refine x_iconst (pc := 91) dX12_ring_91 ?_
        refine x_ceq (tgt := 142) (pc := 92) dX12_ring_92 (by decide) (by omega) (fun c_92 => ?_) (fun c_92 => ?_)
        · skip
          exact absurd c_92 (by omega)
        refine x_aloadn (pc := 95) dX12_ring_95 rfl ?_
        refine x_getR (153) (pc := 96) dX12_ring_96 fl_X12_87 k_127 (hL 127 (by decide) (by decide)) (f_127_31 hF) ?_
        refine x_iload (pc := 99) dX12_ring_99 rfl ?_
        refine x_iald (y) (pc := 101) dX12_ring_101 k_153 (hL 153 (by decide) (by decide)) (⟨by omega, by omega, by decide⟩) ?_
        refine x_iconst (pc := 102) dX12_ring_102 ?_
        refine x_ceq (tgt := 142) (pc := 103) dX12_ring_103 (by decide) (by omega) (fun c_103 => ?_) (fun c_103 => ?_)
        · skip
          exact absurd c_103 (by omega)
        refine x_aloadn (pc := 106) dX12_ring_106 rfl ?_
        refine x_getR (157) (pc := 107) dX12_ring_107 fl_X12_99 k_127 (hL 127 (by decide) (by decide)) (f_127_41 hF) ?_
        refine x_iload (pc := 110) dX12_ring_110 rfl ?_
        refine x_dup2 (pc := 112) dX12_ring_112 (fun h => by cases h) (fun h => by cases h) ?_
        refine x_iald (k) (pc := 113) dX12_ring_113 k_157 (hL 157 (by decide) (by decide)) (⟨by omega, by omega, by decide⟩) ?_
        rw [ho]
        refine x_iconst (pc := 114) dX12_ring_114 ?_
        refine x_iadd (pc := 115) dX12_ring_115 ?_
        refine x_iastF (k) (pc := 116) dX12_ring_116 k_157 (hL 157 (by decide) (by decide)) (⟨by omega, by omega, by decide⟩) hF (fun hF => ?_)
        refine x_iloadn (pc := 117) dX12_ring_117 rfl ?_
        refine x_ine (tgt := 136) (pc := 118) dX12_ring_118 (by decide) (by omega) (fun c_118 => ?_) (fun c_118 => ?_)
        · skip
          refine x_iconst (pc := 136) dX12_ring_136 ?_
          refine x_goto (tgt := 141) (pc := 137) dX12_ring_137 (by decide) ?_
          refine x_istoren (pc := 141) dX12_ring_141 rfl (by decide) rfl ?_
          refine x_iinc (pc := 142) dX12_ring_142 rfl (by decide) rfl ?_
          refine x_goto (tgt := 58) (pc := 145) dX12_ring_145 (by decide) ?_
          first
          | exact ihx _ 1 _ (by omega) (by rw [x_up_s]; omega) (fun k' hk' => by rw [x_up_k hk']; exact ho2 k' hk') (nw 1 (Or.inl ⟨rfl, by omega⟩)) (hQ.upA (by decide)) hF
          | exact ihx _ 0 _ (by omega) (by rw [x_up_s]; omega) (fun k' hk' => by rw [x_up_k hk']; exact ho2 k' hk') (nw 0 (Or.inr ⟨rfl, by omega, by omega⟩)) (hQ.upA (by decide)) hF
        · skip
          refine x_aloadn (pc := 121) dX12_ring_121 rfl ?_
          refine x_getR (152) (pc := 122) dX12_ring_122 fl_X12_83 k_127 (hL 127 (by decide) (by decide)) (f_127_30 hF) ?_
          refine x_iconst (pc := 125) dX12_ring_125 ?_
          refine x_iload (pc := 126) dX12_ring_126 rfl ?_
          refine x_imul (pc := 128) dX12_ring_128 ?_
          refine x_iload (pc := 129) dX12_ring_129 rfl ?_
          refine x_iadd (pc := 131) dX12_ring_131 ?_
          rw [hei]
          refine x_zald (4 * k + j) (pc := 132) dX12_ring_132 k_152 (hL 152 (by decide) (by decide)) (⟨by omega, by omega, by decide⟩) ?_
          rw [x_up_ne (by decide), f1]
          refine x_ieq (tgt := 140) (pc := 133) dX12_ring_133 (by decide) (by omega) (fun c_133 => ?_) (fun c_133 => ?_)
          · skip
            refine x_iconst (pc := 140) dX12_ring_140 ?_
            refine x_istoren (pc := 141) dX12_ring_141 rfl (by decide) rfl ?_
            refine x_iinc (pc := 142) dX12_ring_142 rfl (by decide) rfl ?_
            refine x_goto (tgt := 58) (pc := 145) dX12_ring_145 (by decide) ?_
            first
            | exact ihx _ 1 _ (by omega) (by rw [x_up_s]; omega) (fun k' hk' => by rw [x_up_k hk']; exact ho2 k' hk') (nw 1 (Or.inl ⟨rfl, by omega⟩)) (hQ.upA (by decide)) hF
            | exact ihx _ 0 _ (by omega) (by rw [x_up_s]; omega) (fun k' hk' => by rw [x_up_k hk']; exact ho2 k' hk') (nw 0 (Or.inr ⟨rfl, by omega, by omega⟩)) (hQ.upA (by decide)) hF
          · skip
            refine x_iconst (pc := 136) dX12_ring_136 ?_
            refine x_goto (tgt := 141) (pc := 137) dX12_ring_137 (by decide) ?_
            refine x_istoren (pc := 141) dX12_ring_141 rfl (by decide) rfl ?_
            refine x_iinc (pc := 142) dX12_ring_142 rfl (by decide) rfl ?_
            refine x_goto (tgt := 58) (pc := 145) dX12_ring_145 (by decide) ?_
            first
            | exact ihx _ 1 _ (by omega) (by rw [x_up_s]; omega) (fun k' hk' => by rw [x_up_k hk']; exact ho2 k' hk') (nw 1 (Or.inl ⟨rfl, by omega⟩)) (hQ.upA (by decide)) hF
            | exact ihx _ 0 _ (by omega) (by rw [x_up_s]; omega) (fun k' hk' => by rw [x_up_k hk']; exact ho2 k' hk') (nw 0 (Or.inr ⟨rfl, by omega, by omega⟩)) (hQ.upA (by decide)) hF
      · obtain ⟨z1, z2⟩ := off0 () (fun ⟨y', w1, w2⟩ => by
          have e : y' = y := by omega
          rw [e] at w2; exact cl ((hld y hyn).mpr w2))
        rw [z1, Nat.add_zero] at ihx
        refine x_iload (pc := 58) dX12_ring_58 rfl ?_
        refine x_iconst (pc := 60) dX12_ring_60 ?_
        refine x_cge (tgt := 148) (pc := 61) dX12_ring_61 (by decide) (by omega) (fun c_61 => ?_) (fun c_61 => ?_)
        · skip
          exact absurd c_61 (by omega)
        refine x_aloadn (pc := 64) dX12_ring_64 rfl ?_
        refine x_getR (151) (pc := 65) dX12_ring_65 fl_X12_80 k_127 (hL 127 (by decide) (by decide)) (f_127_29 hF) ?_
        refine x_iconst (pc := 68) dX12_ring_68 ?_
        refine x_iload (pc := 69) dX12_ring_69 rfl ?_
        refine x_imul (pc := 71) dX12_ring_71 ?_
        refine x_iload (pc := 72) dX12_ring_72 rfl ?_
        refine x_iadd (pc := 74) dX12_ring_74 ?_
        rw [hei]
        refine x_iald (4 * k + j) (pc := 75) dX12_ring_75 k_151 (hL 151 (by decide) (by decide)) (⟨by omega, by omega, by decide⟩) ?_
        rw [hTe]
        refine x_istore (pc := 76) dX12_ring_76 (by decide) rfl ?_
        refine x_aloadn (pc := 78) dX12_ring_78 rfl ?_
        refine x_getR (153) (pc := 79) dX12_ring_79 fl_X12_87 k_127 (hL 127 (by decide) (by decide)) (f_127_31 hF) ?_
        refine x_iload (pc := 82) dX12_ring_82 rfl ?_
        refine x_iald (k) (pc := 84) dX12_ring_84 k_153 (hL 153 (by decide) (by decide)) (⟨by omega, by omega, by decide⟩) ?_
        refine x_iconst (pc := 85) dX12_ring_85 ?_
        refine x_ceq (tgt := 142) (pc := 86) dX12_ring_86 (by decide) (by omega) (fun c_86 => ?_) (fun c_86 => ?_)
        · skip
          refine x_iinc (pc := 142) dX12_ring_142 rfl (by decide) rfl ?_
          refine x_goto (tgt := 58) (pc := 145) dX12_ring_145 (by decide) ?_
          exact ihx G w3 _ (by omega) ho ho2 z2 hQ hF
        · skip
          refine x_iload (pc := 89) dX12_ring_89 rfl ?_
          refine x_iconst (pc := 91) dX12_ring_91 ?_
          refine x_ceq (tgt := 142) (pc := 92) dX12_ring_92 (by decide) (by omega) (fun c_92 => ?_) (fun c_92 => ?_)
          · skip
            exact absurd c_92 (by omega)
          refine x_aloadn (pc := 95) dX12_ring_95 rfl ?_
          refine x_getR (153) (pc := 96) dX12_ring_96 fl_X12_87 k_127 (hL 127 (by decide) (by decide)) (f_127_31 hF) ?_
          refine x_iload (pc := 99) dX12_ring_99 rfl ?_
          refine x_iald (y) (pc := 101) dX12_ring_101 k_153 (hL 153 (by decide) (by decide)) (⟨by omega, by omega, by decide⟩) ?_
          refine x_iconst (pc := 102) dX12_ring_102 ?_
          refine x_ceq (tgt := 142) (pc := 103) dX12_ring_103 (by decide) (by omega) (fun c_103 => ?_) (fun c_103 => ?_)
          rotate_left
          · skip
            exact absurd (by omega) cl
          refine x_iinc (pc := 142) dX12_ring_142 rfl (by decide) rfl ?_
          refine x_goto (tgt := 58) (pc := 145) dX12_ring_145 (by decide) ?_
          exact ihx G w3 _ (by omega) ho ho2 z2 hQ hF
theorem l_mo_riK {e0 w2 ff : Int} {fe : Nat → Int} {G0 : Nat → Nat → Int} (hL : x_SL L) (ht : mTg n T G0) (hT : ∀ e, e < 4 * n → T e = -1 ∨ (0 ≤ T e ∧ T e < n)) (hlg : mLg n ld G0) (hld : ∀ y, y < n → (ld y = 1 ↔ zLe n T B y)) (hfe : mFe n fe G0) :
    ∀ (r k : Nat) (G : Nat → Nat → Int) (w3 : Int) (o5 o6 : Option (Nat × Int)), k + r = n → (∀ k', k' < k → G 157 k' = ((zoc T ld (fun _ => 0) k' 4 : Nat) : Int)) → ((w3 = 1 ∧ zFp T B n fe ff (4 * k)) ∨ (w3 = 0 ∧ ¬ zFp T B n fe ff (4 * k))) → FM [157] [] G0 G → x_Fin xFL G →
    X mX12_ring 3 0 0 (pRn L G0 n T B (zFp T B n fe ff (4 * n))) 38 [some (vR 127), some (vI e0), some (vI w2), some (vI w3), some (vI k), o5, o6] [] L G 0 0 := by
  have hn := ht.2.1
  intro r
  induction r with
  | zero =>
    intro k G w3 o5 o6 hk ho hw hQ hF
    have hk : k = n := by omega
    subst hk
    have ht' := ht.FM hQ (by decide) (by decide) (by decide)
    have hz : zhn (fun _ => 0) k = 0 := zhn_0 k
    refine x_iload (pc := 38) dX12_ring_38 rfl ?_
    refine x_aloadn (pc := 40) dX12_ring_40 rfl ?_
    refine x_getI (pc := 41) dX12_ring_41 fl_X12_234 k_127 (hL 127 (by decide) (by decide)) ?_
    rw [ht'.1]
    refine x_cge (tgt := 154) (pc := 44) dX12_ring_44 (by decide) (by omega) (fun c_44 => ?_) (fun c_44 => ?_)
    rotate_left
    · skip
      exact absurd c_44 (by omega)
    refine x_iconst (pc := 154) dX12_ring_154 ?_
    refine x_istore (pc := 155) dX12_ring_155 (by decide) rfl ?_
    refine x_aloadn (pc := 157) dX12_ring_157 rfl ?_
    refine x_getI (pc := 158) dX12_ring_158 fl_X12_234 k_127 (hL 127 (by decide) (by decide)) ?_
    rw [ht'.1]
    refine x_istore (pc := 161) dX12_ring_161 (by decide) rfl ?_
    have e := l_mo_rnR (e0 := e0) (w2 := w2) (fq := zFp T B k fe ff (4 * k)) hL ht hT hlg hld hw k (fun _ => 0) G o6 (by omega) ⟨fun _ => 0, fun x j y _ w => absurd rfl w⟩ (fun k' hk' => Or.inl ⟨rfl, ho k' hk'⟩) hQ hF
    rw [hz, Nat.sub_zero] at e
    exact e
  | succ r ih =>
    intro k G w3 o5 o6 hk ho hw hQ hF
    have ht' := ht.FM hQ (by decide) (by decide) (by decide)
    have q1 : FM [157] [] G0 (x_up G 157 k 0) := hQ.upA (by decide)
    refine x_iload (pc := 38) dX12_ring_38 rfl ?_
    refine x_aloadn (pc := 40) dX12_ring_40 rfl ?_
    refine x_getI (pc := 41) dX12_ring_41 fl_X12_234 k_127 (hL 127 (by decide) (by decide)) ?_
    rw [ht'.1]
    refine x_cge (tgt := 154) (pc := 44) dX12_ring_44 (by decide) (by omega) (fun c_44 => ?_) (fun c_44 => ?_)
    · skip
      exact absurd c_44 (by omega)
    refine x_aloadn (pc := 47) dX12_ring_47 rfl ?_
    refine x_getR (157) (pc := 48) dX12_ring_48 fl_X12_99 k_127 (hL 127 (by decide) (by decide)) (f_127_41 hF) ?_
    refine x_iload (pc := 51) dX12_ring_51 rfl ?_
    refine x_iconst (pc := 53) dX12_ring_53 ?_
    refine x_iastF (k) (pc := 54) dX12_ring_54 k_157 (hL 157 (by decide) (by decide)) (⟨by omega, by omega, by decide⟩) hF (fun hF => ?_)
    refine x_iconst (pc := 55) dX12_ring_55 ?_
    refine x_istore (pc := 56) dX12_ring_56 (by decide) rfl ?_
    refine l_mo_riJ (ff := ff) (B := B) hL (ht.FM q1 (by decide) (by decide) (by decide)) hT (hlg.FM q1 (by decide)) hld (hfe.FM q1 (by decide)) (show k < n by omega) (fun G2 w3 o6 b1 b2 b3 b4 hF => ?_) 4 0 _ w3 _ (Nat.zero_add _) (by rw [x_up_s]; rfl) (fun _ _ => rfl) hw FM.rf hF
    refine x_iinc (pc := 148) dX12_ring_148 rfl (by decide) rfl ?_
    refine x_goto (tgt := 38) (pc := 151) dX12_ring_151 (by decide) ?_
    refine ih (k + 1) G2 w3 _ _ (by omega) (fun k' hk' => ?_) (by rw [show 4 * (k + 1) = 4 * k + 4 by omega]; exact b3) (q1.tr b4) hF
    by_cases c : k' = k
    · rw [c]; exact b1
    · rw [b2 k' c, x_up_k c]; exact ho k' (by omega)
end XRX
section XRY
variable {L : List Nat} {m : Nat} {S : Nat → Nat} {I : Nat → Nat → Nat}
theorem zffs_01 (s : zSt) : zffs s = 0 ∨ zffs s = 1 := by unfold zffs; split <;> simp
theorem zfe_01 (s0 : zSt) (e : Nat) : zfe s0 e = 0 ∨ zfe s0 e = 1 := by
  unfold zfe
  cases (zN s0 e)[e / 4]? with
  | none => exact Or.inl rfl
  | some s => simp only; split
              · split <;> simp
              · exact Or.inl rfl
abbrev z_cS2 : List Nat := [148, 149, 150, 151, 152, 153, 154, 155, 156, 157, 158, 159, 160, 161]
theorem c_mo_ring {e0 : Int} {G : Nat → Nat → Int} (hL : x_SL L) (hF : x_Fin xFL G) (hE : mEq m S I G) (he0 : -2147483648 ≤ e0 ∧ e0 < 2147483648) :
    CM yX12_ring mX12_ring 3 0 0 [vR 127, vI e0] L G (pMm L G z_cS2 (zCP m S I (zRiP S I) e0)) := by
  refine Ct.of_X (μ := mX12_ring) rfl rfl (by decide) (fun h => by cases h) (Nat.le_of_ble_eq_true rfl) rfl ?_
  refine x_aloadn (pc := 0) dX12_ring_0 rfl ?_
  refine x_iloadn (pc := 1) dX12_ring_1 rfl ?_
  refine x_cVI (pc := 2) dX12_ring_2 lk_X12_274 (c_mo_chase hL hF hE he0) k_127 ⟨by decide, rfl⟩ (hL 127 (by decide) (by decide)) (⟨by decide, by decide⟩) (Nat.le_of_ble_eq_true rfl) rfl ?_
  rintro x G2 ⟨hx, hQ, hF⟩
  have hxb := zChP_bd hx
  have hno := fun (_ : Unit) w => zChP_no (P := zRiP S I) hx w
  have hok := fun (_ : Unit) w => zChP_ok hx w
  refine x_istoren (pc := 5) dX12_ring_5 rfl (by decide) rfl ?_
  refine x_iloadn (pc := 6) dX12_ring_6 rfl ?_
  refine x_ine (tgt := 20) (pc := 7) dX12_ring_7 (by decide) (by omega) (fun c_7 => ?_) (fun c_7 => ?_)
  · skip
    refine x_iloadn (pc := 20) dX12_ring_20 rfl ?_
    refine x_ieq (tgt := 28) (pc := 21) dX12_ring_21 (by decide) (by omega) (fun c_21 => ?_) (fun c_21 => ?_)
    · skip
      refine x_iconst (pc := 28) dX12_ring_28 ?_
      refine x_rI (pc := 29) dX12_ring_29 rfl ?_
      first
      | exact ⟨hno () (by omega), hQ.mono (by decide) (by decide), hF⟩
      | (refine ⟨Or.inr ⟨e, h1, h2, Or.inr ⟨h3, Or.inr ⟨h4, Or.inl ⟨rfl, ?_⟩⟩⟩⟩, hQ.mono (by decide) (by decide), hF⟩
         rcases hd0.1 with ⟨_, w⟩ | ⟨t, w, _⟩
         · exact w
         · omega)
      | (exfalso; omega)
    · skip
      refine x_iloadn (pc := 24) dX12_ring_24 rfl ?_
      refine x_goto (tgt := 29) (pc := 25) dX12_ring_25 (by decide) ?_
      refine x_rI (pc := 29) dX12_ring_29 rfl ?_
      first
      | exact ⟨hno () (by omega), hQ.mono (by decide) (by decide), hF⟩
      | (refine ⟨Or.inr ⟨e, h1, h2, Or.inr ⟨h3, Or.inr ⟨h4, Or.inl ⟨rfl, ?_⟩⟩⟩⟩, hQ.mono (by decide) (by decide), hF⟩
         rcases hd0.1 with ⟨_, w⟩ | ⟨t, w, _⟩
         · exact w
         · omega)
      | (exfalso; omega)
  · skip
    obtain ⟨e, h1, h2, h3, h4, h5, h6⟩ := hok () (by omega)
    have h0 := zN_pos (s0 := zsk (zs0 S I e)) 6000
    have hd0 := h5.2.2 0 (by omega)
    refine x_aloadn (pc := 10) dX12_ring_10 rfl ?_
    refine x_getR (153) (pc := 11) dX12_ring_11 fl_X12_87 k_127 (hL 127 (by decide) (by decide)) (f_127_31 hF) ?_
    refine x_iconst (pc := 14) dX12_ring_14 ?_
    refine x_iald 0 (pc := 15) dX12_ring_15 k_153 (hL 153 (by decide) (by decide)) (by decide) ?_
    refine x_iconst (pc := 16) dX12_ring_16 ?_
    refine x_cne (tgt := 30) (pc := 17) dX12_ring_17 (by decide) (by have := hd0.2; omega) (fun c_17 => ?_) (fun c_17 => ?_)
    · skip
      refine x_aloadn (pc := 30) dX12_ring_30 rfl ?_
      refine x_getZ (pc := 31) dX12_ring_31 fl_X12_253 k_127 (hL 127 (by decide) (by decide)) ?_
      refine x_istoren (pc := 34) dX12_ring_34 rfl (by decide) rfl ?_
      refine x_iconst (pc := 35) dX12_ring_35 ?_
      refine x_istore (pc := 36) dX12_ring_36 (by decide) rfl ?_
      obtain ⟨s0, hs0⟩ : ∃ s0, s0 = zsk (zs0 S I e) := ⟨_, rfl⟩
      have hGr := zGr_N (s0 := s0) (by rw [hs0]; exact h4)
      rw [← hs0] at h0 hd0 h4 h5
      have hld : ∀ y, y < (zN s0 6000).length → ((if G2 153 y = -1 then 0 else 1) = 1 ↔ zLe (zN s0 6000).length (ztg s0) (zBd0 s0) y) := fun y hy => by
        rcases (h5.2.2 y hy).1 with ⟨w1, w2⟩ | ⟨t, w1, w2, _⟩
        · rw [if_pos w1]; exact ⟨fun w => absurd w (by decide), fun ⟨t, w⟩ => absurd w (w2 t)⟩
        · rw [if_neg (by omega)]; exact ⟨fun _ => ⟨t, w2⟩, fun _ => rfl⟩
      have hlg : mLg (zN s0 6000).length (fun y => if G2 153 y = -1 then 0 else 1) G2 := fun y hy => by
        have hb := (h5.2.2 y hy).2
        by_cases c : G2 153 y = -1
        · exact Or.inl ⟨c, if_pos c⟩
        · exact Or.inr ⟨by omega, by omega, if_neg c⟩
      have hff := zffs_01 (zs0 S I e)
      rw [h6]
      have key := l_mo_riK (L := L) (e0 := e0) (w2 := x) (B := zBd0 s0) (ff := zffs (zs0 S I e)) (fe := zfe s0) hL ⟨h5.1.1, h4, fun e' h' => (h5.2.1 e' h').1⟩ hGr.1 hlg hld (fun e' h' => ⟨(h5.2.1 e' h').2, zfe_01 s0 e'⟩) (zN s0 6000).length 0 G2 (zffs (zs0 S I e)) none none (Nat.zero_add _) (fun k' h' => absurd h' (Nat.not_lt_zero k')) (by
        rcases hff with w | w
        · exact Or.inr ⟨w, fun q => by
            rcases q with q | ⟨e', q, _⟩
            · omega
            · omega⟩
        · exact Or.inl ⟨w, Or.inl w⟩) FM.rf hF
      refine X.imp (fun v L' G' w => ?_) key
      obtain ⟨w1, y, w2, w3, w4, w5⟩ := w
      refine ⟨w1, y, w2, Or.inr ⟨e, h1, h2, Or.inr ⟨h3, Or.inr ⟨by rw [← hs0]; exact h4, Or.inr ?_⟩⟩⟩, (hQ.mono (by decide) (by decide)).tr (w4.mono (by decide) (by decide)), w5⟩
      rw [← hs0]
      refine ⟨?_, w3⟩
      rcases hd0.1 with ⟨w, _⟩ | ⟨t, _, w, _⟩
      · omega
      · exact ⟨t, w⟩
    · skip
      refine x_iloadn (pc := 20) dX12_ring_20 rfl ?_
      refine x_ieq (tgt := 28) (pc := 21) dX12_ring_21 (by decide) (by omega) (fun c_21 => ?_) (fun c_21 => ?_)
      · skip
        refine x_iconst (pc := 28) dX12_ring_28 ?_
        refine x_rI (pc := 29) dX12_ring_29 rfl ?_
        first
        | exact ⟨hno () (by omega), hQ.mono (by decide) (by decide), hF⟩
        | (refine ⟨Or.inr ⟨e, h1, h2, Or.inr ⟨h3, Or.inr ⟨h4, Or.inl ⟨rfl, ?_⟩⟩⟩⟩, hQ.mono (by decide) (by decide), hF⟩
           rcases hd0.1 with ⟨_, w⟩ | ⟨t, w, _⟩
           · exact w
           · omega)
        | (exfalso; omega)
      · skip
        refine x_iloadn (pc := 24) dX12_ring_24 rfl ?_
        refine x_goto (tgt := 29) (pc := 25) dX12_ring_25 (by decide) ?_
        refine x_rI (pc := 29) dX12_ring_29 rfl ?_
        first
        | exact ⟨hno () (by omega), hQ.mono (by decide) (by decide), hF⟩
        | (refine ⟨Or.inr ⟨e, h1, h2, Or.inr ⟨h3, Or.inr ⟨h4, Or.inl ⟨rfl, ?_⟩⟩⟩⟩, hQ.mono (by decide) (by decide), hF⟩
           rcases hd0.1 with ⟨_, w⟩ | ⟨t, w, _⟩
           · exact w
           · omega)
        | (exfalso; omega)
end XRY

