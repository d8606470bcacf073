/-! the law: its loop -/
theorem w_next {i r N : Nat} {sc : Nat → Int} (ih : ∀ (L : List Nat) (G : Nat → Nat → Int) (k n : Nat), zInv L G → zBu r L k n → X (mL_law N sc) 10 600000 7302250 qT 18 [some (vR 0), some (vR 1), some (vR 127), some (vI ((i + 5 : Nat) : Int))] [] L G k n) : zNx i r N sc := by
  intro L' G' k' n' inv bu
  refine x_iinc (ls' := [some (vR 0), some (vR 1), some (vR 127), some (vI ((i + 5 : Nat) : Int))]) (pc := 1091) dL_law_1091 rfl (show 3 < 4 by decide) rfl ?_
  refine x_goto (tgt := 18) (pc := 1094) dL_law_1094 (by decide) ?_
  exact ih L' G' k' n' inv bu
theorem w_exit {N k n : Nat} {sc : Nat → Int} {ls : List (Option (Nat × Int))} {L : List Nat} {G : Nat → Nat → Int} : X (mL_law N sc) 10 600000 7302250 qT 1097 ls [] L G k n := by
  refine x_iconst (pc := 1097) dL_law_1097 ?_
  exact x_zret (pc := 1098) dL_law_1098 rfl (Or.inr rfl) rfl
theorem w_body {i N r k n : Nat} {sc : Nat → Int} {L : List Nat} {G : Nat → Nat → Int} (hN : N ≤ 2560) (hi : i + 5 ≤ N) (hsc : zSc sc) (inv : zInv L G) (bu : zBu (r + 1) L k n) (next : zNx i r N sc) : X (mL_law N sc) 10 600000 7302250 qT 26 [some (vR 0), some (vR 1), some (vR 127), some (vI i)] [] L G k n := by
  refine x_aloadn (pc := 26) dL_law_26 rfl ?_
  refine x_iloadn (pc := 27) dL_law_27 rfl ?_
  refine x_sld (N := N) i (pc := 28) dL_law_28 rfl ⟨rfl, by omega, by omega⟩ ?_
  refine x_bipush (pc := 29) dL_law_29 (by decide) ?_
  refine x_iandm (pc := 31) dL_law_31 5 32 (by decide) (by decide) (by decide) ?_
  generalize ht : x_sc (mL_law N sc) i % 32 = t
  have hb : 0 ≤ t ∧ t < 32 := by omega
  clear ht
  rcases (show t = 0 ∨ t = 1 ∨ t = 2 ∨ t = 3 ∨ t = 4 ∨ t = 5 ∨ t = 6 ∨ t = 7 ∨ t = 8 ∨ t = 9 ∨ t = 10 ∨ t = 11 ∨ t = 12 ∨ t = 13 ∨ t = 14 ∨ t = 15 ∨ t = 16 ∨ t = 17 ∨ t = 18 ∨ t = 19 ∨ t = 20 ∨ t = 21 ∨ t = 22 ∨ t = 23 ∨ t = 24 ∨ t = 25 ∨ t = 26 ∨ t = 27 ∨ t = 28 ∨ 28 < t by omega) with rfl | rfl | rfl | rfl | rfl | rfl | rfl | rfl | rfl | rfl | rfl | rfl | rfl | rfl | rfl | rfl | rfl | rfl | rfl | rfl | rfl | rfl | rfl | rfl | rfl | rfl | rfl | rfl | rfl | c
  · refine x_tabIn (off := 132) (tgt := 164) (pc := 32) dL_law_32 (by decide) rfl (by decide) ?_
    exact w_write hN hi hsc inv bu next
  · refine x_tabIn (off := 195) (tgt := 227) (pc := 32) dL_law_32 (by decide) rfl (by decide) ?_
    exact w_erase hN hi hsc inv bu next
  · refine x_tabIn (off := 208) (tgt := 240) (pc := 32) dL_law_32 (by decide) rfl (by decide) ?_
    exact w_fault hN hi hsc inv bu next
  · refine x_tabIn (off := 221) (tgt := 253) (pc := 32) dL_law_32 (by decide) rfl (by decide) ?_
    exact w_take hN hi hsc inv bu next
  · refine x_tabIn (off := 234) (tgt := 266) (pc := 32) dL_law_32 (by decide) rfl (by decide) ?_
    exact w_item hN hi hsc inv bu next
  · refine x_tabIn (off := 277) (tgt := 309) (pc := 32) dL_law_32 (by decide) rfl (by decide) ?_
    exact w_bounds hN hi hsc inv bu next
  · refine x_tabIn (off := 330) (tgt := 362) (pc := 32) dL_law_32 (by decide) rfl (by decide) ?_
    exact w_answers hN hi hsc inv bu next
  · refine x_tabIn (off := 343) (tgt := 375) (pc := 32) dL_law_32 (by decide) rfl (by decide) ?_
    exact w_answer hN hi hsc inv bu next
  · refine x_tabIn (off := 386) (tgt := 418) (pc := 32) dL_law_32 (by decide) rfl (by decide) ?_
    exact w_tell hN hi hsc inv bu next
  · refine x_tabIn (off := 429) (tgt := 461) (pc := 32) dL_law_32 (by decide) rfl (by decide) ?_
    exact w_rank hN hi hsc inv bu next
  · refine x_tabIn (off := 442) (tgt := 474) (pc := 32) dL_law_32 (by decide) rfl (by decide) ?_
    exact w_sure hN hi hsc inv bu next
  · refine x_tabIn (off := 475) (tgt := 507) (pc := 32) dL_law_32 (by decide) rfl (by decide) ?_
    exact w_met hN hi hsc inv bu next
  · refine x_tabIn (off := 498) (tgt := 530) (pc := 32) dL_law_32 (by decide) rfl (by decide) ?_
    exact w_fewest hN hi hsc inv bu next
  · refine x_tabIn (off := 521) (tgt := 553) (pc := 32) dL_law_32 (by decide) rfl (by decide) ?_
    exact w_ring hN hi hsc inv bu next
  · refine x_tabIn (off := 544) (tgt := 576) (pc := 32) dL_law_32 (by decide) rfl (by decide) ?_
    exact w_putting hN hi hsc inv bu next
  · refine x_tabIn (off := 577) (tgt := 609) (pc := 32) dL_law_32 (by decide) rfl (by decide) ?_
    exact w_found hN hi hsc inv bu next
  · refine x_tabIn (off := 620) (tgt := 652) (pc := 32) dL_law_32 (by decide) rfl (by decide) ?_
    exact w_word hN hi hsc inv bu next
  · refine x_tabIn (off := 693) (tgt := 725) (pc := 32) dL_law_32 (by decide) rfl (by decide) ?_
    exact w_of hN hi hsc inv bu next
  · refine x_tabIn (off := 726) (tgt := 758) (pc := 32) dL_law_32 (by decide) rfl (by decide) ?_
    exact w_part hN hi hsc inv bu next
  · refine x_tabIn (off := 759) (tgt := 791) (pc := 32) dL_law_32 (by decide) rfl (by decide) ?_
    exact w_agree hN hi hsc inv bu next
  · refine x_tabIn (off := 792) (tgt := 824) (pc := 32) dL_law_32 (by decide) rfl (by decide) ?_
    exact w_turned hN hi hsc inv bu next
  · refine x_tabIn (off := 825) (tgt := 857) (pc := 32) dL_law_32 (by decide) rfl (by decide) ?_
    exact w_classes hN hi hsc inv bu next
  · refine x_tabIn (off := 878) (tgt := 910) (pc := 32) dL_law_32 (by decide) rfl (by decide) ?_
    exact w_pattern hN hi hsc inv bu next
  · refine x_tabIn (off := 901) (tgt := 933) (pc := 32) dL_law_32 (by decide) rfl (by decide) ?_
    exact w_makes hN hi hsc inv bu next
  · refine x_tabIn (off := 934) (tgt := 966) (pc := 32) dL_law_32 (by decide) rfl (by decide) ?_
    exact w_carries hN hi hsc inv bu next
  · refine x_tabIn (off := 967) (tgt := 999) (pc := 32) dL_law_32 (by decide) rfl (by decide) ?_
    exact w_sample hN hi hsc inv bu next
  · refine x_tabIn (off := 1000) (tgt := 1032) (pc := 32) dL_law_32 (by decide) rfl (by decide) ?_
    exact w_clear hN hi hsc inv bu next
  · refine x_tabIn (off := 1013) (tgt := 1045) (pc := 32) dL_law_32 (by decide) rfl (by decide) ?_
    exact w_common hN hi hsc inv bu next
  · refine x_tabIn (off := 1036) (tgt := 1068) (pc := 32) dL_law_32 (by decide) rfl (by decide) ?_
    exact w_count hN hi hsc inv bu next
  · refine x_tabOut (tgt := 1091) (pc := 32) dL_law_32 (by omega) (Or.inr c) (by decide) ?_
    exact next _ _ _ _ inv bu.st
theorem w_loop {N : Nat} {sc : Nat → Int} (hN : N ≤ 2560) (hsc : zSc sc) : ∀ (r i : Nat) (L : List Nat) (G : Nat → Nat → Int) (k n : Nat), N < i + 5 * r + 5 → i ≤ N + 5 → zInv L G → zBu r L k n → X (mL_law N sc) 10 600000 7302250 qT 18 [some (vR 0), some (vR 1), some (vR 127), some (vI i)] [] L G k n := by
  intro r
  induction r with
  | zero =>
    intro i L G k n h1 h3 inv bu
    refine x_iloadn (pc := 18) dL_law_18 rfl ?_
    refine x_aloadn (pc := 19) dL_law_19 rfl ?_
    refine x_slen (N := N) (pc := 20) dL_law_20 rfl ?_
    refine x_iconst (pc := 21) dL_law_21 ?_
    refine x_isub (pc := 22) dL_law_22 ?_
    refine x_cgt (tgt := 1097) (pc := 23) dL_law_23 (by decide) (by omega) (fun c_23 => ?_) (fun c_23 => ?_)
    · exact w_exit
    · exact absurd c_23 (by omega)
  | succ r ih =>
    intro i L G k n h1 h3 inv bu
    refine x_iloadn (pc := 18) dL_law_18 rfl ?_
    refine x_aloadn (pc := 19) dL_law_19 rfl ?_
    refine x_slen (N := N) (pc := 20) dL_law_20 rfl ?_
    refine x_iconst (pc := 21) dL_law_21 ?_
    refine x_isub (pc := 22) dL_law_22 ?_
    refine x_cgt (tgt := 1097) (pc := 23) dL_law_23 (by decide) (by omega) (fun c_23 => ?_) (fun c_23 => ?_)
    · exact w_exit
    · exact w_body hN (by omega) hsc inv bu (w_next (fun L' G' k' n' i' b' => ih (i + 5) L' G' k' n' (by omega) (by omega) i' b'))

