/-! classes of places: the reference's rounds and its answer -/
def zCl (n p q : Nat) (c : Nat → Nat) (j : Nat) : Prop := (p ≤ j → c j ≤ c (j - p)) ∧ (q ≤ j → c j ≤ c (j - q)) ∧ (j + p < n → c j ≤ c (j + p)) ∧ (j + q < n → c j ≤ c (j + q))
theorem l_mo_clI {p q n : Nat} {w : Int} {c0 : Nat → Nat} {E : Nat → Nat → Prop} {Q : x_Q} {o7 o8 : Option (Nat × Int)} {L : List Nat} {G0 : Nat → Nat → Int} (hL : x_SL L) (hn : n ≤ 60) (hp : 1 ≤ p ∧ p ≤ 60) (hq : 1 ≤ q ∧ q ≤ 60) (hEp : ∀ i, i + p < n → zQ E i (i + p)) (hEq : ∀ i, i + q < n → zQ E i (i + q))
    (cont : ∀ (c' : Nat → Nat) (F' : Int) (G' : Nat → Nat → Int) (o6 : Option (Nat × Int)), mCl n E c' G' → zRn n c0 c' F' (∀ j, j < n → zCl n p q c0 j) → FM [162] [] G0 G' → x_Fin xFL G' → X mX12_classes 2 0 0 Q 82 [some (vR 127), some (vI p), some (vI q), some (vI n), some (vI w), some (vI F'), o6, o7, o8] [] L G' 0 0) :
    ∀ (r k : Nat) (c : Nat → Nat) (F : Int) (G : Nat → Nat → Int), k + r = n → mCl n E c G → zRn n c0 c F (∀ j, j < k → zCl n p q c0 j) → FM [162] [] G0 G → x_Fin xFL G →
    X mX12_classes 2 0 0 Q 93 [some (vR 127), some (vI p), some (vI q), some (vI n), some (vI w), some (vI F), some (vI k), o7, o8] [] L G 0 0 := by
  intro r
  induction r with
  | zero =>
    intro k c F G hk hC hN hR hF
    have hk : k = n := by omega
    subst hk
    refine x_iload (pc := 93) dX12_classes_93 rfl ?_
    refine x_iloadn (pc := 95) dX12_classes_95 rfl ?_
    refine x_cge (tgt := 229) (pc := 96) dX12_classes_96 (by decide) (by omega) (fun c_96 => ?_) (fun c_96 => ?_)
    rotate_left
    · skip
      exact absurd c_96 (by omega)
    refine x_goto (tgt := 82) (pc := 229) dX12_classes_229 (by decide) ?_
    exact cont c F G _ hC hN hR hF
  | succ r ih =>
    intro k c F G hk hC hN hR hF
    refine x_iload (pc := 93) dX12_classes_93 rfl ?_
    refine x_iloadn (pc := 95) dX12_classes_95 rfl ?_
    refine x_cge (tgt := 229) (pc := 96) dX12_classes_96 (by decide) (by omega) (fun c_96 => ?_) (fun c_96 => ?_)
    · skip
      exact absurd c_96 (by omega)
    refine l_mo_clA hL hn hp hq (by omega) hEp hEq hC hN hR hF (fun c1 F1 G1 a1 a2 a3 a4 => ?_)
    refine l_mo_clB hL hn hp hq (by omega) hEp hEq a1 a2 a3 a4 (fun c2 F2 G2 b1 b2 b3 b4 => ?_)
    refine l_mo_clC hL hn hp hq (by omega) hEp hEq b1 b2 b3 b4 (fun c3 F3 G3 d1 d2 d3 d4 => ?_)
    refine l_mo_clD hL hn hp hq (by omega) hEp hEq d1 d2 d3 d4 (fun c4 F4 G4 e1 e2 e3 e4 => ?_)
    refine x_iinc (pc := 223) dX12_classes_223 rfl (by decide) rfl ?_
    refine x_goto (tgt := 93) (pc := 226) dX12_classes_226 (by decide) ?_
    refine ih (k + 1) c4 F4 G4 (by omega) e1 ?_ e3 e4
    rcases e2 with e2 | ⟨e5, e6, ⟨⟨⟨e7, e8⟩, e9⟩, e10⟩, e11⟩
    · exact Or.inl e2
    · refine Or.inr ⟨e5, e6, fun j hj => ?_⟩
      by_cases ej : j = k
      · subst ej; exact ⟨e8, e9, e10, e11⟩
      · exact e7 j (by omega)
theorem zCl_mn {n p q : Nat} {c : Nat → Nat} {G : Nat → Nat → Int} (hp : 1 ≤ p) (hq : 1 ≤ q) (hC : mCl n (zCE n p q) c G) (h : ∀ j, j < n → zCl n p q c j) : zMn (zCE n p q) (fun i => if i < n then c i else i) := by
  intro i
  show (if i < n then c i else i) ≤ i ∧ zQ (zCE n p q) i (if i < n then c i else i) ∧ ∀ j, zCE n p q i j → (if i < n then c i else i) = (if j < n then c j else j)
  by_cases hi : i < n
  · rw [if_pos hi]
    refine ⟨(hC i hi).2.1, (hC i hi).2.2, fun j e => ?_⟩
    rcases e with ⟨rfl, e2⟩ | ⟨rfl, e2⟩
    · rw [if_pos e2]
      have h1 := (h i hi).2.2.1 e2
      have h2 := (h (i + p) e2).1 (by omega)
      rw [show i + p - p = i by omega] at h2
      omega
    · rw [if_pos e2]
      have h1 := (h i hi).2.2.2 e2
      have h2 := (h (i + q) e2).2.1 (by omega)
      rw [show i + q - q = i by omega] at h2
      omega
  · rw [if_neg hi]
    refine ⟨Nat.le_refl _, .refl i, fun j e => ?_⟩
    rcases e with ⟨rfl, e2⟩ | ⟨rfl, e2⟩ <;> exact absurd e2 (by omega)
abbrev pClM (L : List Nat) (G : Nat → Nat → Int) (p q n w : Int) : x_Q := qI L fun x G' => (¬ ((1 ≤ p ∧ p ≤ 60) ∧ (1 ≤ q ∧ q ≤ 60) ∧ (1 ≤ n ∧ n ≤ 60) ∧ -1 ≤ w ∧ w < n) ∧ x = -3 ∧ G' = G) ∨ (((1 ≤ p ∧ p ≤ 60) ∧ (1 ≤ q ∧ q ≤ 60) ∧ (1 ≤ n ∧ n ≤ 60) ∧ -1 ≤ w ∧ w < n) ∧ (∃ f, zMn (zCE n.toNat p.toNat q.toNat) f ∧ x = zld f (if w = -1 then n.toNat else f w.toNat)) ∧ FM [162] [] G G' ∧ x_Fin xFL G')
theorem l_mo_clE {p q n : Nat} {w : Int} {f : Nat → Nat} {L : List Nat} {G0 G : Nat → Nat → Int} (hL : x_SL L) (hF : x_Fin xFL G) (hn : 1 ≤ n ∧ n ≤ 60) (hp : 1 ≤ p ∧ p ≤ 60) (hq : 1 ≤ q ∧ q ≤ 60) (hw : -1 ≤ w ∧ w < n) (hM : zMn (zCE n p q) f) (hG : ∀ i, i < n → G 162 i = f i) (hR : FM [162] [] G0 G) :
    ∀ (r k : Nat) (F : Int), k + r = n → F = (if 0 ≤ w ∧ f w.toNat < k then (zld f (f w.toNat) : Int) else 0) →
    X mX12_classes 2 0 0 (pClM L G0 p q n w) 241 [some (vR 127), some (vI p), some (vI q), some (vI n), some (vI w), some (vI 0), some (vI (zld f k)), some (vI F), some (vI k)] [] L G 0 0 := by
  intro r
  induction r with
  | zero =>
    intro k F hk hFF
    have hk : k = n := by omega
    subst hk
    have hzl := zld_le (f := f) k
    have hzl2 := zld_le (f := f) (f w.toNat)
    have hfw := (hM w.toNat).1
    have hFb : -2147483648 ≤ F ∧ F < 2147483648 := by split at hFF <;> omega
    refine x_iload (pc := 241) dX12_classes_241 rfl ?_
    refine x_iloadn (pc := 243) dX12_classes_243 rfl ?_
    refine x_cge (tgt := 301) (pc := 244) dX12_classes_244 (by decide) (by omega) (fun c_244 => ?_) (fun c_244 => ?_)
    rotate_left
    · skip
      exact absurd c_244 (by omega)
    refine x_iload (pc := 301) dX12_classes_301 rfl ?_
    refine x_ige (tgt := 311) (pc := 303) dX12_classes_303 (by decide) (by omega) (fun c_303 => ?_) (fun c_303 => ?_)
    · skip
      refine x_iload (pc := 311) dX12_classes_311 rfl ?_
      refine x_rI (pc := 313) dX12_classes_313 rfl ?_
      refine Or.inr ⟨by omega, ⟨f, by rw [Int.toNat_natCast, Int.toNat_natCast, Int.toNat_natCast]; exact hM, ?_⟩, hR, hF⟩
      first
      | (rw [if_pos (by omega), Int.toNat_natCast]; done)
      | (rw [if_neg (by omega), hFF, if_pos (by omega)]; done)
    · skip
      refine x_iload (pc := 306) dX12_classes_306 rfl ?_
      refine x_goto (tgt := 313) (pc := 308) dX12_classes_308 (by decide) ?_
      refine x_rI (pc := 313) dX12_classes_313 rfl ?_
      refine Or.inr ⟨by omega, ⟨f, by rw [Int.toNat_natCast, Int.toNat_natCast, Int.toNat_natCast]; exact hM, ?_⟩, hR, hF⟩
      first
      | (rw [if_pos (by omega), Int.toNat_natCast]; done)
      | (rw [if_neg (by omega), hFF, if_pos (by omega)]; done)
  | succ r ih =>
    intro k F hk hFF
    have ih2 := fun F h => ih (k + 1) F (by omega) h
    rw [show zld f (k + 1) = zld f k + (if f k = k then 1 else 0) from rfl] at ih2
    have hzl := zld_le (f := f) k
    have hgk := hG k (by omega)
    have hfk := (hM k).1
    have hfw := (hM w.toNat).1
    by_cases cw : 0 ≤ w
    · have hgw := hG w.toNat (by omega)
      refine x_iload (pc := 241) dX12_classes_241 rfl ?_
      refine x_iloadn (pc := 243) dX12_classes_243 rfl ?_
      refine x_cge (tgt := 301) (pc := 244) dX12_classes_244 (by decide) (by omega) (fun c_244 => ?_) (fun c_244 => ?_)
      · skip
        exact absurd c_244 (by omega)
      refine x_iload (pc := 247) dX12_classes_247 rfl ?_
      refine x_ilt (tgt := 269) (pc := 249) dX12_classes_249 (by decide) (by omega) (fun c_249 => ?_) (fun c_249 => ?_)
      · skip
        exact absurd c_249 (by omega)
      refine x_iload (pc := 252) dX12_classes_252 rfl ?_
      refine x_aloadn (pc := 254) dX12_classes_254 rfl ?_
      refine x_getR (162) (pc := 255) dX12_classes_255 fl_X12_114 k_127 (hL 127 (by decide) (by decide)) (f_127_46 hF) ?_
      refine x_iload (pc := 258) dX12_classes_258 rfl ?_
      refine x_iald (w.toNat) (pc := 260) dX12_classes_260 k_162 (hL 162 (by decide) (by decide)) (⟨by omega, by omega, by decide⟩) ?_
      refine x_cne (tgt := 269) (pc := 261) dX12_classes_261 (by decide) (by omega) (fun c_261 => ?_) (fun c_261 => ?_)
      · skip
        refine x_iload (pc := 269) dX12_classes_269 rfl ?_
        refine x_istore (pc := 271) dX12_classes_271 (by decide) rfl ?_
        refine x_iload (pc := 273) dX12_classes_273 rfl ?_
        refine x_aloadn (pc := 275) dX12_classes_275 rfl ?_
        refine x_getR (162) (pc := 276) dX12_classes_276 fl_X12_114 k_127 (hL 127 (by decide) (by decide)) (f_127_46 hF) ?_
        refine x_iload (pc := 279) dX12_classes_279 rfl ?_
        refine x_iald (k) (pc := 281) dX12_classes_281 k_162 (hL 162 (by decide) (by decide)) (⟨by omega, by omega, by decide⟩) ?_
        refine x_iload (pc := 282) dX12_classes_282 rfl ?_
        refine x_cne (tgt := 291) (pc := 284) dX12_classes_284 (by decide) (by omega) (fun c_284 => ?_) (fun c_284 => ?_)
        · skip
          refine x_iconst (pc := 291) dX12_classes_291 ?_
          refine x_iadd (pc := 292) dX12_classes_292 ?_
          refine x_istore (pc := 293) dX12_classes_293 (by decide) rfl ?_
          refine x_iinc (pc := 295) dX12_classes_295 rfl (by decide) rfl ?_
          refine x_goto (tgt := 241) (pc := 298) dX12_classes_298 (by decide) ?_
          first
          | (rw [show (if f k = k then 1 else 0) = 1 from if_pos (by omega)] at ih2; refine ih2 _ ?_)
          | (rw [show (if f k = k then 1 else 0) = 0 from if_neg (by omega)] at ih2; refine ih2 _ ?_)
          first
          | (have ek : f w.toNat = k := by omega
             rw [ek, if_pos (by omega)]; done)
          | (rw [hFF]
             by_cases cc : f w.toNat < k
             · rw [if_pos ⟨cw, cc⟩, if_pos (by omega)]
             · rw [if_neg (by omega), if_neg (by omega)])
        · skip
          refine x_iconst (pc := 287) dX12_classes_287 ?_
          refine x_goto (tgt := 292) (pc := 288) dX12_classes_288 (by decide) ?_
          refine x_iadd (pc := 292) dX12_classes_292 ?_
          refine x_istore (pc := 293) dX12_classes_293 (by decide) rfl ?_
          refine x_iinc (pc := 295) dX12_classes_295 rfl (by decide) rfl ?_
          refine x_goto (tgt := 241) (pc := 298) dX12_classes_298 (by decide) ?_
          first
          | (rw [show (if f k = k then 1 else 0) = 1 from if_pos (by omega)] at ih2; refine ih2 _ ?_)
          | (rw [show (if f k = k then 1 else 0) = 0 from if_neg (by omega)] at ih2; refine ih2 _ ?_)
          first
          | (have ek : f w.toNat = k := by omega
             rw [ek, if_pos (by omega)]; done)
          | (rw [hFF]
             by_cases cc : f w.toNat < k
             · rw [if_pos ⟨cw, cc⟩, if_pos (by omega)]
             · rw [if_neg (by omega), if_neg (by omega)])
      · skip
        refine x_iload (pc := 264) dX12_classes_264 rfl ?_
        refine x_goto (tgt := 271) (pc := 266) dX12_classes_266 (by decide) ?_
        refine x_istore (pc := 271) dX12_classes_271 (by decide) rfl ?_
        refine x_iload (pc := 273) dX12_classes_273 rfl ?_
        refine x_aloadn (pc := 275) dX12_classes_275 rfl ?_
        refine x_getR (162) (pc := 276) dX12_classes_276 fl_X12_114 k_127 (hL 127 (by decide) (by decide)) (f_127_46 hF) ?_
        refine x_iload (pc := 279) dX12_classes_279 rfl ?_
        refine x_iald (k) (pc := 281) dX12_classes_281 k_162 (hL 162 (by decide) (by decide)) (⟨by omega, by omega, by decide⟩) ?_
        refine x_iload (pc := 282) dX12_classes_282 rfl ?_
        refine x_cne (tgt := 291) (pc := 284) dX12_classes_284 (by decide) (by omega) (fun c_284 => ?_) (fun c_284 => ?_)
        · skip
          refine x_iconst (pc := 291) dX12_classes_291 ?_
          refine x_iadd (pc := 292) dX12_classes_292 ?_
          refine x_istore (pc := 293) dX12_classes_293 (by decide) rfl ?_
          refine x_iinc (pc := 295) dX12_classes_295 rfl (by decide) rfl ?_
          refine x_goto (tgt := 241) (pc := 298) dX12_classes_298 (by decide) ?_
          first
          | (rw [show (if f k = k then 1 else 0) = 1 from if_pos (by omega)] at ih2; refine ih2 _ ?_)
          | (rw [show (if f k = k then 1 else 0) = 0 from if_neg (by omega)] at ih2; refine ih2 _ ?_)
          first
          | (have ek : f w.toNat = k := by omega
             rw [ek, if_pos (by omega)]; done)
          | (rw [hFF]
             by_cases cc : f w.toNat < k
             · rw [if_pos ⟨cw, cc⟩, if_pos (by omega)]
             · rw [if_neg (by omega), if_neg (by omega)])
        · skip
          refine x_iconst (pc := 287) dX12_classes_287 ?_
          refine x_goto (tgt := 292) (pc := 288) dX12_classes_288 (by decide) ?_
          refine x_iadd (pc := 292) dX12_classes_292 ?_
          refine x_istore (pc := 293) dX12_classes_293 (by decide) rfl ?_
          refine x_iinc (pc := 295) dX12_classes_295 rfl (by decide) rfl ?_
          refine x_goto (tgt := 241) (pc := 298) dX12_classes_298 (by decide) ?_
          first
          | (rw [show (if f k = k then 1 else 0) = 1 from if_pos (by omega)] at ih2; refine ih2 _ ?_)
          | (rw [show (if f k = k then 1 else 0) = 0 from if_neg (by omega)] at ih2; refine ih2 _ ?_)
          first
          | (have ek : f w.toNat = k := by omega
             rw [ek, if_pos (by omega)]; done)
          | (rw [hFF]
             by_cases cc : f w.toNat < k
             · rw [if_pos ⟨cw, cc⟩, if_pos (by omega)]
             · rw [if_neg (by omega), if_neg (by omega)])
    · skip
      refine x_iload (pc := 241) dX12_classes_241 rfl ?_
      refine x_iloadn (pc := 243) dX12_classes_243 rfl ?_
      refine x_cge (tgt := 301) (pc := 244) dX12_classes_244 (by decide) (by omega) (fun c_244 => ?_) (fun c_244 => ?_)
      · skip
        exact absurd c_244 (by omega)
      refine x_iload (pc := 247) dX12_classes_247 rfl ?_
      refine x_ilt (tgt := 269) (pc := 249) dX12_classes_249 (by decide) (by omega) (fun c_249 => ?_) (fun c_249 => ?_)
      rotate_left
      · skip
        exact absurd c_249 (by omega)
      refine x_iload (pc := 269) dX12_classes_269 rfl ?_
      refine x_istore (pc := 271) dX12_classes_271 (by decide) rfl ?_
      refine x_iload (pc := 273) dX12_classes_273 rfl ?_
      refine x_aloadn (pc := 275) dX12_classes_275 rfl ?_
      refine x_getR (162) (pc := 276) dX12_classes_276 fl_X12_114 k_127 (hL 127 (by decide) (by decide)) (f_127_46 hF) ?_
      refine x_iload (pc := 279) dX12_classes_279 rfl ?_
      refine x_iald (k) (pc := 281) dX12_classes_281 k_162 (hL 162 (by decide) (by decide)) (⟨by omega, by omega, by decide⟩) ?_
      refine x_iload (pc := 282) dX12_classes_282 rfl ?_
      refine x_cne (tgt := 291) (pc := 284) dX12_classes_284 (by decide) (by omega) (fun c_284 => ?_) (fun c_284 => ?_)
      · skip
        refine x_iconst (pc := 291) dX12_classes_291 ?_
        refine x_iadd (pc := 292) dX12_classes_292 ?_
        refine x_istore (pc := 293) dX12_classes_293 (by decide) rfl ?_
        refine x_iinc (pc := 295) dX12_classes_295 rfl (by decide) rfl ?_
        refine x_goto (tgt := 241) (pc := 298) dX12_classes_298 (by decide) ?_
        first
        | (rw [show (if f k = k then 1 else 0) = 1 from if_pos (by omega)] at ih2; exact ih2 _ (by rw [hFF, if_neg (by omega), if_neg (by omega)]))
        | (rw [show (if f k = k then 1 else 0) = 0 from if_neg (by omega)] at ih2; exact ih2 _ (by rw [hFF, if_neg (by omega), if_neg (by omega)]))
      · skip
        refine x_iconst (pc := 287) dX12_classes_287 ?_
        refine x_goto (tgt := 292) (pc := 288) dX12_classes_288 (by decide) ?_
        refine x_iadd (pc := 292) dX12_classes_292 ?_
        refine x_istore (pc := 293) dX12_classes_293 (by decide) rfl ?_
        refine x_iinc (pc := 295) dX12_classes_295 rfl (by decide) rfl ?_
        refine x_goto (tgt := 241) (pc := 298) dX12_classes_298 (by decide) ?_
        first
        | (rw [show (if f k = k then 1 else 0) = 1 from if_pos (by omega)] at ih2; exact ih2 _ (by rw [hFF, if_neg (by omega), if_neg (by omega)]))
        | (rw [show (if f k = k then 1 else 0) = 0 from if_neg (by omega)] at ih2; exact ih2 _ (by rw [hFF, if_neg (by omega), if_neg (by omega)]))

