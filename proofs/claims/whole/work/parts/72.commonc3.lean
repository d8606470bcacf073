/-! the class: the longest row that makes all samples -/
theorem zLx_tr {n i : Nat} {F B F' : Nat → Nat} (hi : i < n) (he : ∀ j, j < i → B j = F j) (hl : F i < B i) (h : zLx n B F') : zLx n F F' := by
  intro k hk hj
  rcases Nat.lt_trichotomy k i with q | q | q
  · have := h k hk (fun j hjk => (he j (by omega)).trans (hj j hjk))
    have := he k q
    omega
  · subst q
    have := h k hk (fun j hjk => (he j hjk).trans (hj j hjk))
    omega
  · have h1 := h i hi (fun j hji => (he j hji).trans (hj j (by omega)))
    have h2 := hj i q
    omega
theorem zone_cd {S : Nat} {sn : Nat → Nat} {sl : Nat → Nat → Nat} (hs : ∀ s, s < S → 1 ≤ sn s) : zCd S sn sl 1 (fun _ => 5) := by
  have hv : zFv 1 (fun _ => 5) := ⟨fun i hi => Or.inr rfl, 0, by decide, rfl⟩
  refine ⟨hv, fun s h => ⟨sn s, hs s h, ?_, fun k hk => ?_⟩⟩
  · show 0 + (if (5 : Nat) < 4 then 1 else zpx (sn s) (5 - 4)) = sn s
    rw [if_neg (by decide)]
    show 0 + sn s = sn s
    omega
  · have e : k = 0 := by omega
    subst e
    unfold zMk
    rw [if_neg (show ¬ zFo (fun _ => 5) 0 0 < 4 by decide)]
    exact Or.inl rfl
theorem zlong_cd {S n s : Nat} {sn : Nat → Nat} {sl : Nat → Nat → Nat} {F : Nat → Nat} (h : zCd S sn sl n F) (hs : s < S) : n ≤ sn s := by
  obtain ⟨len, q⟩ := h.2 s hs
  have e := h.1.len (len := len)
  rw [q.2.1] at e
  have h2 := zct_le (I := zFo F) (q := 0) (u := 1) n
  have h3 := Nat.le_mul_of_pos_left (zct (zFo F) 0 1 n) q.1
  omega
section XCS
variable {S n : Nat} {sn : Nat → Nat} {sl : Nat → Nat → Nat} {L : List Nat}
def zIm (S : Nat) (sn : Nat → Nat) (sl : Nat → Nat → Nat) (n mk : Nat) (G : Nat → Nat → Int) : Prop := (G 88 5 = 0 ∧ ∀ mk' F', mk' < mk → zmk n F' mk' → ¬ zCd S sn sl n F') ∨ ∃ F, G 88 5 = n ∧ zCd S sn sl n F ∧ (∀ i, i < n → G 98 i = F i) ∧ ∀ mk' F', mk' < mk → zmk n F' mk' → zCd S sn sl n F' → zLx n F F'
def zIn (S : Nat) (sn : Nat → Nat) (sl : Nat → Nat → Nat) (n : Nat) (G : Nat → Nat → Int) : Prop := (G 88 5 = 0 ∧ ∀ n' F', n < n' → n' ≤ 8 → ¬ zCd S sn sl n' F') ∨ ∃ nn F, zCmn S sn sl nn F ∧ G 88 5 = nn ∧ ∀ i, i < nn → G 98 i = F i
abbrev zsmS : List Nat := [88, 97, 98]
theorem cSm.fr {G G' : Nat → Nat → Int} (h : cSm S sn sl G) (h4 : G' 88 4 = G 88 4) (hQ : FR zsmS G G') : cSm S sn sl G' := by
  obtain ⟨s1, s2, s3⟩ := h
  exact ⟨by rw [h4]; exact s1, s2, fun i hi => by rw [hQ 96 (by decide), hQ (90 + i) (by simp; omega)]; exact s3 i hi⟩
theorem zIm_n {F : Nat → Nat} {mk : Nat} {G : Nat → Nat → Int} (hb : G 88 5 = n) (hc : zCd S sn sl n F) (he : ∀ i, i < n → G 98 i = F i) (ho : ∀ mk' F', mk' < mk → zmk n F' mk' → zCd S sn sl n F' → zLx n F F') (hU : ∀ F', zmk n F' mk → zCd S sn sl n F' → zLx n F F') : zIm S sn sl n (mk + 1) G :=
  Or.inr ⟨F, hb, hc, he, fun mk' F' h1 h2 h3 => by
    by_cases e : mk' = mk
    · subst e; exact hU F' h2 h3
    · exact ho mk' F' (by omega) h2 h3⟩
theorem l_Sm_mk {G0 : Nat → Nat → Int} {Q : x_Q} {Lg : Int} (hL : x_SL L) (hS1 : 1 ≤ S) (hn : 1 ≤ n ∧ n ≤ 8)
    (cont : ∀ (G : Nat → Nat → Int) (o3 : Option (Nat × Int)), zIm S sn sl n (2 ^ n) G → cSm S sn sl G → FR zsmS G0 G → x_Fin xFL G → X mX7_seek 3 0 0 Q 91 [some (vR 88), some (vI Lg), some (vI n), o3] [] L G 0 0) :
    ∀ (r mk : Nat) (G : Nat → Nat → Int), mk + r = 2 ^ n → 1 ≤ mk → zIm S sn sl n mk G → cSm S sn sl G → FR zsmS G0 G → x_Fin xFL G →
    X mX7_seek 3 0 0 Q 50 [some (vR 88), some (vI Lg), some (vI n), some (vI mk)] [] L G 0 0 := by
  have hp256 : 2 ^ n ≤ 2 ^ 8 := Nat.pow_le_pow_right (by decide) hn.2
  have hsh : (1 : Int) * 2 ^ n = ((2 ^ n : Nat) : Int) := by simp
  intro r
  induction r with
  | zero =>
    intro mk G hmk hmk1 hI hS hQ hF
    have hmk : mk = 2 ^ n := by omega
    subst hmk
    refine x_iloadn (pc := 50) dX7_seek_50 rfl ?_
    refine x_iconst (pc := 51) dX7_seek_51 ?_
    refine x_iloadn (pc := 52) dX7_seek_52 rfl ?_
    refine x_ishl (pc := 53) dX7_seek_53 n rfl (by omega) ?_
    rw [hsh]
    refine x_cge (tgt := 91) (pc := 54) dX7_seek_54 (by decide) (by omega) (fun c_54 => ?_) (fun c_54 => ?_)
    rotate_left
    · skip
      exact absurd c_54 (by omega)
    exact cont G _ hI hS hQ hF
  | succ r ih =>
    intro mk G hmk hmk1 hI hS hQ hF
    have ih2 := ih (mk + 1)
    have hbs : -1 ≤ G 88 5 ∧ G 88 5 ≤ 8 := by rcases hI with hI | ⟨F, hI, _⟩ <;> omega
    refine x_iloadn (pc := 50) dX7_seek_50 rfl ?_
    refine x_iconst (pc := 51) dX7_seek_51 ?_
    refine x_iloadn (pc := 52) dX7_seek_52 rfl ?_
    refine x_ishl (pc := 53) dX7_seek_53 n rfl (by omega) ?_
    rw [hsh]
    refine x_cge (tgt := 91) (pc := 54) dX7_seek_54 (by decide) (by omega) (fun c_54 => ?_) (fun c_54 => ?_)
    · skip
      exact absurd c_54 (by omega)
    refine x_aloadn (pc := 57) dX7_seek_57 rfl ?_
    refine x_iloadn (pc := 58) dX7_seek_58 rfl ?_
    refine x_iloadn (pc := 59) dX7_seek_59 rfl ?_
    refine x_cVI (pc := 60) dX7_seek_60 lk_X7_53 (c_Sm_all hL hF hS hS1 hn.2 (by omega) hmk1) k_88 ⟨by decide, rfl⟩ (hL 88 (by decide) (by decide)) (⟨by decide, by decide⟩) (Nat.le_of_ble_eq_true rfl) rfl ?_
    rintro x G1 ⟨hx, a1, hF⟩
    have hq1 : FR zsmS G G1 := a1.mono (by decide)
    have e4 : G1 88 = G 88 := a1 _ (by decide)
    have eb : G1 98 = G 98 := a1 _ (by decide)
    have hS' : cSm S sn sl G1 := hS.fr (by rw [e4]) hq1
    refine x_ieq (tgt := 85) (pc := 63) dX7_seek_63 (by decide) (by rcases hx with hx | hx <;> omega) (fun c_63 => ?_) (fun c_63 => ?_)
    · skip
      refine x_iinc (pc := 85) dX7_seek_85 rfl (by decide) rfl ?_
      refine x_goto (tgt := 50) (pc := 88) dX7_seek_88 (by decide) ?_
      first
      | (refine ih2 _ (by omega) (by omega) ?_ hS' (hQ.tr hq1) hF
         first
         | (have hz : zLx n B F := by
              rcases hy with hy | hy
              · omega
              · exact hy.2
            exact zIm_n (by rw [e4]; exact b1) b2 (fun i hi => by rw [eb]; exact b3 i hi) b4 (fun F' h1 h2 i hi hj => by rw [f4 F' h1 h2 i hi]; exact hz i hi (fun j hji => (hj j hji).trans (f4 F' h1 h2 j (by omega)))))
         | (have hno : ∀ F', zmk n F' mk → ¬ zCd S sn sl n F' := by
              rcases hx with hx | hx
              · omega
              · exact hx.2
            rcases hI with hI | ⟨B, b1, b2, b3, b4⟩
            · refine Or.inl ⟨by rw [e4]; exact hI.1, fun mk' F' h1 h2 => ?_⟩
              by_cases e : mk' = mk
              · subst e; exact hno F' h2
              · exact hI.2 mk' F' (by omega) h2
            · exact zIm_n (by rw [e4]; exact b1) b2 (fun i hi => by rw [eb]; exact b3 i hi) b4 (fun F' h1 h2 => absurd h2 (hno F' h1))))
      | (refine ih2 G2 (by omega) (by omega) ?_ (hS.fr (by rw [d3 4 (by decide), e4]) hq2) (hQ.tr hq2) hF
         first
         | (obtain ⟨y1, i, y3, y4, y5⟩ : zLx n F B ∧ ∃ i, i < n ∧ (∀ j, j < i → B j = F j) ∧ F i < B i := by
              rcases hy with hy | hy
              · exact hy.2
              · exact absurd hy.1 c_77
            exact zIm_n d1 f3 (fun i hi => by rw [d2 i (by omega)]; exact f1 i hi) (fun mk' F' h1 h2 h3 => zLx_tr y3 y4 y5 (b4 mk' F' h1 h2 h3)) hrefl)
         | (refine zIm_n d1 f3 (fun i hi => by rw [d2 i (by omega)]; exact f1 i hi) (fun mk' F' h1 h2 h3 => ?_) hrefl
            rcases hI with hI | ⟨B, hI⟩
            · exact absurd h3 (hI.2 mk' F' h1 h2)
            · rw [e4] at c_70; omega))
    · skip
      obtain ⟨F, f1, f2, f3, f4⟩ : ∃ F, (∀ i, i < n → G1 97 i = F i) ∧ zmk n F mk ∧ zCd S sn sl n F ∧ ∀ F', zmk n F' mk → zCd S sn sl n F' → ∀ i, i < n → F' i = F i := by
        rcases hx with hx | hx
        · exact hx.2
        · exact absurd hx.1 c_63
      have hF8 : ∀ i, i < n → F i < 8 := fun i hi => by rcases f3.1.1 i hi with q | q <;> omega
      have hrefl : ∀ F', zmk n F' mk → zCd S sn sl n F' → zLx n F F' := fun F' h1 h2 i hi _ => by rw [f4 F' h1 h2 i hi]; exact Nat.le_refl _
      refine x_aloadn (pc := 66) dX7_seek_66 rfl ?_
      refine x_getI (pc := 67) dX7_seek_67 fl_X7_30 k_88 (hL 88 (by decide) (by decide)) ?_
      refine x_ieq (tgt := 80) (pc := 70) dX7_seek_70 (by decide) (by rw [e4]; omega) (fun c_70 => ?_) (fun c_70 => ?_)
      · skip
        refine x_aloadn (pc := 80) dX7_seek_80 rfl ?_
        refine x_iloadn (pc := 81) dX7_seek_81 rfl ?_
        refine x_cVV (pc := 82) dX7_seek_82 lk_X7_61 (c_Sm_keep (n := n) hL hF hn.2) k_88 ⟨by decide, rfl⟩ (hL 88 (by decide) (by decide)) (⟨by decide, by decide⟩) (Nat.le_of_ble_eq_true rfl) rfl ?_
        rintro G2 ⟨d1, d2, d3, d4, hF⟩
        have hq2 := hq1.tr (d4.mono (by decide))
        refine x_iinc (pc := 85) dX7_seek_85 rfl (by decide) rfl ?_
        refine x_goto (tgt := 50) (pc := 88) dX7_seek_88 (by decide) ?_
        first
        | (refine ih2 _ (by omega) (by omega) ?_ hS' (hQ.tr hq1) hF
           first
           | (have hz : zLx n B F := by
                rcases hy with hy | hy
                · omega
                · exact hy.2
              exact zIm_n (by rw [e4]; exact b1) b2 (fun i hi => by rw [eb]; exact b3 i hi) b4 (fun F' h1 h2 i hi hj => by rw [f4 F' h1 h2 i hi]; exact hz i hi (fun j hji => (hj j hji).trans (f4 F' h1 h2 j (by omega)))))
           | (have hno : ∀ F', zmk n F' mk → ¬ zCd S sn sl n F' := by
                rcases hx with hx | hx
                · omega
                · exact hx.2
              rcases hI with hI | ⟨B, b1, b2, b3, b4⟩
              · refine Or.inl ⟨by rw [e4]; exact hI.1, fun mk' F' h1 h2 => ?_⟩
                by_cases e : mk' = mk
                · subst e; exact hno F' h2
                · exact hI.2 mk' F' (by omega) h2
              · exact zIm_n (by rw [e4]; exact b1) b2 (fun i hi => by rw [eb]; exact b3 i hi) b4 (fun F' h1 h2 => absurd h2 (hno F' h1))))
        | (refine ih2 G2 (by omega) (by omega) ?_ (hS.fr (by rw [d3 4 (by decide), e4]) hq2) (hQ.tr hq2) hF
           first
           | (obtain ⟨y1, i, y3, y4, y5⟩ : zLx n F B ∧ ∃ i, i < n ∧ (∀ j, j < i → B j = F j) ∧ F i < B i := by
                rcases hy with hy | hy
                · exact hy.2
                · exact absurd hy.1 c_77
              exact zIm_n d1 f3 (fun i hi => by rw [d2 i (by omega)]; exact f1 i hi) (fun mk' F' h1 h2 h3 => zLx_tr y3 y4 y5 (b4 mk' F' h1 h2 h3)) hrefl)
           | (refine zIm_n d1 f3 (fun i hi => by rw [d2 i (by omega)]; exact f1 i hi) (fun mk' F' h1 h2 h3 => ?_) hrefl
              rcases hI with hI | ⟨B, hI⟩
              · exact absurd h3 (hI.2 mk' F' h1 h2)
              · rw [e4] at c_70; omega))
      · skip
        obtain ⟨B, b1, b2, b3, b4⟩ : ∃ F, G 88 5 = n ∧ zCd S sn sl n F ∧ (∀ i, i < n → G 98 i = F i) ∧ ∀ mk' F', mk' < mk → zmk n F' mk' → zCd S sn sl n F' → zLx n F F' := by
          rcases hI with hI | hI
          · exact absurd (by rw [e4]; exact hI.1) c_70
          · exact hI
        have hB8 : ∀ i, i < n → B i < 8 := fun i hi => by rcases b2.1.1 i hi with q | q <;> omega
        refine x_aloadn (pc := 73) dX7_seek_73 rfl ?_
        refine x_cVI (pc := 74) dX7_seek_74 lk_X7_57 (c_Sm_ahead (F := F) (B := B) hL hF hn.2 (by rw [e4]; exact b1) (fun i hi => ⟨f1 i hi, hF8 i hi⟩) (fun i hi => ⟨by rw [eb]; exact b3 i hi, hB8 i hi⟩)) k_88 ⟨by decide, rfl⟩ (hL 88 (by decide) (by decide)) (⟨by decide, by decide⟩) (Nat.le_of_ble_eq_true rfl) rfl ?_
        rintro y G' ⟨hy, hG⟩
        subst hG
        refine x_ieq (tgt := 85) (pc := 77) dX7_seek_77 (by decide) (by rcases hy with hy | hy <;> omega) (fun c_77 => ?_) (fun c_77 => ?_)
        · skip
          refine x_iinc (pc := 85) dX7_seek_85 rfl (by decide) rfl ?_
          refine x_goto (tgt := 50) (pc := 88) dX7_seek_88 (by decide) ?_
          first
          | (refine ih2 _ (by omega) (by omega) ?_ hS' (hQ.tr hq1) hF
             first
             | (have hz : zLx n B F := by
                  rcases hy with hy | hy
                  · omega
                  · exact hy.2
                exact zIm_n (by rw [e4]; exact b1) b2 (fun i hi => by rw [eb]; exact b3 i hi) b4 (fun F' h1 h2 i hi hj => by rw [f4 F' h1 h2 i hi]; exact hz i hi (fun j hji => (hj j hji).trans (f4 F' h1 h2 j (by omega)))))
             | (have hno : ∀ F', zmk n F' mk → ¬ zCd S sn sl n F' := by
                  rcases hx with hx | hx
                  · omega
                  · exact hx.2
                rcases hI with hI | ⟨B, b1, b2, b3, b4⟩
                · refine Or.inl ⟨by rw [e4]; exact hI.1, fun mk' F' h1 h2 => ?_⟩
                  by_cases e : mk' = mk
                  · subst e; exact hno F' h2
                  · exact hI.2 mk' F' (by omega) h2
                · exact zIm_n (by rw [e4]; exact b1) b2 (fun i hi => by rw [eb]; exact b3 i hi) b4 (fun F' h1 h2 => absurd h2 (hno F' h1))))
          | (refine ih2 G2 (by omega) (by omega) ?_ (hS.fr (by rw [d3 4 (by decide), e4]) hq2) (hQ.tr hq2) hF
             first
             | (obtain ⟨y1, i, y3, y4, y5⟩ : zLx n F B ∧ ∃ i, i < n ∧ (∀ j, j < i → B j = F j) ∧ F i < B i := by
                  rcases hy with hy | hy
                  · exact hy.2
                  · exact absurd hy.1 c_77
                exact zIm_n d1 f3 (fun i hi => by rw [d2 i (by omega)]; exact f1 i hi) (fun mk' F' h1 h2 h3 => zLx_tr y3 y4 y5 (b4 mk' F' h1 h2 h3)) hrefl)
             | (refine zIm_n d1 f3 (fun i hi => by rw [d2 i (by omega)]; exact f1 i hi) (fun mk' F' h1 h2 h3 => ?_) hrefl
                rcases hI with hI | ⟨B, hI⟩
                · exact absurd h3 (hI.2 mk' F' h1 h2)
                · rw [e4] at c_70; omega))
        · skip
          refine x_aloadn (pc := 80) dX7_seek_80 rfl ?_
          refine x_iloadn (pc := 81) dX7_seek_81 rfl ?_
          refine x_cVV (pc := 82) dX7_seek_82 lk_X7_61 (c_Sm_keep (n := n) hL hF hn.2) k_88 ⟨by decide, rfl⟩ (hL 88 (by decide) (by decide)) (⟨by decide, by decide⟩) (Nat.le_of_ble_eq_true rfl) rfl ?_
          rintro G2 ⟨d1, d2, d3, d4, hF⟩
          have hq2 := hq1.tr (d4.mono (by decide))
          refine x_iinc (pc := 85) dX7_seek_85 rfl (by decide) rfl ?_
          refine x_goto (tgt := 50) (pc := 88) dX7_seek_88 (by decide) ?_
          first
          | (refine ih2 _ (by omega) (by omega) ?_ hS' (hQ.tr hq1) hF
             first
             | (have hz : zLx n B F := by
                  rcases hy with hy | hy
                  · omega
                  · exact hy.2
                exact zIm_n (by rw [e4]; exact b1) b2 (fun i hi => by rw [eb]; exact b3 i hi) b4 (fun F' h1 h2 i hi hj => by rw [f4 F' h1 h2 i hi]; exact hz i hi (fun j hji => (hj j hji).trans (f4 F' h1 h2 j (by omega)))))
             | (have hno : ∀ F', zmk n F' mk → ¬ zCd S sn sl n F' := by
                  rcases hx with hx | hx
                  · omega
                  · exact hx.2
                rcases hI with hI | ⟨B, b1, b2, b3, b4⟩
                · refine Or.inl ⟨by rw [e4]; exact hI.1, fun mk' F' h1 h2 => ?_⟩
                  by_cases e : mk' = mk
                  · subst e; exact hno F' h2
                  · exact hI.2 mk' F' (by omega) h2
                · exact zIm_n (by rw [e4]; exact b1) b2 (fun i hi => by rw [eb]; exact b3 i hi) b4 (fun F' h1 h2 => absurd h2 (hno F' h1))))
          | (refine ih2 G2 (by omega) (by omega) ?_ (hS.fr (by rw [d3 4 (by decide), e4]) hq2) (hQ.tr hq2) hF
             first
             | (obtain ⟨y1, i, y3, y4, y5⟩ : zLx n F B ∧ ∃ i, i < n ∧ (∀ j, j < i → B j = F j) ∧ F i < B i := by
                  rcases hy with hy | hy
                  · exact hy.2
                  · exact absurd hy.1 c_77
                exact zIm_n d1 f3 (fun i hi => by rw [d2 i (by omega)]; exact f1 i hi) (fun mk' F' h1 h2 h3 => zLx_tr y3 y4 y5 (b4 mk' F' h1 h2 h3)) hrefl)
             | (refine zIm_n d1 f3 (fun i hi => by rw [d2 i (by omega)]; exact f1 i hi) (fun mk' F' h1 h2 h3 => ?_) hrefl
                rcases hI with hI | ⟨B, hI⟩
                · exact absurd h3 (hI.2 mk' F' h1 h2)
                · rw [e4] at c_70; omega))
abbrev pSk (L : List Nat) (G0 : Nat → Nat → Int) (S : Nat) (sn : Nat → Nat) (sl : Nat → Nat → Nat) : x_Q := qV L fun G' => (∃ nn F, zCmn S sn sl nn F ∧ G' 88 5 = nn ∧ ∀ i, i < nn → G' 98 i = F i) ∧ cSm S sn sl G' ∧ FR zsmS G0 G' ∧ x_Fin xFL G'
theorem l_Sm_sk {G0 : Nat → Nat → Int} {Lg : Int} (hL : x_SL L) (hS1 : 1 ≤ S) (hs1 : ∀ s, s < S → 1 ≤ sn s) :
    ∀ (n : Nat) (G : Nat → Nat → Int) (o3 : Option (Nat × Int)), n ≤ 8 → zIn S sn sl n G → cSm S sn sl G → FR zsmS G0 G → x_Fin xFL G →
    X mX7_seek 3 0 0 (pSk L G0 S sn sl) 37 [some (vR 88), some (vI Lg), some (vI n), o3] [] L G 0 0 := by
  intro n
  induction n with
  | zero =>
    intro G o3 hn hI hS hQ hF
    refine x_iloadn (pc := 37) dX7_seek_37 rfl ?_
    refine x_ile (tgt := 97) (pc := 38) dX7_seek_38 (by decide) (by omega) (fun c_38 => ?_) (fun c_38 => ?_)
    rotate_left
    · skip
      exact absurd c_38 (by decide)
    refine x_rV (pc := 97) dX7_seek_97 rfl ?_
    refine ⟨?_, hS, hQ, hF⟩
    rcases hI with hI | hI
    · exact absurd (zone_cd hs1) (hI.2 1 _ (by decide) (by decide))
    · exact hI
  | succ n ih =>
    intro G o3 hn hI hS hQ hF
    have hbs : 0 ≤ G 88 5 ∧ G 88 5 ≤ 8 := by
      rcases hI with hI | ⟨nn, F, hI, hI2, _⟩
      · omega
      · have := hI.2.1; omega
    refine x_iloadn (pc := 37) dX7_seek_37 rfl ?_
    refine x_ile (tgt := 97) (pc := 38) dX7_seek_38 (by decide) (by omega) (fun c_38 => ?_) (fun c_38 => ?_)
    · skip
      exact absurd c_38 (by omega)
    refine x_aloadn (pc := 41) dX7_seek_41 rfl ?_
    refine x_getI (pc := 42) dX7_seek_42 fl_X7_30 k_88 (hL 88 (by decide) (by decide)) ?_
    refine x_ine (tgt := 97) (pc := 45) dX7_seek_45 (by decide) (by omega) (fun c_45 => ?_) (fun c_45 => ?_)
    · skip
      refine x_rV (pc := 97) dX7_seek_97 rfl ?_
      refine ⟨?_, hS, hQ, hF⟩
      rcases hI with hI | hI
      · exact absurd hI.1 c_45
      · exact hI
    · skip
      refine x_iconst (pc := 48) dX7_seek_48 ?_
      refine x_istoren (pc := 49) dX7_seek_49 rfl (by decide) rfl ?_
      have hno : ∀ n' F', n + 1 < n' → n' ≤ 8 → ¬ zCd S sn sl n' F' := by
        rcases hI with hI | ⟨nn, F, hI, hI2, _⟩
        · exact hI.2
        · have := hI.1; omega
      refine l_Sm_mk (n := n + 1) (sn := sn) (sl := sl) (S := S) (G0 := G0) hL hS1 ⟨by omega, hn⟩ (fun G1 o3 b1 b2 b3 hF => ?_) (2 ^ (n + 1) - 1) 1 G (by have := Nat.pow_pos (n := n + 1) (show 0 < 2 by decide); omega) (Nat.le_refl _) (Or.inl ⟨c_45, fun mk' F' h1 h2 h3 => ?_⟩) hS hQ hF
      · refine x_iinc (pc := 91) dX7_seek_91 rfl (by decide) rfl ?_
        refine x_goto (tgt := 37) (pc := 94) dX7_seek_94 (by decide) ?_
        rw [show ((n + 1 : Nat) : Int) + -1 = (n : Int) by omega]
        refine ih G1 o3 (by omega) ?_ b2 b3 hF
        rcases b1 with ⟨g1, g2⟩ | ⟨F, g1, g2, g3, g4⟩
        · refine Or.inl ⟨g1, fun n' F' h1 h2 h3 => ?_⟩
          by_cases e : n' = n + 1
          · subst e
            obtain ⟨mk, k1, k2⟩ := zmk_ex F' (n + 1)
            exact g2 mk F' k1 k2 h3
          · exact hno n' F' (by omega) h2 h3
        · refine Or.inr ⟨n + 1, F, ⟨by omega, hn, g2, fun F' h3 => ?_, hno⟩, g1, g3⟩
          obtain ⟨mk, k1, k2⟩ := zmk_ex F' (n + 1)
          exact g4 mk F' k1 k2 h3
      · have e : mk' = 0 := by omega
        subst e
        obtain ⟨i, i1, i2⟩ := h3.1.2
        have := (h2 i i1).mpr i2
        unfold zbt at this
        simp at this
theorem l_Sm_s5 {G0 : Nat → Nat → Int} (hL : x_SL L) (hF : x_Fin xFL G0) (hS : cSm S sn sl G0) (hS1 : 1 ≤ S) :
    ∀ (r s Lg : Nat), s + r = S → 1 ≤ Lg → Lg ≤ 8 → (Lg = 8 ∨ ∃ s', s' < s ∧ Lg = sn s') →
    X mX7_seek 3 0 0 (pSk L G0 S sn sl) 5 [some (vR 88), some (vI Lg), some (vI s), none] [] L G0 0 0 := by
  obtain ⟨s1, s2, s3⟩ := id hS
  intro r
  induction r with
  | zero =>
    intro s Lg hs h1 h8 h
    have hs : s = S := by omega
    subst hs
    refine x_iloadn (pc := 5) dX7_seek_5 rfl ?_
    refine x_aloadn (pc := 6) dX7_seek_6 rfl ?_
    refine x_getI (pc := 7) dX7_seek_7 fl_X7_26 k_88 (hL 88 (by decide) (by decide)) ?_
    refine x_cge (tgt := 30) (pc := 10) dX7_seek_10 (by decide) (by omega) (fun c_10 => ?_) (fun c_10 => ?_)
    rotate_left
    · skip
      exact absurd c_10 (by omega)
    refine x_aloadn (pc := 30) dX7_seek_30 rfl ?_
    refine x_iconst (pc := 31) dX7_seek_31 ?_
    refine x_putIF (pc := 32) dX7_seek_32 fp_X7_30 k_88 (hL 88 (by decide) (by decide)) hF (fun hF => ?_)
    refine x_iloadn (pc := 35) dX7_seek_35 rfl ?_
    refine x_istoren (pc := 36) dX7_seek_36 rfl (by decide) rfl ?_
    have hq : FR zsmS G0 (x_up G0 88 5 0) := FR.rf.up (by decide)
    refine l_Sm_sk hL hS1 (fun s h => (s3 s h).2.1) Lg _ _ h8 (Or.inl ⟨x_up_s, fun n' F' g1 g2 g3 => ?_⟩) (hS.fr (x_up_k (by decide)) hq) hq hF
    rcases h with h | ⟨s', h, h'⟩
    · omega
    · have := zlong_cd g3 h; omega
  | succ r ih =>
    intro s Lg hs h1 h8 h
    obtain ⟨e1, e2, e3, e4⟩ := s3 s (by omega)
    refine x_iloadn (pc := 5) dX7_seek_5 rfl ?_
    refine x_aloadn (pc := 6) dX7_seek_6 rfl ?_
    refine x_getI (pc := 7) dX7_seek_7 fl_X7_26 k_88 (hL 88 (by decide) (by decide)) ?_
    refine x_cge (tgt := 30) (pc := 10) dX7_seek_10 (by decide) (by omega) (fun c_10 => ?_) (fun c_10 => ?_)
    · skip
      exact absurd c_10 (by omega)
    refine x_iloadn (pc := 13) dX7_seek_13 rfl ?_
    refine x_aloadn (pc := 14) dX7_seek_14 rfl ?_
    refine x_getR (96) (pc := 15) dX7_seek_15 fl_X7_16 k_88 (hL 88 (by decide) (by decide)) (f_88_1 hF) ?_
    refine x_iloadn (pc := 18) dX7_seek_18 rfl ?_
    refine x_iald (s) (pc := 19) dX7_seek_19 k_96 (hL 96 (by decide) (by decide)) (⟨rfl, by omega, by decide⟩) ?_
    rw [e1]
    refine x_mmin (pc := 20) dX7_seek_20 lk_X7_37 (by omega) (Nat.le_of_ble_eq_true rfl) (by omega) ?_
    rw [show min (Lg : Int) (sn s : Int) = ((min Lg (sn s) : Nat) : Int) by omega]
    refine x_istoren (pc := 23) dX7_seek_23 rfl (by decide) rfl ?_
    refine x_iinc (pc := 24) dX7_seek_24 rfl (by decide) rfl ?_
    refine x_goto (tgt := 5) (pc := 27) dX7_seek_27 (by decide) ?_
    refine ih (s + 1) (min Lg (sn s)) (by omega) (by omega) (by omega) ?_
    rcases Nat.le_total Lg (sn s) with q | q
    · rw [Nat.min_eq_left q]
      rcases h with h | ⟨s', h, h'⟩
      · exact Or.inl h
      · exact Or.inr ⟨s', by omega, h'⟩
    · rw [Nat.min_eq_right q]; exact Or.inr ⟨s, by omega, rfl⟩
theorem c_Sm_seek {G : Nat → Nat → Int} (hL : x_SL L) (hF : x_Fin xFL G) (hS : cSm S sn sl G) (hS1 : 1 ≤ S) :
    CM yX7_seek mX7_seek 3 0 0 [vR 88] L G (pSk L G S sn sl) := by
  refine Ct.of_X (μ := mX7_seek) rfl rfl (by decide) (fun h => by cases h) (Nat.le_of_ble_eq_true rfl) rfl ?_
  refine x_bipush (pc := 0) dX7_seek_0 (by decide) ?_
  refine x_istoren (pc := 2) dX7_seek_2 rfl (by decide) rfl ?_
  refine x_iconst (pc := 3) dX7_seek_3 ?_
  refine x_istoren (pc := 4) dX7_seek_4 rfl (by decide) rfl ?_
  exact l_Sm_s5 hL hF hS hS1 S 0 8 (by omega) (by decide) (by decide) (Or.inl rfl)
/-- what the class keeps of it -/
def cSo (S : Nat) (sn : Nat → Nat) (sl : Nat → Nat → Nat) (G : Nat → Nat → Int) : Prop := (G 88 6 = 0 ∨ G 88 6 = 1) ∧ (G 88 6 = 1 → ∃ nn F, zCmn S sn sl nn F ∧ G 88 5 = nn ∧ ∀ i, i < nn → G 98 i = F i)
def zCans (n : Nat) (F : Nat → Nat) (k : Int) : Int := if k = -1 then (n : Int) else if k < n then (F k.toNat : Int) else -1
abbrev pLs (L : List Nat) (G0 : Nat → Nat → Int) (S : Nat) (sn : Nat → Nat) (sl : Nat → Nat → Nat) (k : Int) : x_Q := qI L fun x G' => (∃ nn F, zCmn S sn sl nn F ∧ x = zCans nn F k) ∧ cSm S sn sl G' ∧ cSo S sn sl G' ∧ FR zsmS G0 G' ∧ x_Fin xFL G'
theorem l_Sm_ls {k : Int} {G0 G : Nat → Nat → Int} (hL : x_SL L) (hF : x_Fin xFL G) (hS : cSm S sn sl G) (hQ : FR zsmS G0 G) (hk : -1 ≤ k ∧ k < 2147483648) (hB : ∃ nn F, zCmn S sn sl nn F ∧ G 88 5 = nn ∧ ∀ i, i < nn → G 98 i = F i) :
    X mX7_longestShared 4 0 0 (pLs L G0 S sn sl k) 11 [some (vR 88), some (vI k)] [] L G 0 0 := by
  obtain ⟨nn, F, b1, b2, b3⟩ := hB
  have hn8 := b1.2.1
  have hq : FR zsmS G (x_up G 88 6 1) := FR.rf.up (by decide)
  have e1 : x_up G 88 6 1 88 5 = nn := by rw [x_up_k (by decide)]; exact b2
  have fin : ∀ x, x = zCans nn F k → (fun x G' => (∃ nn F, zCmn S sn sl nn F ∧ x = zCans nn F k) ∧ cSm S sn sl G' ∧ cSo S sn sl G' ∧ FR zsmS G0 G' ∧ x_Fin xFL G') x (x_up G 88 6 1) := fun x hx =>
    ⟨⟨nn, F, b1, hx⟩, hS.fr (x_up_k (by decide)) hq, ⟨Or.inr x_up_s, fun _ => ⟨nn, F, b1, e1, fun i hi => by rw [x_up_ne (by decide)]; exact b3 i hi⟩⟩, hQ.tr hq, x_FinP hF k_88 (by rfl) ⟨by decide, by decide⟩⟩
  refine x_aloadn (pc := 11) dX7_longestShared_11 rfl ?_
  refine x_iconst (pc := 12) dX7_longestShared_12 ?_
  refine x_putZF (pc := 13) dX7_longestShared_13 fp_X7_33 k_88 (hL 88 (by decide) (by decide)) (by omega) hF (fun hF => ?_)
  refine x_iloadn (pc := 16) dX7_longestShared_16 rfl ?_
  refine x_iconst (pc := 17) dX7_longestShared_17 ?_
  refine x_cne (tgt := 26) (pc := 18) dX7_longestShared_18 (by decide) (by omega) (fun c_18 => ?_) (fun c_18 => ?_)
  · skip
    refine x_iloadn (pc := 26) dX7_longestShared_26 rfl ?_
    refine x_ilt (tgt := 47) (pc := 27) dX7_longestShared_27 (by decide) (by omega) (fun c_27 => ?_) (fun c_27 => ?_)
    · skip
      refine x_iconst (pc := 47) dX7_longestShared_47 ?_
      refine x_rI (pc := 48) dX7_longestShared_48 rfl ?_
      refine fin _ ?_
      unfold zCans
      rw [if_neg c_18]
      first | (rw [if_pos (by omega)]; done) | (rw [if_neg (by omega)]; done)
    · skip
      refine x_iloadn (pc := 30) dX7_longestShared_30 rfl ?_
      refine x_aloadn (pc := 31) dX7_longestShared_31 rfl ?_
      refine x_getI (pc := 32) dX7_longestShared_32 fl_X7_30 k_88 (hL 88 (by decide) (by decide)) ?_
      refine x_cge (tgt := 47) (pc := 35) dX7_longestShared_35 (by decide) (by omega) (fun c_35 => ?_) (fun c_35 => ?_)
      · skip
        refine x_iconst (pc := 47) dX7_longestShared_47 ?_
        refine x_rI (pc := 48) dX7_longestShared_48 rfl ?_
        refine fin _ ?_
        unfold zCans
        rw [if_neg c_18]
        first | (rw [if_pos (by omega)]; done) | (rw [if_neg (by omega)]; done)
      · skip
        refine x_aloadn (pc := 38) dX7_longestShared_38 rfl ?_
        refine x_getR (98) (pc := 39) dX7_longestShared_39 fl_X7_23 k_88 (hL 88 (by decide) (by decide)) (f_88_3 hF) ?_
        refine x_iloadn (pc := 42) dX7_longestShared_42 rfl ?_
        refine x_iald (k.toNat) (pc := 43) dX7_longestShared_43 k_98 (hL 98 (by decide) (by decide)) (⟨by omega, by omega, by decide⟩) ?_
        rw [x_up_ne (by decide), b3 _ (by omega)]
        refine x_goto (tgt := 48) (pc := 44) dX7_longestShared_44 (by decide) ?_
        refine x_rI (pc := 48) dX7_longestShared_48 rfl ?_
        refine fin _ ?_
        unfold zCans
        rw [if_neg c_18]
        first | (rw [if_pos (by omega)]; done) | (rw [if_neg (by omega)]; done)
  · skip
    refine x_aloadn (pc := 21) dX7_longestShared_21 rfl ?_
    refine x_getI (pc := 22) dX7_longestShared_22 fl_X7_30 k_88 (hL 88 (by decide) (by decide)) ?_
    rw [e1]
    refine x_rI (pc := 25) dX7_longestShared_25 rfl ?_
    exact fin _ (by unfold zCans; rw [if_pos c_18])
theorem c_Sm_ls {k : Int} {G : Nat → Nat → Int} (hL : x_SL L) (hF : x_Fin xFL G) (hS : cSm S sn sl G) (hO : cSo S sn sl G) (hS1 : 1 ≤ S) (hk : -1 ≤ k ∧ k < 2147483648) :
    CM yX7_longestShared mX7_longestShared 4 0 0 [vR 88, vI k] L G (pLs L G S sn sl k) := by
  obtain ⟨o1, o2⟩ := hO
  refine Ct.of_X (μ := mX7_longestShared) rfl rfl (by decide) (fun h => by cases h) (Nat.le_of_ble_eq_true rfl) rfl ?_
  refine x_aloadn (pc := 0) dX7_longestShared_0 rfl ?_
  refine x_getZ (pc := 1) dX7_longestShared_1 fl_X7_33 k_88 (hL 88 (by decide) (by decide)) ?_
  refine x_ine (tgt := 11) (pc := 4) dX7_longestShared_4 (by decide) (by rcases o1 with o1 | o1 <;> omega) (fun c_4 => ?_) (fun c_4 => ?_)
  · skip
    first
    | exact l_Sm_ls hL hF a2 a3 hk a1
    | exact l_Sm_ls hL hF hS FR.rf hk (o2 (by rcases o1 with o1 | o1; exact absurd o1 c_4; exact o1))
  · skip
    refine x_aloadn (pc := 7) dX7_longestShared_7 rfl ?_
    refine x_cVV (pc := 8) dX7_longestShared_8 lk_X7_50 (c_Sm_seek hL hF hS hS1) k_88 ⟨by decide, rfl⟩ (hL 88 (by decide) (by decide)) (⟨by decide, by decide⟩) (Nat.le_of_ble_eq_true rfl) rfl ?_
    rintro G1 ⟨a1, a2, a3, hF⟩
    first
    | exact l_Sm_ls hL hF a2 a3 hk a1
    | exact l_Sm_ls hL hF hS FR.rf hk (o2 (by rcases o1 with o1 | o1; exact absurd o1 c_4; exact o1))
theorem c_ts_common {k : Int} {G : Nat → Nat → Int} (hL : x_SL L) (hF : x_Fin xFL G) (hS : cSm S sn sl G) (hO : cSo S sn sl G) (hk : -2147483648 ≤ k ∧ k < 2147483648) :
    CM yX11_common mX11_common 5 0 0 [vR 1, vI k] L G (qI L fun x G' => ((k < -1 ∧ x = -3) ∨ (-1 ≤ k ∧ S = 0 ∧ x = -4) ∨ (-1 ≤ k ∧ 1 ≤ S ∧ ∃ nn F, zCmn S sn sl nn F ∧ x = zCans nn F k)) ∧ cSm S sn sl G' ∧ cSo S sn sl G' ∧ FR zsmS G G' ∧ x_Fin xFL G') := by
  refine Ct.of_X (μ := mX11_common) rfl rfl (by decide) (fun h => by cases h) (Nat.le_of_ble_eq_true rfl) rfl ?_
  refine x_iloadn (pc := 0) dX11_common_0 rfl ?_
  refine x_iconst (pc := 1) dX11_common_1 ?_
  refine x_cge (tgt := 8) (pc := 2) dX11_common_2 (by decide) (by omega) (fun c_2 => ?_) (fun c_2 => ?_)
  · skip
    refine x_aloadn (pc := 8) dX11_common_8 rfl ?_
    refine x_getR (88) (pc := 9) dX11_common_9 fl_X11_59 k_1 (hL 1 (by decide) (by decide)) (f_1_7 hF) ?_
    refine x_cVI (pc := 12) dX11_common_12 lk_X11_230 (c_Sm_length hL hS.1 hS.2.1) k_88 ⟨by decide, rfl⟩ (hL 88 (by decide) (by decide)) (⟨by decide, by decide⟩) (Nat.le_of_ble_eq_true rfl) rfl ?_
    rintro x G' ⟨rfl, rfl⟩
    refine x_ine (tgt := 21) (pc := 15) dX11_common_15 (by decide) (by have := hS.2.1; omega) (fun c_15 => ?_) (fun c_15 => ?_)
    · skip
      refine x_aloadn (pc := 21) dX11_common_21 rfl ?_
      refine x_getR (88) (pc := 22) dX11_common_22 fl_X11_59 k_1 (hL 1 (by decide) (by decide)) (f_1_7 hF) ?_
      refine x_iloadn (pc := 25) dX11_common_25 rfl ?_
      refine x_cVI (pc := 26) dX11_common_26 lk_X11_232 (c_Sm_ls hL hF hS hO (by omega) (by omega)) k_88 ⟨by decide, rfl⟩ (hL 88 (by decide) (by decide)) (⟨by decide, by decide⟩) (Nat.le_of_ble_eq_true rfl) rfl ?_
      rintro x G1 ⟨a1, a2, a3, a4, hF⟩
      refine x_rI (pc := 29) dX11_common_29 rfl ?_
      exact ⟨Or.inr (Or.inr ⟨by omega, by omega, a1⟩), a2, a3, a4, hF⟩
    · skip
      refine x_bipush (pc := 18) dX11_common_18 (by decide) ?_
      refine x_rI (pc := 20) dX11_common_20 rfl ?_
      exact ⟨Or.inr (Or.inl ⟨by omega, by omega, rfl⟩), hS, hO, FR.rf, hF⟩
  · skip
    refine x_bipush (pc := 5) dX11_common_5 (by decide) ?_
    refine x_rI (pc := 7) dX11_common_7 rfl ?_
    exact ⟨Or.inl ⟨by omega, rfl⟩, hS, hO, FR.rf, hF⟩
end XCS

