/-! the class: what leads to the end -/
theorem zhn_le {t : Nat → Nat} : ∀ n, zhn t n ≤ n
  | 0 => Nat.le_refl _
  | n + 1 => by have := zhn_le (t := t) n; rw [zhn]; split <;> omega
theorem zhn_lt {t : Nat → Nat} {j : Nat} (h0 : t j = 0) : ∀ n, j < n → zhn t n < n
  | 0, hj => absurd hj (Nat.not_lt_zero j)
  | n + 1, hj => by
    rw [zhn]
    by_cases c : j = n
    · subst c
      have := zhn_le (t := t) j
      rw [if_pos h0]; omega
    · have := zhn_lt h0 n (by omega)
      split <;> omega
/-- the last edge into q ahead of b -/
def zli (T : Nat → Int) (q : Nat) : Nat → Int
  | 0 => -1
  | e + 1 => if T e = ((q : Nat) : Int) then ((e : Nat) : Int) else zli T q e
theorem zli_sp {T : Nat → Int} {q : Nat} : ∀ b, (zli T q b = -1 ∧ ∀ e, e < b → T e ≠ ((q : Nat) : Int)) ∨ ∃ e1 : Nat, zli T q b = ((e1 : Nat) : Int) ∧ e1 < b ∧ T e1 = ((q : Nat) : Int) ∧ ∀ e, e1 < e → e < b → T e ≠ ((q : Nat) : Int)
  | 0 => Or.inl ⟨rfl, fun e h => absurd h (Nat.not_lt_zero e)⟩
  | b + 1 => by
    rw [zli]
    by_cases c : T b = ((q : Nat) : Int)
    · rw [if_pos c]
      exact Or.inr ⟨b, rfl, by omega, c, fun e h1 h2 => by omega⟩
    · rw [if_neg c]
      rcases zli_sp (T := T) (q := q) b with ⟨h1, h2⟩ | ⟨e1, h1, h2, h3, h4⟩
      · refine Or.inl ⟨h1, fun e he => ?_⟩
        by_cases k : e = b
        · rw [k]; exact c
        · exact h2 e (by omega)
      · refine Or.inr ⟨e1, h1, by omega, h3, fun e k1 k2 => ?_⟩
        by_cases k : e = b
        · rw [k]; exact c
        · exact h4 e k1 (by omega)
def cTg (n : Nat) (T : Nat → Int) (G : Nat → Nat → Int) : Prop := G 173 13 = ((n : Nat) : Int) ∧ n ≤ 1500 ∧ ∀ e, e < 4 * n → G 187 e = T e
theorem cTg.FR {n : Nat} {T : Nat → Int} {S : List Nat} {G G' : Nat → Nat → Int} (h : cTg n T G) (k : FR S G G') (h0 : 173 ∉ S) (h1 : 187 ∉ S) : cTg n T G' := by
  unfold cTg
  rw [k _ h0, k _ h1]; exact h
def cLg (n : Nat) (ld : Nat → Nat) (G : Nat → Nat → Int) : Prop := ∀ k, k < n → G 192 k = ((ld k : Nat) : Int) ∧ ld k ≤ 1
section XLD
variable {L : List Nat} {n : Nat} {T : Nat → Int} {cb : Nat → Nat} {B : Nat → Prop} {D : Nat}
theorem c_gr_isLeadN {G : Nat → Nat → Int} (hL : x_SL L) (hM : x_GM L) :
    CM yX5_isLeading mX5_isLeading 0 0 0 [vR 173, vI (-1)] L G (qI L fun x G' => x = 0 ∧ G' = G) := by
  refine Ct.of_X (μ := mX5_isLeading) rfl rfl (by decide) (fun h => by cases h) (Nat.le_of_ble_eq_true rfl) rfl ?_
  refine x_iloadn (pc := 0) dX5_isLeading_0 rfl ?_
  refine x_ilt (tgt := 25) (pc := 1) dX5_isLeading_1 (by decide) (by omega) (fun c_1 => ?_) (fun c_1 => ?_)
  rotate_left
  · skip
    exact absurd c_1 (by decide)
  refine x_iconst (pc := 25) dX5_isLeading_25 ?_
  refine x_rZ (pc := 26) dX5_isLeading_26 rfl (by omega) ?_
  exact ⟨rfl, rfl⟩
theorem c_gr_isLeadY {y : Nat} {ld : Nat → Nat} {G : Nat → Nat → Int} (hL : x_SL L) (hM : x_GM L) (hF : x_Fin xFL G) (hG : x_Fin xGL G) (ht : cTg n T G) (hl : cLg n ld G) (hy : y < n) :
    CM yX5_isLeading mX5_isLeading 0 0 0 [vR 173, vI y] L G (qI L fun x G' => x = ((ld y : Nat) : Int) ∧ G' = G) := by
  obtain ⟨h1, h2⟩ := hl y hy
  have hn := ht.2.1
  refine Ct.of_X (μ := mX5_isLeading) rfl rfl (by decide) (fun h => by cases h) (Nat.le_of_ble_eq_true rfl) rfl ?_
  refine x_iloadn (pc := 0) dX5_isLeading_0 rfl ?_
  refine x_ilt (tgt := 25) (pc := 1) dX5_isLeading_1 (by decide) (by omega) (fun c_1 => ?_) (fun c_1 => ?_)
  · skip
    exact absurd c_1 (by omega)
  refine x_iloadn (pc := 4) dX5_isLeading_4 rfl ?_
  refine x_aloadn (pc := 5) dX5_isLeading_5 rfl ?_
  refine x_getI (pc := 6) dX5_isLeading_6 fl_X5_57 k_173 (hM 173 (by decide) (by decide)) ?_
  rw [ht.1]
  refine x_cge (tgt := 25) (pc := 9) dX5_isLeading_9 (by decide) (by omega) (fun c_9 => ?_) (fun c_9 => ?_)
  · skip
    exact absurd c_9 (by omega)
  refine x_aloadn (pc := 12) dX5_isLeading_12 rfl ?_
  refine x_getR (192) (pc := 13) dX5_isLeading_13 fl_X5_48 k_173 (hM 173 (by decide) (by decide)) (f_173_10 hG) ?_
  refine x_iloadn (pc := 16) dX5_isLeading_16 rfl ?_
  refine x_zald (y) (pc := 17) dX5_isLeading_17 k_192 (hM 192 (by decide) (by decide)) (⟨by omega, by omega, by decide⟩) ?_
  rw [h1]
  refine x_ieq (tgt := 25) (pc := 18) dX5_isLeading_18 (by decide) (by omega) (fun c_18 => ?_) (fun c_18 => ?_)
  · skip
    refine x_iconst (pc := 25) dX5_isLeading_25 ?_
    refine x_rZ (pc := 26) dX5_isLeading_26 rfl (by omega) ?_
    exact ⟨by omega, rfl⟩
  · skip
    refine x_iconst (pc := 21) dX5_isLeading_21 ?_
    refine x_goto (tgt := 26) (pc := 22) dX5_isLeading_22 (by decide) ?_
    refine x_rZ (pc := 26) dX5_isLeading_26 rfl (by omega) ?_
    exact ⟨by omega, rfl⟩
abbrev z_mlS : List Nat := [190, 191, 192, 194]
abbrev pMlm (L : List Nat) (G0 : Nat → Nat → Int) (n : Nat) (T : Nat → Int) (B : Nat → Prop) : x_Q := qV L fun G' => (∃ ld, cLg n ld G' ∧ ∀ k, k < n → (ld k = 1 ↔ zLe n T B k)) ∧ FR z_mlS G0 G' ∧ x_Fin xFL G' ∧ x_Fin xGL G'
/-- the search back from the end: marks, queue -/
def zBf (n : Nat) (T : Nat → Int) (B : Nat → Prop) (i qd : Nat) (qf ld : Nat → Nat) : Prop := zhn ld n = qd ∧ (∀ a, a < qd → qf a < n ∧ ld (qf a) = 1 ∧ zLe n T B (qf a)) ∧ (∀ k, k < n → ld k = 1 → ∃ a, a < qd ∧ qf a = k) ∧ (∀ a, a < i → ∀ e, e < 4 * n → T e = ((qf a : Nat) : Int) → ld (e / 4) = 1) ∧ (∀ k, ld k ≤ 1) ∧ ∀ x, x < n → B x → ld x = 1
theorem zups {f : Nat → Nat} {i v : Nat} : zup f i v i = v := by unfold zup; rw [if_pos rfl]
theorem zupk {f : Nat → Nat} {i v j : Nat} (h : j ≠ i) : zup f i v j = f j := by unfold zup; rw [if_neg h]
theorem zup1 {f : Nat → Nat} {i j : Nat} (h : f j = 1) : zup f i 1 j = 1 := by
  by_cases c : j = i
  · rw [c, zups]
  · rw [zupk c]; exact h
theorem zBf.mark {i qd x : Nat} {qf ld : Nat → Nat} (h : zBf n T B i qd qf ld) (hi : i ≤ qd) (hx : x < n) (h0 : ld x = 0) (hl : zLe n T B x) : zBf n T B i (qd + 1) (zup qf qd x) (zup ld x 1) := by
  obtain ⟨h1, h2, h3, h4, h5, h6⟩ := h
  refine ⟨by rw [zhn_up (t := ld) (t' := zup ld x 1) (j := x) h0 (by rw [zups]; decide) (fun k hk => zupk hk) n hx, h1], fun a ha => ?_, fun k hk hk1 => ?_, fun a ha e he hT => ?_, fun k => ?_, fun k hk hb => ?_⟩
  · by_cases c : a = qd
    · rw [c, zups, zups]; exact ⟨hx, rfl, hl⟩
    · have c2 := h2 a (by omega)
      rw [zupk c]
      exact ⟨c2.1, zup1 c2.2.1, c2.2.2⟩
  · by_cases c : k = x
    · exact ⟨qd, by omega, by rw [zups, c]⟩
    · rw [zupk c] at hk1
      obtain ⟨a, a1, a2⟩ := h3 k hk hk1
      exact ⟨a, by omega, by rw [zupk (by omega)]; exact a2⟩
  · rw [zupk (by omega)] at hT
    exact zup1 (h4 a ha e he hT)
  · by_cases c : k = x
    · rw [c, zups]; exact Nat.le_refl _
    · rw [zupk c]; exact h5 k
  · exact zup1 (h6 k hk hb)
theorem l_gr_mlI {Q : x_Q} {i y : Nat} {G0 : Nat → Nat → Int} (hL : x_SL L) (hM : x_GM L) (ht : cTg n T G0) (hT : ∀ e, e < 4 * n → T e = -1 ∨ (0 ≤ T e ∧ T e < n)) (hy : y < n) (hly : zLe n T B y) (hoi : ∀ e, e < 4 * n → T e = ((y : Nat) : Int) → G0 191 e = zli T y e)
    (cont : ∀ (qd : Nat) (qf ld : Nat → Nat) (G : Nat → Nat → Int) (o3 o4 o5 : Option (Nat × Int)), i < qd → zBf n T B (i + 1) qd qf ld → cLg n ld G → (∀ a, a < qd → G 194 a = ((qf a : Nat) : Int)) → FR [192, 194] G0 G → x_Fin xFL G → x_Fin xGL G → X mX5_markLeading 1 0 0 Q 209 [some (vR 173), some (vI qd), some (vI i), o3, o4, o5] [] L G 0 0) :
    ∀ (r b c qd : Nat) (qf ld : Nat → Nat) (G : Nat → Nat → Int) (o5 : Option (Nat × Int)), b ≤ r → c + b ≤ 4 * n → i < qd → qf i = y → (∀ e, b ≤ e → e < 4 * n → T e = ((y : Nat) : Int) → ld (e / 4) = 1) → zBf n T B i qd qf ld → cLg n ld G → (∀ a, a < qd → G 194 a = ((qf a : Nat) : Int)) → FR [192, 194] G0 G → x_Fin xFL G → x_Fin xGL G →
    X mX5_markLeading 1 0 0 Q 140 [some (vR 173), some (vI qd), some (vI i), some (vI (zli T y b)), some (vI c), o5] [] L G 0 0 := by
  intro r
  induction r with
  | zero =>
    intro b c qd qf ld G o5 hb hc hiq hqi hpr hz hl hqu hQ hF hG
    have hb : b = 0 := by omega
    subst hb
    have hli : zli T y 0 = -1 := rfl
    have ht' := ht.FR hQ (by decide) (by decide)
    have hn := ht'.2.1
    have hfin : zBf n T B (i + 1) qd qf ld := ⟨hz.1, hz.2.1, hz.2.2.1, fun a ha e he hTe => by
      by_cases k : a = i
      · rw [k, hqi] at hTe; exact hpr e (Nat.zero_le _) he hTe
      · exact hz.2.2.2.1 a (by omega) e he hTe, hz.2.2.2.2⟩
    rw [hli]
    refine x_iload (pc := 140) dX5_markLeading_140 rfl ?_
    refine x_iconst (pc := 142) dX5_markLeading_142 ?_
    refine x_aloadn (pc := 143) dX5_markLeading_143 rfl ?_
    refine x_getI (pc := 144) dX5_markLeading_144 fl_X5_57 k_173 (hM 173 (by decide) (by decide)) ?_
    rw [ht'.1]
    refine x_imul (pc := 147) dX5_markLeading_147 ?_
    refine x_cge (tgt := 209) (pc := 148) dX5_markLeading_148 (by decide) (by omega) (fun c_148 => ?_) (fun c_148 => ?_)
    · skip
      exact cont qd qf ld G _ _ _ hiq hfin hl hqu hQ hF hG
    · skip
      refine x_iloadn (pc := 151) dX5_markLeading_151 rfl ?_
      refine x_ilt (tgt := 209) (pc := 152) dX5_markLeading_152 (by decide) (by omega) (fun c_152 => ?_) (fun c_152 => ?_)
      rotate_left
      · skip
        exact absurd c_152 (by decide)
      exact cont qd qf ld G _ _ _ hiq hfin hl hqu hQ hF hG
  | succ r ih =>
    intro b c qd qf ld G o5 hb hc hiq hqi hpr hz hl hqu hQ hF hG
    have ht' := ht.FR hQ (by decide) (by decide)
    have hn := ht'.2.1
    rcases zli_sp (T := T) (q := y) b with ⟨e1, e2⟩ | ⟨e1, k1, k2, k3, k4⟩
    · have hfin : zBf n T B (i + 1) qd qf ld := ⟨hz.1, hz.2.1, hz.2.2.1, fun a ha e he hTe => by
        by_cases k : a = i
        · rw [k, hqi] at hTe
          rcases Nat.lt_or_ge e b with w | w
          · exact absurd hTe (e2 e w)
          · exact hpr e w he hTe
        · exact hz.2.2.2.1 a (by omega) e he hTe, hz.2.2.2.2⟩
      rw [e1]
      refine x_iload (pc := 140) dX5_markLeading_140 rfl ?_
      refine x_iconst (pc := 142) dX5_markLeading_142 ?_
      refine x_aloadn (pc := 143) dX5_markLeading_143 rfl ?_
      refine x_getI (pc := 144) dX5_markLeading_144 fl_X5_57 k_173 (hM 173 (by decide) (by decide)) ?_
      rw [ht'.1]
      refine x_imul (pc := 147) dX5_markLeading_147 ?_
      refine x_cge (tgt := 209) (pc := 148) dX5_markLeading_148 (by decide) (by omega) (fun c_148 => ?_) (fun c_148 => ?_)
      · skip
        exact cont qd qf ld G _ _ _ hiq hfin hl hqu hQ hF hG
      · skip
        refine x_iloadn (pc := 151) dX5_markLeading_151 rfl ?_
        refine x_ilt (tgt := 209) (pc := 152) dX5_markLeading_152 (by decide) (by omega) (fun c_152 => ?_) (fun c_152 => ?_)
        rotate_left
        · skip
          exact absurd c_152 (by decide)
        exact cont qd qf ld G _ _ _ hiq hfin hl hqu hQ hF hG
    · rw [k1]
      have he4 : ((e1 : Nat) : Int) / 4 = ((e1 / 4 : Nat) : Int) := by omega
      have hx : e1 / 4 < n := by omega
      obtain ⟨x, hxe⟩ : ∃ x, x = e1 / 4 := ⟨_, rfl⟩
      rw [← hxe] at he4 hx
      obtain ⟨l1, l2⟩ := hl x hx
      have hlx : zLe n T B x := hly.bk hx (show e1 % 4 < 4 by omega) (by rw [hxe, Nat.div_add_mod]; exact k3)
      have ho : G 191 e1 = zli T y e1 := by rw [hQ _ (by decide)]; exact hoi e1 (by omega) k3
      have hpr2 : ∀ ld' : Nat → Nat, (∀ k, ld k = 1 → ld' k = 1) → ld' x = 1 → ∀ e, e1 ≤ e → e < 4 * n → T e = ((y : Nat) : Int) → ld' (e / 4) = 1 := fun ld' w1 w2 e h1 h2 h3 => by
        by_cases k : e = e1
        · rw [k, ← hxe]; exact w2
        · rcases Nat.lt_or_ge e b with w | w
          · exact absurd h3 (k4 e (by omega) w)
          · exact w1 _ (hpr e w h2 h3)
      by_cases cl : ld x = 1
      · skip
        refine x_iload (pc := 140) dX5_markLeading_140 rfl ?_
        refine x_iconst (pc := 142) dX5_markLeading_142 ?_
        refine x_aloadn (pc := 143) dX5_markLeading_143 rfl ?_
        refine x_getI (pc := 144) dX5_markLeading_144 fl_X5_57 k_173 (hM 173 (by decide) (by decide)) ?_
        rw [ht'.1]
        refine x_imul (pc := 147) dX5_markLeading_147 ?_
        refine x_cge (tgt := 209) (pc := 148) dX5_markLeading_148 (by decide) (by omega) (fun c_148 => ?_) (fun c_148 => ?_)
        · skip
          exact absurd c_148 (by omega)
        refine x_iloadn (pc := 151) dX5_markLeading_151 rfl ?_
        refine x_ilt (tgt := 209) (pc := 152) dX5_markLeading_152 (by decide) (by omega) (fun c_152 => ?_) (fun c_152 => ?_)
        · skip
          exact absurd c_152 (by omega)
        refine x_iloadn (pc := 155) dX5_markLeading_155 rfl ?_
        refine x_iconst (pc := 156) dX5_markLeading_156 ?_
        refine x_idiv (pc := 157) dX5_markLeading_157 (by omega) ?_
        rw [he4]
        refine x_istore (pc := 158) dX5_markLeading_158 (by decide) rfl ?_
        refine x_aloadn (pc := 160) dX5_markLeading_160 rfl ?_
        refine x_getR (192) (pc := 161) dX5_markLeading_161 fl_X5_48 k_173 (hM 173 (by decide) (by decide)) (f_173_10 hG) ?_
        refine x_iload (pc := 164) dX5_markLeading_164 rfl ?_
        refine x_zald (x) (pc := 166) dX5_markLeading_166 k_192 (hM 192 (by decide) (by decide)) (⟨by omega, by omega, by decide⟩) ?_
        rw [l1]
        refine x_ine (tgt := 196) (pc := 167) dX5_markLeading_167 (by decide) (by omega) (fun c_167 => ?_) (fun c_167 => ?_)
        rotate_left
        · skip
          exact absurd (show ((ld x : Nat) : Int) = 0 from c_167) (by omega)
        refine x_aloadn (pc := 196) dX5_markLeading_196 rfl ?_
        refine x_getR (191) (pc := 197) dX5_markLeading_197 fl_X5_45 k_173 (hM 173 (by decide) (by decide)) (f_173_9 hG) ?_
        refine x_iloadn (pc := 200) dX5_markLeading_200 rfl ?_
        refine x_iald (e1) (pc := 201) dX5_markLeading_201 k_191 (hM 191 (by decide) (by decide)) (⟨by omega, by omega, by decide⟩) ?_
        rw [ho]
        refine x_istoren (pc := 202) dX5_markLeading_202 rfl (by decide) rfl ?_
        refine x_iinc (pc := 203) dX5_markLeading_203 rfl (by decide) rfl ?_
        refine x_goto (tgt := 140) (pc := 206) dX5_markLeading_206 (by decide) ?_
        exact ih e1 (c + 1) qd qf ld G _ (by omega) (by omega) hiq hqi (hpr2 ld (fun _ w => w) cl) hz hl hqu hQ hF hG
      · have c0 : ld x = 0 := by omega
        have hqd : qd < n := by rw [← hz.1]; exact zhn_lt c0 n hx
        have hz2 := hz.mark (by omega) hx c0 hlx
        have hl2 : cLg n (zup ld x 1) (x_up (x_up G 192 x 1) 194 qd ((x : Nat) : Int)) := fun k hk => by
          rw [x_up_ne (by decide)]
          by_cases w : k = x
          · rw [w, x_up_s, zups]; exact ⟨rfl, Nat.le_refl _⟩
          · rw [x_up_k w, zupk w]; exact hl k hk
        have hqu2 : ∀ a, a < qd + 1 → x_up (x_up G 192 x 1) 194 qd ((x : Nat) : Int) 194 a = ((zup qf qd x a : Nat) : Int) := fun a ha => by
          by_cases w : a = qd
          · rw [w, x_up_s, zups]
          · rw [x_up_k w, x_up_ne (by decide), zupk w]; exact hqu a (by omega)
        refine x_iload (pc := 140) dX5_markLeading_140 rfl ?_
        refine x_iconst (pc := 142) dX5_markLeading_142 ?_
        refine x_aloadn (pc := 143) dX5_markLeading_143 rfl ?_
        refine x_getI (pc := 144) dX5_markLeading_144 fl_X5_57 k_173 (hM 173 (by decide) (by decide)) ?_
        rw [ht'.1]
        refine x_imul (pc := 147) dX5_markLeading_147 ?_
        refine x_cge (tgt := 209) (pc := 148) dX5_markLeading_148 (by decide) (by omega) (fun c_148 => ?_) (fun c_148 => ?_)
        · skip
          exact absurd c_148 (by omega)
        refine x_iloadn (pc := 151) dX5_markLeading_151 rfl ?_
        refine x_ilt (tgt := 209) (pc := 152) dX5_markLeading_152 (by decide) (by omega) (fun c_152 => ?_) (fun c_152 => ?_)
        · skip
          exact absurd c_152 (by omega)
        refine x_iloadn (pc := 155) dX5_markLeading_155 rfl ?_
        refine x_iconst (pc := 156) dX5_markLeading_156 ?_
        refine x_idiv (pc := 157) dX5_markLeading_157 (by omega) ?_
        rw [he4]
        refine x_istore (pc := 158) dX5_markLeading_158 (by decide) rfl ?_
        refine x_aloadn (pc := 160) dX5_markLeading_160 rfl ?_
        refine x_getR (192) (pc := 161) dX5_markLeading_161 fl_X5_48 k_173 (hM 173 (by decide) (by decide)) (f_173_10 hG) ?_
        refine x_iload (pc := 164) dX5_markLeading_164 rfl ?_
        refine x_zald (x) (pc := 166) dX5_markLeading_166 k_192 (hM 192 (by decide) (by decide)) (⟨by omega, by omega, by decide⟩) ?_
        rw [l1]
        refine x_ine (tgt := 196) (pc := 167) dX5_markLeading_167 (by decide) (by omega) (fun c_167 => ?_) (fun c_167 => ?_)
        · skip
          exact absurd (by omega) c_167
        refine x_iloadn (pc := 170) dX5_markLeading_170 rfl ?_
        refine x_sipush (pc := 171) dX5_markLeading_171 (by decide) ?_
        refine x_cge (tgt := 196) (pc := 174) dX5_markLeading_174 (by decide) (by omega) (fun c_174 => ?_) (fun c_174 => ?_)
        · skip
          exact absurd c_174 (by omega)
        refine x_aloadn (pc := 177) dX5_markLeading_177 rfl ?_
        refine x_getR (192) (pc := 178) dX5_markLeading_178 fl_X5_48 k_173 (hM 173 (by decide) (by decide)) (f_173_10 hG) ?_
        refine x_iload (pc := 181) dX5_markLeading_181 rfl ?_
        refine x_iconst (pc := 183) dX5_markLeading_183 ?_
        refine x_zastH _ (pc := 184) dX5_markLeading_184 k_192 (hM 192 (by decide) (by decide)) (⟨rfl, by omega, by decide⟩) (by omega) hF hG (fun hF hG => ?_)
        refine x_aloadn (pc := 185) dX5_markLeading_185 rfl ?_
        refine x_getR (194) (pc := 186) dX5_markLeading_186 fl_X5_54 k_173 (hM 173 (by decide) (by decide)) (f_173_12 hG) ?_
        refine x_iloadn (pc := 189) dX5_markLeading_189 rfl ?_
        refine x_iload (pc := 190) dX5_markLeading_190 rfl ?_
        refine x_iastH (qd) (pc := 192) dX5_markLeading_192 k_194 (hM 194 (by decide) (by decide)) (⟨by omega, by omega, by decide⟩) hF hG (fun hF hG => ?_)
        refine x_iinc (pc := 193) dX5_markLeading_193 rfl (by decide) rfl ?_
        refine x_aloadn (pc := 196) dX5_markLeading_196 rfl ?_
        refine x_getR (191) (pc := 197) dX5_markLeading_197 fl_X5_45 k_173 (hM 173 (by decide) (by decide)) (f_173_9 hG) ?_
        refine x_iloadn (pc := 200) dX5_markLeading_200 rfl ?_
        refine x_iald (e1) (pc := 201) dX5_markLeading_201 k_191 (hM 191 (by decide) (by decide)) (⟨by omega, by omega, by decide⟩) ?_
        rw [x_up_ne (by decide), x_up_ne (by decide), ho]
        refine x_istoren (pc := 202) dX5_markLeading_202 rfl (by decide) rfl ?_
        refine x_iinc (pc := 203) dX5_markLeading_203 rfl (by decide) rfl ?_
        refine x_goto (tgt := 140) (pc := 206) dX5_markLeading_206 (by decide) ?_
        exact ih e1 (c + 1) (qd + 1) (zup qf qd x) (zup ld x 1) _ _ (by omega) (by omega) (by omega) (by rw [zupk (by omega)]; exact hqi) (hpr2 (zup ld x 1) (fun k w => zup1 w) zups) hz2 hl2 hqu2 ((hQ.up (by decide)).up (by decide)) hF hG
theorem l_gr_mlO {G0 : Nat → Nat → Int} (hL : x_SL L) (hM : x_GM L) (ht : cTg n T G0) (hT : ∀ e, e < 4 * n → T e = -1 ∨ (0 ≤ T e ∧ T e < n)) (hla : ∀ q, q < n → G0 190 q = zli T q (4 * n)) (hoi : ∀ e, e < 4 * n → ∀ q : Nat, T e = ((q : Nat) : Int) → G0 191 e = zli T q e) :
    ∀ (r i qd : Nat) (qf ld : Nat → Nat) (G : Nat → Nat → Int) (o3 o4 o5 : Option (Nat × Int)), i + r = n → i ≤ qd → zBf n T B i qd qf ld → cLg n ld G → (∀ a, a < qd → G 194 a = ((qf a : Nat) : Int)) → FR [192, 194] G0 G → x_Fin xFL G → x_Fin xGL G →
    X mX5_markLeading 1 0 0 (pMlm L G0 n T B) 113 [some (vR 173), some (vI qd), some (vI i), o3, o4, o5] [] L G 0 0 := by
  have hn := ht.2.1
  intro r
  induction r with
  | zero =>
    intro i qd qf ld G o3 o4 o5 hi hiq hz hl hqu hQ hF hG
    have hq := zhn_le (t := ld) n
    have hqn : i = qd := by have := hz.1; omega
    subst hqn
    have key : ∀ t x, zPa n T B t x → ld x = 1 := by
      intro t
      induction t with
      | zero => intro x hx; exact hz.2.2.2.2.2 x hx.1 hx.2
      | succ t iht =>
        intro x ⟨hx, j, y, hj, hTy, hp⟩
        obtain ⟨a, a1, a2⟩ := hz.2.2.1 y (zPa_lt hp) (iht y hp)
        have := hz.2.2.2.1 a a1 (4 * x + j) (by omega) (by rw [a2]; exact hTy)
        rw [show (4 * x + j) / 4 = x by omega] at this
        exact this
    refine x_iloadn (pc := 113) dX5_markLeading_113 rfl ?_
    refine x_sipush (pc := 114) dX5_markLeading_114 (by decide) ?_
    refine x_cge (tgt := 215) (pc := 117) dX5_markLeading_117 (by decide) (by omega) (fun c_117 => ?_) (fun c_117 => ?_)
    · skip
      refine x_rV (pc := 215) dX5_markLeading_215 rfl ?_
      exact ⟨⟨ld, hl, fun k hk => ⟨fun w => by obtain ⟨a, a1, a2⟩ := hz.2.2.1 k hk w; rw [← a2]; exact (hz.2.1 a a1).2.2, fun ⟨t, w⟩ => key t k w⟩⟩, hQ.mono (by decide), hF, hG⟩
    · skip
      refine x_iloadn (pc := 120) dX5_markLeading_120 rfl ?_
      refine x_iloadn (pc := 121) dX5_markLeading_121 rfl ?_
      refine x_cge (tgt := 215) (pc := 122) dX5_markLeading_122 (by decide) (by omega) (fun c_122 => ?_) (fun c_122 => ?_)
      rotate_left
      · skip
        exact absurd c_122 (by omega)
      refine x_rV (pc := 215) dX5_markLeading_215 rfl ?_
      exact ⟨⟨ld, hl, fun k hk => ⟨fun w => by obtain ⟨a, a1, a2⟩ := hz.2.2.1 k hk w; rw [← a2]; exact (hz.2.1 a a1).2.2, fun ⟨t, w⟩ => key t k w⟩⟩, hQ.mono (by decide), hF, hG⟩
  | succ r ih =>
    intro i qd qf ld G o3 o4 o5 hi hiq hz hl hqu hQ hF hG
    by_cases c : i = qd
    · subst c
      have key : ∀ t x, zPa n T B t x → ld x = 1 := by
        intro t
        induction t with
        | zero => intro x hx; exact hz.2.2.2.2.2 x hx.1 hx.2
        | succ t iht =>
          intro x ⟨hx, j, y, hj, hTy, hp⟩
          obtain ⟨a, a1, a2⟩ := hz.2.2.1 y (zPa_lt hp) (iht y hp)
          have := hz.2.2.2.1 a a1 (4 * x + j) (by omega) (by rw [a2]; exact hTy)
          rw [show (4 * x + j) / 4 = x by omega] at this
          exact this
      refine x_iloadn (pc := 113) dX5_markLeading_113 rfl ?_
      refine x_sipush (pc := 114) dX5_markLeading_114 (by decide) ?_
      refine x_cge (tgt := 215) (pc := 117) dX5_markLeading_117 (by decide) (by omega) (fun c_117 => ?_) (fun c_117 => ?_)
      · skip
        refine x_rV (pc := 215) dX5_markLeading_215 rfl ?_
        exact ⟨⟨ld, hl, fun k hk => ⟨fun w => by obtain ⟨a, a1, a2⟩ := hz.2.2.1 k hk w; rw [← a2]; exact (hz.2.1 a a1).2.2, fun ⟨t, w⟩ => key t k w⟩⟩, hQ.mono (by decide), hF, hG⟩
      · skip
        refine x_iloadn (pc := 120) dX5_markLeading_120 rfl ?_
        refine x_iloadn (pc := 121) dX5_markLeading_121 rfl ?_
        refine x_cge (tgt := 215) (pc := 122) dX5_markLeading_122 (by decide) (by omega) (fun c_122 => ?_) (fun c_122 => ?_)
        rotate_left
        · skip
          exact absurd c_122 (by omega)
        refine x_rV (pc := 215) dX5_markLeading_215 rfl ?_
        exact ⟨⟨ld, hl, fun k hk => ⟨fun w => by obtain ⟨a, a1, a2⟩ := hz.2.2.1 k hk w; rw [← a2]; exact (hz.2.1 a a1).2.2, fun ⟨t, w⟩ => key t k w⟩⟩, hQ.mono (by decide), hF, hG⟩
    · have hq := zhn_le (t := ld) n
      have hqn : qd ≤ n := by have := hz.1; omega
      obtain ⟨y1, y2, y3⟩ := hz.2.1 i (by omega)
      have hqy := hqu i (by omega)
      obtain ⟨y, hy⟩ : ∃ y, y = qf i := ⟨_, rfl⟩
      rw [← hy] at y1 y3 hqy
      have hly : G 190 y = zli T y (4 * n) := by rw [hQ _ (by decide)]; exact hla y y1
      have ht' := ht.FR hQ (by decide) (by decide)
      refine x_iloadn (pc := 113) dX5_markLeading_113 rfl ?_
      refine x_sipush (pc := 114) dX5_markLeading_114 (by decide) ?_
      refine x_cge (tgt := 215) (pc := 117) dX5_markLeading_117 (by decide) (by omega) (fun c_117 => ?_) (fun c_117 => ?_)
      · skip
        exact absurd c_117 (by omega)
      refine x_iloadn (pc := 120) dX5_markLeading_120 rfl ?_
      refine x_iloadn (pc := 121) dX5_markLeading_121 rfl ?_
      refine x_cge (tgt := 215) (pc := 122) dX5_markLeading_122 (by decide) (by omega) (fun c_122 => ?_) (fun c_122 => ?_)
      · skip
        exact absurd c_122 (by omega)
      refine x_aloadn (pc := 125) dX5_markLeading_125 rfl ?_
      refine x_getR (190) (pc := 126) dX5_markLeading_126 fl_X5_42 k_173 (hM 173 (by decide) (by decide)) (f_173_8 hG) ?_
      refine x_aloadn (pc := 129) dX5_markLeading_129 rfl ?_
      refine x_getR (194) (pc := 130) dX5_markLeading_130 fl_X5_54 k_173 (hM 173 (by decide) (by decide)) (f_173_12 hG) ?_
      refine x_iloadn (pc := 133) dX5_markLeading_133 rfl ?_
      refine x_iald (i) (pc := 134) dX5_markLeading_134 k_194 (hM 194 (by decide) (by decide)) (⟨by omega, by omega, by decide⟩) ?_
      rw [hqy]
      refine x_iald (y) (pc := 135) dX5_markLeading_135 k_190 (hM 190 (by decide) (by decide)) (⟨by omega, by omega, by decide⟩) ?_
      rw [hly]
      refine x_istoren (pc := 136) dX5_markLeading_136 rfl (by decide) rfl ?_
      refine x_iconst (pc := 137) dX5_markLeading_137 ?_
      refine x_istore (pc := 138) dX5_markLeading_138 (by decide) rfl ?_
      refine l_gr_mlI (G0 := G) hL hM ht' hT y1 y3 (fun e he hTe => by rw [hQ _ (by decide)]; exact hoi e he y hTe) (fun qd2 qf2 ld2 G2 o3 o4 o5 b1 b2 b3 b4 b5 b6 b7 => ?_) (4 * n) (4 * n) 0 qd qf ld G _ (Nat.le_refl _) (by omega) (by omega) hy.symm (fun e h1 h2 => by omega) hz hl hqu FR.rf hF hG
      refine x_iinc (pc := 209) dX5_markLeading_209 rfl (by decide) rfl ?_
      refine x_goto (tgt := 113) (pc := 212) dX5_markLeading_212 (by decide) ?_
      exact ih (i + 1) qd2 qf2 ld2 G2 _ _ _ (by omega) (by omega) b2 b3 b4 (hQ.tr b5) b6 b7
theorem l_gr_ml32 {G0 : Nat → Nat → Int} (hL : x_SL L) (hM : x_GM L) (ht : cTg n T G0) (hT : ∀ e, e < 4 * n → T e = -1 ∨ (0 ≤ T e ∧ T e < n)) (hdn : G0 173 14 = ((D : Nat) : Int)) (hD : D < n) (hBD : B D) (hB : ∀ x, x < n → B x → x = D) :
    ∀ (r e : Nat) (G : Nat → Nat → Int) (o2 o3 o4 o5 : Option (Nat × Int)), e + r = 4 * n → (∀ q, q < n → G 190 q = zli T q e) → (∀ e', e' < e → ∀ q : Nat, T e' = ((q : Nat) : Int) → G 191 e' = zli T q e') → (∀ k, k < n → G 192 k = 0) → FR z_mlS G0 G → x_Fin xFL G → x_Fin xGL G →
    X mX5_markLeading 1 0 0 (pMlm L G0 n T B) 32 [some (vR 173), some (vI e), o2, o3, o4, o5] [] L G 0 0 := by
  have hn := ht.2.1
  intro r
  induction r with
  | zero =>
    intro e G o2 o3 o4 o5 he hla hoi hld hQ hF hG
    have he : e = 4 * n := by omega
    subst he
    have ht' := ht.FR hQ (by decide) (by decide)
    have hdn' : G 173 14 = ((D : Nat) : Int) := by rw [hQ _ (by decide)]; exact hdn
    have hz0 : zBf n T B 0 1 (fun _ => D) (zup (fun _ => 0) D 1) := by
      refine ⟨?_, fun a ha => ⟨hD, zups, ⟨0, hD, hBD⟩⟩, fun k hk hk1 => ⟨0, by decide, ?_⟩, fun a ha => absurd ha (Nat.not_lt_zero a), fun k => ?_, fun x hx hb => by rw [hB x hx hb]; exact zups⟩
      · rw [zhn_up (t := fun _ => 0) (t' := zup (fun _ => 0) D 1) (j := D) rfl (by rw [zups]; decide) (fun k hk => zupk hk) n hD, zhn_0]
      · by_cases c : k = D
        · exact c.symm
        · rw [zupk c] at hk1; exact absurd hk1 (by decide)
      · by_cases c : k = D
        · rw [c, zups]; exact Nat.le_refl _
        · rw [zupk c]; exact Nat.zero_le _
    have q2 : FR [192, 194] G (x_up (x_up G 192 D 1) 194 0 ((D : Nat) : Int)) := (FR.rf.up (by decide)).up (by decide)
    refine x_iloadn (pc := 32) dX5_markLeading_32 rfl ?_
    refine x_iconst (pc := 33) dX5_markLeading_33 ?_
    refine x_aloadn (pc := 34) dX5_markLeading_34 rfl ?_
    refine x_getI (pc := 35) dX5_markLeading_35 fl_X5_57 k_173 (hM 173 (by decide) (by decide)) ?_
    rw [ht'.1]
    refine x_imul (pc := 38) dX5_markLeading_38 ?_
    refine x_cge (tgt := 81) (pc := 39) dX5_markLeading_39 (by decide) (by omega) (fun c_39 => ?_) (fun c_39 => ?_)
    rotate_left
    · skip
      exact absurd c_39 (by omega)
    refine x_aloadn (pc := 81) dX5_markLeading_81 rfl ?_
    refine x_getI (pc := 82) dX5_markLeading_82 fl_X5_61 k_173 (hM 173 (by decide) (by decide)) ?_
    rw [hdn']
    refine x_ige (tgt := 89) (pc := 85) dX5_markLeading_85 (by decide) (by omega) (fun c_85 => ?_) (fun c_85 => ?_)
    rotate_left
    · skip
      exact absurd c_85 (by omega)
    refine x_aloadn (pc := 89) dX5_markLeading_89 rfl ?_
    refine x_getR (192) (pc := 90) dX5_markLeading_90 fl_X5_48 k_173 (hM 173 (by decide) (by decide)) (f_173_10 hG) ?_
    refine x_aloadn (pc := 93) dX5_markLeading_93 rfl ?_
    refine x_getI (pc := 94) dX5_markLeading_94 fl_X5_61 k_173 (hM 173 (by decide) (by decide)) ?_
    rw [hdn']
    refine x_iconst (pc := 97) dX5_markLeading_97 ?_
    refine x_zastH (D) (pc := 98) dX5_markLeading_98 k_192 (hM 192 (by decide) (by decide)) (⟨by omega, by omega, by decide⟩) (by omega) hF hG (fun hF hG => ?_)
    refine x_aloadn (pc := 99) dX5_markLeading_99 rfl ?_
    refine x_getR (194) (pc := 100) dX5_markLeading_100 fl_X5_54 k_173 (hM 173 (by decide) (by decide)) (f_173_12 hG) ?_
    refine x_iconst (pc := 103) dX5_markLeading_103 ?_
    refine x_aloadn (pc := 104) dX5_markLeading_104 rfl ?_
    refine x_getI (pc := 105) dX5_markLeading_105 fl_X5_61 k_173 (hM 173 (by decide) (by decide)) ?_
    rw [x_up_ne (by decide), hdn']
    refine x_iastH 0 (pc := 108) dX5_markLeading_108 k_194 (hM 194 (by decide) (by decide)) (by decide) hF hG (fun hF hG => ?_)
    refine x_iconst (pc := 109) dX5_markLeading_109 ?_
    refine x_istoren (pc := 110) dX5_markLeading_110 rfl (by decide) rfl ?_
    refine x_iconst (pc := 111) dX5_markLeading_111 ?_
    refine x_istoren (pc := 112) dX5_markLeading_112 rfl (by decide) rfl ?_
    refine X.imp (fun v L' G' h => ?_) (l_gr_mlO hL hM (ht'.FR q2 (by decide) (by decide)) hT (fun q hq => by rw [q2 _ (by decide)]; exact hla q hq) (fun e he q hTe => by rw [q2 _ (by decide)]; exact hoi e he q hTe) n 0 1 (fun _ => D) (zup (fun _ => 0) D 1) _ _ _ _ (Nat.zero_add _) (by decide) hz0 (fun k hk => ?_) (fun a ha => ?_) FR.rf hF hG)
    · obtain ⟨h1, h2, h3, h4, h5⟩ := h
      exact ⟨h1, h2, h3, (hQ.tr (q2.mono (by decide))).tr h4, h5⟩
    · rw [x_up_ne (by decide)]
      by_cases w : k = D
      · rw [w, x_up_s, zups]; exact ⟨rfl, Nat.le_refl _⟩
      · rw [x_up_k w, zupk w, hld k hk]; exact ⟨rfl, Nat.zero_le _⟩
    · rw [show a = 0 by omega, x_up_s]
  | succ r ih =>
    intro e G o2 o3 o4 o5 he hla hoi hld hQ hF hG
    have ht' := ht.FR hQ (by decide) (by decide)
    have hTe := ht'.2.2 e (by omega)
    rcases hT e (by omega) with t1 | ⟨t1, t2⟩
    · have hla2 : ∀ q, q < n → G 190 q = zli T q (e + 1) := fun q hq => by rw [zli, if_neg (by omega)]; exact hla q hq
      have hoi2 : ∀ e', e' < e + 1 → ∀ q : Nat, T e' = ((q : Nat) : Int) → G 191 e' = zli T q e' := fun e' h' q hq => by
        by_cases c : e' = e
        · rw [c] at hq; omega
        · exact hoi e' (by omega) q hq
      rw [t1] at hTe
      refine x_iloadn (pc := 32) dX5_markLeading_32 rfl ?_
      refine x_iconst (pc := 33) dX5_markLeading_33 ?_
      refine x_aloadn (pc := 34) dX5_markLeading_34 rfl ?_
      refine x_getI (pc := 35) dX5_markLeading_35 fl_X5_57 k_173 (hM 173 (by decide) (by decide)) ?_
      rw [ht'.1]
      refine x_imul (pc := 38) dX5_markLeading_38 ?_
      refine x_cge (tgt := 81) (pc := 39) dX5_markLeading_39 (by decide) (by omega) (fun c_39 => ?_) (fun c_39 => ?_)
      · skip
        exact absurd c_39 (by omega)
      refine x_aloadn (pc := 42) dX5_markLeading_42 rfl ?_
      refine x_getR (187) (pc := 43) dX5_markLeading_43 fl_X5_32 k_173 (hM 173 (by decide) (by decide)) (f_173_5 hG) ?_
      refine x_iloadn (pc := 46) dX5_markLeading_46 rfl ?_
      refine x_iald (e) (pc := 47) dX5_markLeading_47 k_187 (hM 187 (by decide) (by decide)) (⟨by omega, by omega, by decide⟩) ?_
      rw [hTe]
      refine x_istoren (pc := 48) dX5_markLeading_48 rfl (by decide) rfl ?_
      refine x_iloadn (pc := 49) dX5_markLeading_49 rfl ?_
      refine x_ige (tgt := 56) (pc := 50) dX5_markLeading_50 (by decide) (by omega) (fun c_50 => ?_) (fun c_50 => ?_)
      · skip
        exact absurd c_50 (by decide)
      refine x_goto (tgt := 75) (pc := 53) dX5_markLeading_53 (by decide) ?_
      refine x_iinc (pc := 75) dX5_markLeading_75 rfl (by decide) rfl ?_
      refine x_goto (tgt := 32) (pc := 78) dX5_markLeading_78 (by decide) ?_
      exact ih (e + 1) G _ _ _ _ (by omega) hla2 hoi2 hld hQ hF hG
    · obtain ⟨y, hy⟩ : ∃ y : Nat, T e = ((y : Nat) : Int) := ⟨(T e).toNat, by omega⟩
      rw [hy] at hTe t2
      have hly := hla y (by omega)
      have hla2 : ∀ q, q < n → x_up (x_up G 191 e (zli T y e)) 190 y ((e : Nat) : Int) 190 q = zli T q (e + 1) := fun q hq => by
        rw [zli]
        by_cases c : q = y
        · rw [c, if_pos hy, x_up_s]
        · rw [if_neg (by omega), x_up_k c, x_up_ne (by decide)]; exact hla q hq
      have hoi2 : ∀ e', e' < e + 1 → ∀ q : Nat, T e' = ((q : Nat) : Int) → x_up (x_up G 191 e (zli T y e)) 190 y ((e : Nat) : Int) 191 e' = zli T q e' := fun e' h' q hq => by
        rw [x_up_ne (by decide)]
        by_cases c : e' = e
        · rw [c] at hq ⊢
          rw [x_up_s, show q = y by omega]
        · rw [x_up_k c]; exact hoi e' (by omega) q hq
      refine x_iloadn (pc := 32) dX5_markLeading_32 rfl ?_
      refine x_iconst (pc := 33) dX5_markLeading_33 ?_
      refine x_aloadn (pc := 34) dX5_markLeading_34 rfl ?_
      refine x_getI (pc := 35) dX5_markLeading_35 fl_X5_57 k_173 (hM 173 (by decide) (by decide)) ?_
      rw [ht'.1]
      refine x_imul (pc := 38) dX5_markLeading_38 ?_
      refine x_cge (tgt := 81) (pc := 39) dX5_markLeading_39 (by decide) (by omega) (fun c_39 => ?_) (fun c_39 => ?_)
      · skip
        exact absurd c_39 (by omega)
      refine x_aloadn (pc := 42) dX5_markLeading_42 rfl ?_
      refine x_getR (187) (pc := 43) dX5_markLeading_43 fl_X5_32 k_173 (hM 173 (by decide) (by decide)) (f_173_5 hG) ?_
      refine x_iloadn (pc := 46) dX5_markLeading_46 rfl ?_
      refine x_iald (e) (pc := 47) dX5_markLeading_47 k_187 (hM 187 (by decide) (by decide)) (⟨by omega, by omega, by decide⟩) ?_
      rw [hTe]
      refine x_istoren (pc := 48) dX5_markLeading_48 rfl (by decide) rfl ?_
      refine x_iloadn (pc := 49) dX5_markLeading_49 rfl ?_
      refine x_ige (tgt := 56) (pc := 50) dX5_markLeading_50 (by decide) (by omega) (fun c_50 => ?_) (fun c_50 => ?_)
      rotate_left
      · skip
        exact absurd c_50 (by omega)
      refine x_aloadn (pc := 56) dX5_markLeading_56 rfl ?_
      refine x_getR (191) (pc := 57) dX5_markLeading_57 fl_X5_45 k_173 (hM 173 (by decide) (by decide)) (f_173_9 hG) ?_
      refine x_iloadn (pc := 60) dX5_markLeading_60 rfl ?_
      refine x_aloadn (pc := 61) dX5_markLeading_61 rfl ?_
      refine x_getR (190) (pc := 62) dX5_markLeading_62 fl_X5_42 k_173 (hM 173 (by decide) (by decide)) (f_173_8 hG) ?_
      refine x_iloadn (pc := 65) dX5_markLeading_65 rfl ?_
      refine x_iald (y) (pc := 66) dX5_markLeading_66 k_190 (hM 190 (by decide) (by decide)) (⟨by omega, by omega, by decide⟩) ?_
      rw [hly]
      refine x_iastH (e) (pc := 67) dX5_markLeading_67 k_191 (hM 191 (by decide) (by decide)) (⟨by omega, by omega, by decide⟩) hF hG (fun hF hG => ?_)
      refine x_aloadn (pc := 68) dX5_markLeading_68 rfl ?_
      refine x_getR (190) (pc := 69) dX5_markLeading_69 fl_X5_42 k_173 (hM 173 (by decide) (by decide)) (f_173_8 hG) ?_
      refine x_iloadn (pc := 72) dX5_markLeading_72 rfl ?_
      refine x_iloadn (pc := 73) dX5_markLeading_73 rfl ?_
      refine x_iastH (y) (pc := 74) dX5_markLeading_74 k_190 (hM 190 (by decide) (by decide)) (⟨by omega, by omega, by decide⟩) hF hG (fun hF hG => ?_)
      refine x_iinc (pc := 75) dX5_markLeading_75 rfl (by decide) rfl ?_
      refine x_goto (tgt := 32) (pc := 78) dX5_markLeading_78 (by decide) ?_
      exact ih (e + 1) _ _ _ _ _ (by omega) hla2 hoi2 (fun k hk => by rw [x_up_ne (by decide), x_up_ne (by decide)]; exact hld k hk) ((hQ.up (by decide)).up (by decide)) hF hG
theorem l_gr_ml2 {G0 : Nat → Nat → Int} (hL : x_SL L) (hM : x_GM L) (ht : cTg n T G0) (hT : ∀ e, e < 4 * n → T e = -1 ∨ (0 ≤ T e ∧ T e < n)) (hdn : G0 173 14 = ((D : Nat) : Int)) (hD : D < n) (hBD : B D) (hB : ∀ x, x < n → B x → x = D) :
    ∀ (r k : Nat) (G : Nat → Nat → Int) (o2 o3 o4 o5 : Option (Nat × Int)), k + r = n → (∀ q, q < k → G 190 q = -1 ∧ G 192 q = 0) → FR z_mlS G0 G → x_Fin xFL G → x_Fin xGL G →
    X mX5_markLeading 1 0 0 (pMlm L G0 n T B) 2 [some (vR 173), some (vI k), o2, o3, o4, o5] [] L G 0 0 := by
  have hn := ht.2.1
  intro r
  induction r with
  | zero =>
    intro k G o2 o3 o4 o5 hk hla hQ hF hG
    have ht' := ht.FR hQ (by decide) (by decide)
    refine x_iloadn (pc := 2) dX5_markLeading_2 rfl ?_
    refine x_aloadn (pc := 3) dX5_markLeading_3 rfl ?_
    refine x_getI (pc := 4) dX5_markLeading_4 fl_X5_57 k_173 (hM 173 (by decide) (by decide)) ?_
    rw [ht'.1]
    refine x_cge (tgt := 30) (pc := 7) dX5_markLeading_7 (by decide) (by omega) (fun c_7 => ?_) (fun c_7 => ?_)
    rotate_left
    · skip
      exact absurd c_7 (by omega)
    refine x_iconst (pc := 30) dX5_markLeading_30 ?_
    refine x_istoren (pc := 31) dX5_markLeading_31 rfl (by decide) rfl ?_
    exact l_gr_ml32 hL hM ht hT hdn hD hBD hB (4 * n) 0 G _ _ _ _ (Nat.zero_add _) (fun q hq => (hla q (by omega)).1) (fun e' h' => absurd h' (Nat.not_lt_zero e')) (fun q hq => (hla q (by omega)).2) hQ hF hG
  | succ r ih =>
    intro k G o2 o3 o4 o5 hk hla hQ hF hG
    have ht' := ht.FR hQ (by decide) (by decide)
    refine x_iloadn (pc := 2) dX5_markLeading_2 rfl ?_
    refine x_aloadn (pc := 3) dX5_markLeading_3 rfl ?_
    refine x_getI (pc := 4) dX5_markLeading_4 fl_X5_57 k_173 (hM 173 (by decide) (by decide)) ?_
    rw [ht'.1]
    refine x_cge (tgt := 30) (pc := 7) dX5_markLeading_7 (by decide) (by omega) (fun c_7 => ?_) (fun c_7 => ?_)
    · skip
      exact absurd c_7 (by omega)
    refine x_aloadn (pc := 10) dX5_markLeading_10 rfl ?_
    refine x_getR (190) (pc := 11) dX5_markLeading_11 fl_X5_42 k_173 (hM 173 (by decide) (by decide)) (f_173_8 hG) ?_
    refine x_iloadn (pc := 14) dX5_markLeading_14 rfl ?_
    refine x_iconst (pc := 15) dX5_markLeading_15 ?_
    refine x_iastH (k) (pc := 16) dX5_markLeading_16 k_190 (hM 190 (by decide) (by decide)) (⟨by omega, by omega, by decide⟩) hF hG (fun hF hG => ?_)
    refine x_aloadn (pc := 17) dX5_markLeading_17 rfl ?_
    refine x_getR (192) (pc := 18) dX5_markLeading_18 fl_X5_48 k_173 (hM 173 (by decide) (by decide)) (f_173_10 hG) ?_
    refine x_iloadn (pc := 21) dX5_markLeading_21 rfl ?_
    refine x_iconst (pc := 22) dX5_markLeading_22 ?_
    refine x_zastH (k) (pc := 23) dX5_markLeading_23 k_192 (hM 192 (by decide) (by decide)) (⟨by omega, by omega, by decide⟩) (by omega) hF hG (fun hF hG => ?_)
    refine x_iinc (pc := 24) dX5_markLeading_24 rfl (by decide) rfl ?_
    refine x_goto (tgt := 2) (pc := 27) dX5_markLeading_27 (by decide) ?_
    refine ih (k + 1) _ _ _ _ _ (by omega) (fun q hq => ?_) ((hQ.up (by decide)).up (by decide)) hF hG
    by_cases c : q = k
    · rw [c, x_up_s, x_up_ne (by decide), x_up_s]; exact ⟨rfl, rfl⟩
    · rw [x_up_k c, x_up_ne (by decide), x_up_k c, x_up_ne (by decide)]; exact hla q (by omega)
theorem c_gr_markLeading {G : Nat → Nat → Int} (hL : x_SL L) (hM : x_GM L) (hF : x_Fin xFL G) (hG : x_Fin xGL G) (ht : cTg n T G) (hT : ∀ e, e < 4 * n → T e = -1 ∨ (0 ≤ T e ∧ T e < n)) (hdn : G 173 14 = ((D : Nat) : Int)) (hD : D < n) (hBD : B D) (hB : ∀ x, x < n → B x → x = D) :
    CM yX5_markLeading mX5_markLeading 1 0 0 [vR 173] L G (pMlm L G n T B) := by
  refine Ct.of_X (μ := mX5_markLeading) rfl rfl (by decide) (fun h => by cases h) (Nat.le_of_ble_eq_true rfl) rfl ?_
  refine x_iconst (pc := 0) dX5_markLeading_0 ?_
  refine x_istoren (pc := 1) dX5_markLeading_1 rfl (by decide) rfl ?_
  exact l_gr_ml2 hL hM ht hT hdn hD hBD hB n 0 G _ _ _ _ (Nat.zero_add _) (fun q h => absurd h (Nat.not_lt_zero q)) FR.rf hF hG
end XLD

