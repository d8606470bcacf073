/-! both sides' letters of an answer are one -/
theorem zrt_cg {φ ψ : Nat → Nat} {N r : Nat} (h : ∀ x, x < N → φ x = ψ x) : ∀ k, k ≤ N → zrt φ N r k = zrt ψ N r k
  | 0, _ => rfl
  | k + 1, hk => by rw [zrt, zrt, zrt_cg h k (by omega), h (N - 1 - k) (by omega)]
section XLC
variable {m : Nat} {S : Nat → Nat} {I : Nat → Nat → Nat} {lo hi mk z : Nat → Nat}
theorem zar_p {x : Nat} (h : x < 32) : zar m S I z mk x = zA m S I z mk (3 + x) := by
  have ex : ztf x = 3 + x := by unfold ztf; rw [if_pos h]
  unfold zar zA
  rw [ex]
theorem zlt_cl (hV : zEV m S I) (hl : zLn m S I z) (hz : ∀ u, u < 4 → z u ≤ 8) (hd : ¬ zDd (zE m S I z) (zba z mk)) {p r : Nat} (hp : p < zbg z 4) : zlt (zg m S I z) (zar m S I z mk) (zbg z 4) r (zg m S I z p) = zcl m S I z mk r p := by
  have h35 := zE35 hV hl hz
  have hN := zbg_4 hz 4 (Nat.le_refl _)
  obtain ⟨_, h1, h2⟩ := zW_live hV hl hz hd
  have p2 : ∀ l, l < 3 → zpop (2 ^ l) = 1 := by decide
  have hφ : ∀ x, x < zbg z 4 → zph (zg m S I z) (zar m S I z mk) x = zff m S I z mk x := fun x hx => by
    have ex := zar_p (m := m) (S := S) (I := I) (z := z) (mk := mk) (show x < 32 by omega)
    unfold zph zff
    by_cases c : zF m S I z (3 + x) = 3 + x
    · rw [if_pos c, if_pos (h2 x hx c), ex]
    · rw [if_neg c]
      by_cases cg : zg m S I z x = x
      · rw [if_pos cg]
        obtain ⟨h3, h4⟩ := (h1 x hx cg).resolve_left c
        rw [h4]; exact p2 _ h3
      · rw [if_neg cg]
  obtain ⟨D, hDe⟩ : ∃ D, D = zg m S I z p := ⟨_, rfl⟩
  obtain ⟨g1, g2, g3⟩ := zgm_sp (zEr (zE m S I z)) p
  have hDp : D ≤ p := by rw [hDe]; exact g2
  have hgD : zg m S I z D = D := by rw [hDe]; exact (zgm_mn _).idem p
  have q1 : zQ (zE m S I z) (3 + p) (3 + D) := by
    have e := (zQr h35 (show p < 35 by omega) (show D < 35 by omega)).mp (by rw [hDe]; exact g1)
    have e1 : ztf p = 3 + p := by unfold ztf; rw [if_pos (by omega)]
    have e2 : ztf D = 3 + D := by unfold ztf; rw [if_pos (by omega)]
    rw [e1, e2] at e; exact e
  have hFD : zF m S I z (3 + p) = zF m S I z (3 + D) := (zgm_mn (zE m S I z)).eqv q1
  rw [← hDe]
  unfold zlt zcl
  rw [zrt_cg hφ _ (by omega)]
  by_cases c : zF m S I z (3 + p) < 3
  · rw [if_pos c]
    have cD : zF m S I z (3 + D) < 3 := by omega
    obtain ⟨h3, h4⟩ := (h1 D (by omega) hgD).resolve_left (fun w => by
      have w' : zF m S I z (3 + D) = 3 + D := w
      omega)
    have h4' : zar m S I z mk D = 2 ^ zF m S I z (3 + D) := h4
    rw [h4', p2 _ cD, Nat.mod_one, hFD]
    have hla : ∀ l : Nat, l < 3 → zla (2 ^ l) ((0 : Nat) : Int) = ((l : Nat) : Int) := by decide
    exact hla _ cD
  · rw [if_neg c]
    obtain ⟨f1, f2, f3⟩ := zgm_sp (zE m S I z) (3 + p)
    obtain ⟨q, hq⟩ : ∃ q, q = zF m S I z (3 + p) - 3 := ⟨_, rfl⟩
    have hF3 : zF m S I z (3 + p) = 3 + q := by omega
    have hqp : q ≤ p := by
      have : zF m S I z (3 + p) ≤ 3 + p := f2
      omega
    have hidem : zF m S I z (3 + q) = 3 + q := by rw [← hF3]; exact (zgm_mn (zE m S I z)).idem (3 + p)
    have hgq : zg m S I z q = q := h2 q (by omega) hidem
    have q2 : zQ (zE m S I z) (3 + p) (3 + q) := by rw [← hF3]; exact f1
    have e1 : ztf p = 3 + p := by unfold ztf; rw [if_pos (by omega)]
    have e2 : ztf q = 3 + q := by unfold ztf; rw [if_pos (by omega)]
    have q3 := (zQr h35 (show p < 35 by omega) (show q < 35 by omega)).mpr (by rw [e1, e2]; exact q2)
    have hDq : D = q := by
      have e := (zgm_mn (zEr (zE m S I z))).eqv q3
      have e' : zg m S I z p = zg m S I z q := e
      rw [hDe, e', hgq]
    rw [← hq, hDq, zar_p (by omega)]
    rfl
theorem zWy_live (hV : zEV m S I) (hz : ∀ u, u < 4 → z u ≤ 8) (h : 0 < zWy m S I lo hi mk z) : zLn m S I z ∧ ¬ zDd (zE m S I z) (zba z mk) ∧ ∀ x, x < zbg z 4 → zg m S I z x = x → zar m S I z mk x ≠ 0 := by
  have hc : zBz lo hi (zub S I (2 * m)) z ∧ zLn m S I z ∧ ¬ zCf (zg m S I z) := Classical.byContradiction fun w => by rw [zWy_n w] at h; omega
  refine ⟨hc.2.1, fun w => by rw [zW_dead hV hc.2.1 hz w] at h; omega, fun x hx hg w => ?_⟩
  have e : zWy m S I lo hi mk z = zpw (zg m S I z) (zar m S I z mk) (zbg z 4) := by unfold zWy; rw [if_pos hc]
  rw [e, zpw_z hg w _ hx] at h
  omega
end XLC

