/-! ANSWERS: all lengths, in order -/
def zcz (c : Nat) : Nat → Nat := fun u => if u = 0 then c / 81 % 9 else if u = 1 then c / 9 % 9 else if u = 2 then c % 9 else c / 729 - (c / 81 % 9 + c / 9 % 9 + c % 9)
def zcs (c : Nat) : Nat := c / 81 % 9 + c / 9 % 9 + c % 9
def zcv (c : Nat) : Prop := zcs c ≤ c / 729 ∧ c / 729 ≤ zcs c + 8
theorem zcz_v {c : Nat} (h : zcv c) : (∀ u, u < 4 → zcz c u ≤ 8) ∧ zcz c 0 + zcz c 1 + zcz c 2 + zcz c 3 = c / 729 ∧ c = 729 * (c / 729) + 81 * zcz c 0 + 9 * zcz c 1 + zcz c 2 := by
  obtain ⟨h1, h2⟩ := h
  unfold zcs at h1 h2
  have d1 : c / 9 / 9 = c / 81 := Nat.div_div_eq_div_mul c 9 9
  have d2 : c / 81 / 9 = c / 729 := Nat.div_div_eq_div_mul c 81 9
  have e0 : zcz c 0 = c / 81 % 9 := rfl
  have e1 : zcz c 1 = c / 9 % 9 := rfl
  have e2 : zcz c 2 = c % 9 := rfl
  have e3 : zcz c 3 = c / 729 - (c / 81 % 9 + c / 9 % 9 + c % 9) := rfl
  refine ⟨fun u hu => ?_, by rw [e0, e1, e2, e3]; omega, by rw [e0, e1, e2]; omega⟩
  rcases (show u = 0 ∨ u = 1 ∨ u = 2 ∨ u = 3 by omega) with rfl | rfl | rfl | rfl
  · rw [e0]; omega
  · rw [e1]; omega
  · rw [e2]; omega
  · rw [e3]; omega
theorem zcz_mk {t w x y : Nat} (hw : w ≤ 8) (hx : x ≤ 8) (hy : y ≤ 8) : zcz (729 * t + 81 * w + 9 * x + y) 0 = w ∧ zcz (729 * t + 81 * w + 9 * x + y) 1 = x ∧ zcz (729 * t + 81 * w + 9 * x + y) 2 = y ∧ zcz (729 * t + 81 * w + 9 * x + y) 3 = t - (w + x + y) ∧ zcs (729 * t + 81 * w + 9 * x + y) = w + x + y ∧ (729 * t + 81 * w + 9 * x + y) / 729 = t := by
  obtain ⟨c, hc⟩ : ∃ c, c = 729 * t + 81 * w + 9 * x + y := ⟨_, rfl⟩
  rw [← hc]
  have d1 : c / 9 / 9 = c / 81 := Nat.div_div_eq_div_mul c 9 9
  have d2 : c / 81 / 9 = c / 729 := Nat.div_div_eq_div_mul c 81 9
  have k1 : c / 9 = 81 * t + 9 * w + x := by omega
  have k2 : c / 81 = 9 * t + w := by omega
  have k3 : c / 729 = t := by omega
  have m0 : c / 81 % 9 = w := by omega
  have m1 : c / 9 % 9 = x := by omega
  have m2 : c % 9 = y := by omega
  refine ⟨m0, m1, m2, ?_, ?_, k3⟩
  · show c / 729 - (c / 81 % 9 + c / 9 % 9 + c % 9) = t - (w + x + y)
    rw [k3, m0, m1, m2]
  · show c / 81 % 9 + c / 9 % 9 + c % 9 = w + x + y
    rw [m0, m1, m2]
/-- how many of lengths come ahead, how many words -/
def zT (W : Nat → Nat) : Nat → Nat
  | 0 => 0
  | c + 1 => zT W c + W c
def zR (W : Nat → Nat) : Nat → Nat
  | 0 => 0
  | c + 1 => zR W c + (if 0 < W c then 1 else 0)
section XOR
variable {W : Nat → Nat}
theorem zT_mono {a : Nat} : ∀ b, a ≤ b → zT W a ≤ zT W b
  | 0, h => by have : a = 0 := by omega
               subst this; exact Nat.le_refl _
  | b + 1, h => by
    by_cases e : a = b + 1
    · subst e; exact Nat.le_refl _
    · have := zT_mono b (show a ≤ b by omega); rw [zT]; omega
theorem zR_mono {a : Nat} : ∀ b, a ≤ b → zR W a ≤ zR W b
  | 0, h => by have : a = 0 := by omega
               subst this; exact Nat.le_refl _
  | b + 1, h => by
    by_cases e : a = b + 1
    · subst e; exact Nat.le_refl _
    · have := zR_mono b (show a ≤ b by omega); rw [zR]; omega
theorem zT_skip {a : Nat} : ∀ b, a ≤ b → (∀ c, a ≤ c → c < b → W c = 0) → zT W b = zT W a ∧ zR W b = zR W a
  | 0, h, _ => by have : a = 0 := by omega
                  subst this; exact ⟨rfl, rfl⟩
  | b + 1, h, hn => by
    by_cases e : a = b + 1
    · subst e; exact ⟨rfl, rfl⟩
    · have ih := zT_skip b (show a ≤ b by omega) (fun c h1 h2 => hn c h1 (by omega))
      have h0 := hn b (by omega) (by omega)
      rw [zT, zR, h0, ih.1, ih.2]; exact ⟨rfl, rfl⟩
theorem zR_lt {a b : Nat} (h : a < b) (hW : 0 < W a) : zR W a < zR W b := by
  have h1 : zR W (a + 1) = zR W a + 1 := by rw [zR, if_pos hW]
  have := zR_mono (W := W) b (show a + 1 ≤ b by omega)
  omega
theorem zT_lt {a b : Nat} (h : a < b) : zT W a + W a ≤ zT W b := by
  have h1 : zT W (a + 1) = zT W a + W a := rfl
  have := zT_mono (W := W) b (show a + 1 ≤ b by omega)
  omega
/-- the row of a number -/
theorem zR_at {r : Nat} : ∀ b, r < zR W b → ∃ c, c < b ∧ 0 < W c ∧ zR W c = r
  | 0, h => absurd h (Nat.not_lt_zero r)
  | b + 1, h => by
    rw [zR] at h
    by_cases e : 0 < W b
    · rw [if_pos e] at h
      by_cases e2 : r = zR W b
      · exact ⟨b, by omega, e, e2.symm⟩
      · obtain ⟨c, h1, h2, h3⟩ := zR_at b (show r < zR W b by omega)
        exact ⟨c, by omega, h2, h3⟩
    · rw [if_neg e] at h
      obtain ⟨c, h1, h2, h3⟩ := zR_at b (show r < zR W b by omega)
      exact ⟨c, by omega, h2, h3⟩
end XOR
/-! there are 6561 lengths -/
def zvb (c : Nat) : Bool := Nat.ble (zcs c) (c / 729) && Nat.ble (c / 729) (zcs c + 8)
theorem zvb_iff {c : Nat} : zvb c = true ↔ zcv c := by
  unfold zvb zcv
  rw [Bool.and_eq_true, Nat.ble_eq, Nat.ble_eq]
def zvr (lo : Nat) : Nat → Nat
  | 0 => 0
  | n + 1 => zvr lo n + (match zvb (lo + n) with
    | true => 1
    | false => 0)
def zvs : Nat → Nat
  | 0 => 0
  | t + 1 => zvs t + zvr (729 * t) 729
theorem zvs_33 : zvs 33 = 6561 := by decide +kernel
theorem zvr_add (lo : Nat) (a : Nat) : ∀ b, zvr lo (a + b) = zvr lo a + zvr (lo + a) b
  | 0 => rfl
  | b + 1 => by
    show zvr lo (a + b) + (match zvb (lo + (a + b)) with
      | true => 1
      | false => 0) = zvr lo a + (zvr (lo + a) b + (match zvb (lo + a + b) with
      | true => 1
      | false => 0))
    rw [zvr_add lo a b, Nat.add_assoc lo a b, Nat.add_assoc]
theorem zvr_s : ∀ t, zvr 0 (729 * t) = zvs t
  | 0 => rfl
  | t + 1 => by
    rw [zvs, ← zvr_s t, show 729 * (t + 1) = 729 * t + 729 by omega, zvr_add, Nat.zero_add]
theorem zR_vr {W : Nat → Nat} (hW : ∀ c, 0 < W c → zcv c) : ∀ c, zR W c ≤ zvr 0 c
  | 0 => Nat.le_refl _
  | c + 1 => by
    have ih := zR_vr hW c
    have e : zvr 0 (c + 1) = zvr 0 c + (match zvb (0 + c) with
      | true => 1
      | false => 0) := rfl
    rw [zR, e, Nat.zero_add]
    by_cases h : 0 < W c
    · rw [if_pos h, zvb_iff.mpr (hW c h)]
      show zR W c + 1 ≤ zvr 0 c + 1
      omega
    · rw [if_neg h]; omega
theorem zvr_mono {a : Nat} (b : Nat) (h : a ≤ b) : zvr 0 a ≤ zvr 0 b := by
  rw [show b = a + (b - a) by omega, zvr_add]; omega
theorem zR_6561 {W : Nat → Nat} (hW : ∀ c, 0 < W c → zcv c) {c : Nat} (hc : c < 24057) (hv : zcv c) : zR W c < 6561 := by
  have h1 := zR_vr hW c
  have e : zvr 0 (c + 1) = zvr 0 c + (match zvb (0 + c) with
    | true => 1
    | false => 0) := rfl
  rw [Nat.zero_add, zvb_iff.mpr hv] at e
  have h2 := zvr_mono (a := c + 1) (729 * 33) (by omega)
  rw [zvr_s, zvs_33] at h2
  simp only at e
  omega
theorem zR_all {W : Nat → Nat} (hW : ∀ c, 0 < W c → zcv c) {c : Nat} (hc : c ≤ 24057) : zR W c ≤ 6561 := by
  have h1 := zR_vr hW c
  have h2 := zvr_mono (a := c) (729 * 33) (by omega)
  rw [zvr_s, zvs_33] at h2
  omega
/-! the ways of all lengths -/
noncomputable def zWc (m : Nat) (S : Nat → Nat) (I : Nat → Nat → Nat) (lo hi mk : Nat → Nat) (c : Nat) : Nat := @ite Nat (zcv c) (Classical.propDecidable _) (zWy m S I lo hi mk (zcz c)) 0
section XWC
variable {m : Nat} {S : Nat → Nat} {I : Nat → Nat → Nat} {lo hi mk : Nat → Nat}
theorem zWc_v {c : Nat} (h : 0 < zWc m S I lo hi mk c) : zcv c := by
  apply Classical.byContradiction
  intro w
  unfold zWc at h
  rw [if_neg w] at h
  exact absurd h (by decide)
theorem zWc_y {c : Nat} (h : zcv c) : zWc m S I lo hi mk c = zWy m S I lo hi mk (zcz c) := by unfold zWc; rw [if_pos h]
theorem zWy_b {z : Nat → Nat} (h : ¬ zBz lo hi (zub S I (2 * m)) z) : zWy m S I lo hi mk z = 0 := by
  unfold zWy
  rw [if_neg (fun w => h w.1)]
theorem zWy_le {z : Nat → Nat} : zWy m S I lo hi mk z ≤ 3 ^ zbg z 4 := by
  unfold zWy
  by_cases c : zBz lo hi (zub S I (2 * m)) z ∧ zLn m S I z ∧ ¬ zCf (zg m S I z)
  · rw [if_pos c]; exact zpw_le (fun x => zan_lt _ _ _) _
  · rw [if_neg c]; exact Nat.zero_le _
theorem zWc_le (c : Nat) : zWc m S I lo hi mk c ≤ 3 ^ 32 := by
  by_cases h : zcv c
  · rw [zWc_y h]
    have := zbg_4 (zcz_v h).1 4 (Nat.le_refl _)
    exact Nat.le_trans zWy_le (Nat.pow_le_pow_right (by decide) this)
  · unfold zWc; rw [if_neg h]; exact Nat.zero_le _
end XWC

