/-! patterns of letters and x that make all samples -/
theorem zPc_pos {P : Nat → Prop} : ∀ b, 0 < zPc P b ↔ ∃ c, c < b ∧ P c
  | 0 => ⟨fun h => absurd (show 0 < 0 from h) (by decide), fun ⟨c, h, _⟩ => absurd h (Nat.not_lt_zero c)⟩
  | b + 1 => by
    have ih := zPc_pos (P := P) b
    rw [zPc]
    constructor
    · intro h
      by_cases e : P b
      · exact ⟨b, by omega, e⟩
      · rw [if_neg e] at h
        obtain ⟨c, h1, h2⟩ := ih.mp h
        exact ⟨c, by omega, h2⟩
    · rintro ⟨c, h1, h2⟩
      by_cases e : c = b
      · subst e; rw [if_pos h2]; omega
      · have := ih.mpr ⟨c, by omega, h2⟩; omega
def zpx (len : Nat) : Nat → Nat := fun u => if u = 1 then len else 0
def zFo (F : Nat → Nat) : Nat → Nat → Nat := fun _ => F
def zFv (n : Nat) (F : Nat → Nat) : Prop := (∀ i, i < n → F i < 3 ∨ F i = 5) ∧ ∃ i, i < n ∧ F i = 5
def zXm (n : Nat) (F : Nat → Nat) (m : Nat) (R : Nat → Nat) (len : Nat) : Prop := 1 ≤ len ∧ yof (zFo F) 0 (zpx len) n = m ∧ zMa (zFo F) 0 (zpx len) R n
theorem zFv.zV {n : Nat} {F : Nat → Nat} (h : zFv n F) : ∀ j, j < n → zV (zFo F 0 j) := fun j hj => by
  rcases h.1 j hj with e | e
  · exact ⟨by show F j ≤ 7; omega, by show F j ≠ 3; omega⟩
  · exact ⟨by show F j ≤ 7; omega, by show F j ≠ 3; omega⟩
theorem zFv.ct0 {n u : Nat} {F : Nat → Nat} (h : zFv n F) (hu : u ≠ 1) (hu4 : u < 4) : zct (zFo F) 0 u n = 0 := by
  rcases Nat.eq_zero_or_pos (zct (zFo F) 0 u n) with e | e
  · exact e
  · obtain ⟨i, h1, h2⟩ := (zct_pos n).mp e
    have h3 : F i = 4 + u := h2
    rcases h.1 i h1 with q | q <;> omega
theorem zFv.ct1 {n : Nat} {F : Nat → Nat} (h : zFv n F) : 0 < zct (zFo F) 0 1 n := by
  obtain ⟨i, h1, h2⟩ := h.2
  exact (zct_pos n).mpr ⟨i, h1, h2⟩
theorem zFv.sum {F : Nat → Nat} : ∀ n, (∀ i, i < n → F i < 3 ∨ F i = 5) → zlc (zFo F) 0 n + zct (zFo F) 0 1 n = n
  | 0, _ => rfl
  | n + 1, h => by
    have ih := zFv.sum n (fun i hi => h i (by omega))
    have e1 : zlc (zFo F) 0 (n + 1) = zlc (zFo F) 0 n + (if F n < 4 then 1 else 0) := rfl
    have e2 : zct (zFo F) 0 1 (n + 1) = zct (zFo F) 0 1 n + (if F n = 4 + 1 then 1 else 0) := rfl
    rw [e1, e2]
    rcases h n (by omega) with q | q
    · rw [if_pos (by omega), if_neg (by omega)]; omega
    · rw [if_neg (by omega), if_pos (by omega)]; omega
theorem zFv.len {n len : Nat} {F : Nat → Nat} (h : zFv n F) : yof (zFo F) 0 (zpx len) n = (n - zct (zFo F) 0 1 n) + len * zct (zFo F) 0 1 n := by
  have e := zof_sum (I := zFo F) (q := 0) (p := zpx len) n h.zV
  have s := zFv.sum n h.1
  rw [e, h.ct0 (u := 0) (by decide) (by decide), h.ct0 (u := 2) (by decide) (by decide), h.ct0 (u := 3) (by decide) (by decide)]
  show zlc (zFo F) 0 n + 0 * 0 + len * zct (zFo F) 0 1 n + 0 * 0 + 0 * 0 = _
  omega
theorem zWays_x {n m : Nat} {F R : Nat → Nat} (h : zFv n F) (hm : m ≤ 30) : 0 < zWays n (zFo F) 0 m R ↔ ∃ len, zXm n F m R len := by
  unfold zWays
  rw [zPc_pos]
  have t0 := h.ct0 (u := 0) (by decide) (by decide)
  have t2 := h.ct0 (u := 2) (by decide) (by decide)
  have t3 := h.ct0 (u := 3) (by decide) (by decide)
  have t1 := h.ct1
  constructor
  · rintro ⟨c, hc, hV, hM⟩
    have g0 := (hV.1 0 (by decide)).1 t0
    have g1 := (hV.1 1 (by decide)).2 t1
    have g2 := (hV.1 2 (by decide)).1 t2
    have g3 := (hV.1 3 (by decide)).1 t3
    have hdg : ∀ u, u < 4 → zdg c u = zpx (zdg c 1) u := fun u hu => by
      rcases (show u = 0 ∨ u = 1 ∨ u = 2 ∨ u = 3 by omega) with rfl | rfl | rfl | rfl
      · exact g0
      · rfl
      · exact g2
      · exact g3
    refine ⟨zdg c 1, g1, ?_, ?_⟩
    · rw [← zof_cg h.zV hdg n (Nat.le_refl _)]; exact hV.2
    · exact (zMa_cg h.zV hdg).mp hM
  · rintro ⟨len, h1, h2, h3⟩
    have hl : len ≤ 30 := by
      have e := h.len (len := len)
      rw [h2] at e
      have := Nat.le_mul_of_pos_right len t1
      omega
    obtain ⟨g0, g1, g2, g3⟩ := zdg_mk (w := 0) (x := len) (y := 0) (z := 0) (by decide) hl (by decide) (by decide)
    have hdg : ∀ u, u < 4 → zdg (29791 * 0 + 961 * len + 31 * 0 + 0) u = zpx len u := fun u hu => by
      rcases (show u = 0 ∨ u = 1 ∨ u = 2 ∨ u = 3 by omega) with rfl | rfl | rfl | rfl
      · exact g0
      · exact g1
      · exact g2
      · exact g3
    refine ⟨29791 * 0 + 961 * len + 31 * 0 + 0, by omega, ⟨fun u hu => ?_, ?_⟩, ?_⟩
    · rw [hdg u hu]
      rcases (show u = 0 ∨ u = 1 ∨ u = 2 ∨ u = 3 by omega) with rfl | rfl | rfl | rfl
      · rw [t0]; exact ⟨fun _ => rfl, fun w => absurd w (by decide)⟩
      · exact ⟨fun w => by omega, fun _ => h1⟩
      · rw [t2]; exact ⟨fun _ => rfl, fun w => absurd w (by decide)⟩
      · rw [t3]; exact ⟨fun _ => rfl, fun w => absurd w (by decide)⟩
    · rw [zof_cg h.zV hdg n (Nat.le_refl _)]; exact h2
    · exact (zMa_cg h.zV hdg).mpr h3
/-! rows alike as far as they go -/
section XCI
variable {n : Nat} {F F' : Nat → Nat} {p R : Nat → Nat}
theorem zof_ci (h : ∀ i, i < n → F i = F' i) : ∀ k, k ≤ n → yof (zFo F) 0 p k = yof (zFo F') 0 p k
  | 0, _ => rfl
  | k + 1, hk => by
    have e : zFo F 0 k = zFo F' 0 k := h k (by omega)
    rw [yof, yof, zof_ci h k (by omega), e]
theorem zst_ci (h : ∀ i, i < n → F i = F' i) : ∀ k, k ≤ n → yst (zFo F) 0 p k = yst (zFo F') 0 p k
  | 0, _ => rfl
  | k + 1, hk => by
    have e : zFo F 0 k = zFo F' 0 k := h k (by omega)
    rw [yst, yst, zst_ci h k (by omega), zof_ci h k (by omega), e]
theorem zMk_ci (h : ∀ i, i < n → F i = F' i) {k : Nat} (hk : k < n) : zMk (zFo F) 0 p R k ↔ zMk (zFo F') 0 p R k := by
  have e : zFo F 0 k = zFo F' 0 k := h k hk
  unfold zMk
  rw [zst_ci h k (by omega), zof_ci h k (by omega), e]
theorem zXm_ci {m len : Nat} (h : ∀ i, i < n → F i = F' i) : zXm n F m R len ↔ zXm n F' m R len := by
  unfold zXm
  rw [zof_ci h n (Nat.le_refl _)]
  have e : zMa (zFo F) 0 (zpx len) R n ↔ zMa (zFo F') 0 (zpx len) R n := ⟨fun w k hk => (zMk_ci h hk).mp (w k hk), fun w k hk => (zMk_ci h hk).mpr (w k hk)⟩
  rw [e]
theorem zFv_ci (h : ∀ i, i < n → F i = F' i) (v : zFv n F) : zFv n F' := by
  refine ⟨fun i hi => by rw [← h i hi]; exact v.1 i hi, ?_⟩
  obtain ⟨i, h1, h2⟩ := v.2
  exact ⟨i, h1, by rw [← h i h1]; exact h2⟩
end XCI
/-- a row that makes all samples -/
def zCd (S : Nat) (sn : Nat → Nat) (sl : Nat → Nat → Nat) (n : Nat) (F : Nat → Nat) : Prop := zFv n F ∧ ∀ s, s < S → ∃ len, zXm n F (sn s) (sl s) len
theorem zCd_ci {S n : Nat} {sn : Nat → Nat} {sl : Nat → Nat → Nat} {F F' : Nat → Nat} (h : ∀ i, i < n → F i = F' i) (c : zCd S sn sl n F) : zCd S sn sl n F' :=
  ⟨zFv_ci h c.1, fun s hs => by obtain ⟨len, q⟩ := c.2 s hs; exact ⟨len, (zXm_ci h).mp q⟩⟩
/-- none ahead of it -/
def zLx (n : Nat) (F F' : Nat → Nat) : Prop := ∀ i, i < n → (∀ j, j < i → F j = F' j) → F i ≤ F' i
def zCmn (S : Nat) (sn : Nat → Nat) (sl : Nat → Nat → Nat) (n : Nat) (F : Nat → Nat) : Prop := 1 ≤ n ∧ n ≤ 8 ∧ zCd S sn sl n F ∧ (∀ F', zCd S sn sl n F' → zLx n F F') ∧ ∀ n' F', n < n' → n' ≤ 8 → ¬ zCd S sn sl n' F'
theorem zCmn.uniq {S : Nat} {sn : Nat → Nat} {sl : Nat → Nat → Nat} {n n' : Nat} {F F' : Nat → Nat} (h : zCmn S sn sl n F) (k : zCmn S sn sl n' F') : n = n' ∧ ∀ i, i < n → F i = F' i := by
  obtain ⟨h1, h2, h3, h4, h5⟩ := h
  obtain ⟨k1, k2, k3, k4, k5⟩ := k
  have e : n = n' := by
    rcases Nat.lt_trichotomy n n' with q | q | q
    · exact absurd k3 (h5 n' F' q k2)
    · exact q
    · exact absurd h3 (k5 n F q h2)
  subst e
  refine ⟨rfl, fun i => ?_⟩
  induction i using Nat.strongRecOn with
  | ind i ih =>
    intro hi
    have a := h4 F' k3 i hi (fun j hj => ih j hj (by omega))
    have b := k4 F h3 i hi (fun j hj => (ih j hj (by omega)).symm)
    omega
/-! marks -/
def zmk (n : Nat) (F : Nat → Nat) (mk : Nat) : Prop := ∀ i, i < n → (zbt mk i = 1 ↔ F i = 5)
def zps (mk : Nat) : Nat → Nat
  | 0 => 0
  | k + 1 => zps mk k + zbt mk k
theorem zbt_01 (a i : Nat) : zbt a i = 0 ∨ zbt a i = 1 := by unfold zbt; omega
theorem zbt_hi {mk n i : Nat} (h : mk < 2 ^ n) (hi : n ≤ i) : zbt mk i = 0 := by
  have h2 : mk < 2 ^ i := Nat.lt_of_lt_of_le h (Nat.pow_le_pow_right (by decide) hi)
  unfold zbt
  rw [Nat.div_eq_of_lt h2]
theorem zps_hi {mk n : Nat} (h : mk < 2 ^ n) : ∀ k, zps mk (n + k) = zps mk n
  | 0 => rfl
  | k + 1 => by
    show zps mk (n + k) + zbt mk (n + k) = _
    rw [zps_hi h k, zbt_hi h (by omega), Nat.add_zero]
theorem zpop_zps (mk : Nat) : zpop mk = zps mk 8 := by
  unfold zpop
  simp only [zps]
  omega
theorem zps_ct {n mk : Nat} {F : Nat → Nat} (h : zmk n F mk) : ∀ k, k ≤ n → zps mk k = zct (zFo F) 0 1 k
  | 0, _ => rfl
  | k + 1, hk => by
    have e : zct (zFo F) 0 1 (k + 1) = zct (zFo F) 0 1 k + (if F k = 4 + 1 then 1 else 0) := rfl
    rw [e, zps, zps_ct h k (by omega)]
    have := h k (by omega)
    rcases zbt_01 mk k with q | q
    · rw [if_neg (fun w => by have := this.mpr w; omega), q]
    · rw [if_pos (this.mp q), q]
theorem zpop_ct {n mk : Nat} {F : Nat → Nat} (h : zmk n F mk) (hn : n ≤ 8) (hm : mk < 2 ^ n) : zpop mk = zct (zFo F) 0 1 n := by
  rw [zpop_zps, show 8 = n + (8 - n) by omega, zps_hi hm, zps_ct h n (Nat.le_refl _)]
theorem zmk_ex (F : Nat → Nat) : ∀ n, ∃ mk, mk < 2 ^ n ∧ zmk n F mk
  | 0 => ⟨0, by decide, fun i hi => absurd hi (Nat.not_lt_zero i)⟩
  | n + 1 => by
    obtain ⟨mk, h1, h2⟩ := zmk_ex F n
    have hp : 2 ^ (n + 1) = 2 * 2 ^ n := by rw [Nat.pow_succ, Nat.mul_comm]
    by_cases c : F n = 5
    · refine ⟨mk + 2 ^ n, by omega, fun i hi => ?_⟩
      by_cases e : i = n
      · subst e
        have : zbt (mk + 2 ^ i) i = 1 := by
          unfold zbt
          rw [Nat.add_div_right _ (Nat.pow_pos (by decide)), Nat.div_eq_of_lt h1]
        exact ⟨fun _ => c, fun _ => this⟩
      · have hi2 : i < n := by omega
        have : zbt (mk + 2 ^ n) i = zbt mk i := by
          unfold zbt
          obtain ⟨k, hk⟩ : ∃ k, n = i + 1 + k := ⟨n - i - 1, by omega⟩
          rw [hk, show (2 : Nat) ^ (i + 1 + k) = 2 ^ i * (2 * 2 ^ k) by rw [Nat.pow_add, Nat.pow_succ, Nat.mul_assoc], Nat.add_mul_div_left _ _ (Nat.pow_pos (by decide)), Nat.add_mul_mod_self_left]
        rw [this]; exact h2 i hi2
    · refine ⟨mk, by omega, fun i hi => ?_⟩
      by_cases e : i = n
      · subst e
        rw [zbt_hi h1 (Nat.le_refl _)]
        exact ⟨fun w => absurd w (by decide), fun w => absurd w c⟩
      · exact h2 i (by omega)
theorem zmk_un {n : Nat} {F : Nat → Nat} {mk mk' : Nat} (h : zmk n F mk) (k : zmk n F mk') : ∀ i, i < n → zbt mk i = zbt mk' i := fun i hi => by
  have a := h i hi
  have b := k i hi
  rcases zbt_01 mk i with q | q <;> rcases zbt_01 mk' i with w | w <;> omega
theorem zbt_eq : ∀ (n a b : Nat), a < 2 ^ n → b < 2 ^ n → (∀ i, i < n → zbt a i = zbt b i) → a = b
  | 0, a, b, ha, hb, _ => by have : a = 0 := by omega
                             have : b = 0 := by omega
                             omega
  | n + 1, a, b, ha, hb, h => by
    have hp : 2 ^ (n + 1) = 2 * 2 ^ n := by rw [Nat.pow_succ, Nat.mul_comm]
    have h0 := h 0 (by omega)
    have e : a / 2 = b / 2 := zbt_eq n (a / 2) (b / 2) (by omega) (by omega) (fun i hi => by
      have := h (i + 1) (by omega)
      unfold zbt at this ⊢
      rw [show (2 : Nat) ^ (i + 1) = 2 * 2 ^ i by rw [Nat.pow_succ, Nat.mul_comm], ← Nat.div_div_eq_div_mul, ← Nat.div_div_eq_div_mul] at this
      exact this)
    unfold zbt at h0
    simp only [Nat.pow_zero, Nat.div_one] at h0
    omega
/-- the places that a row with x so long has -/
def zpl (mk put : Nat) : Nat → Nat
  | 0 => 0
  | i + 1 => zpl mk put i + (if zbt mk i = 1 then put else 1)
theorem zpl_of {n mk put : Nat} {F : Nat → Nat} (h : zmk n F mk) (hv : ∀ i, i < n → F i < 3 ∨ F i = 5) : ∀ k, k ≤ n → yof (zFo F) 0 (zpx put) k = zpl mk put k
  | 0, _ => rfl
  | k + 1, hk => by
    have e : yof (zFo F) 0 (zpx put) (k + 1) = yof (zFo F) 0 (zpx put) k + (if F k < 4 then 1 else zpx put (F k - 4)) := rfl
    rw [e, zpl, zpl_of h hv k (by omega)]
    have a := h k (by omega)
    rcases hv k (by omega) with q | q
    · rw [if_pos (by omega), if_neg (fun w => by have := a.mp w; omega)]
    · rw [if_neg (by omega), if_pos (a.mpr q), q]; rfl
theorem zpl_le {mk put : Nat} {k n : Nat} (h : k ≤ n) : zpl mk put k ≤ zpl mk put n := by
  induction n with
  | zero => have : k = 0 := by omega
            subst this; exact Nat.le_refl _
  | succ n ih =>
    by_cases c : k = n + 1
    · subst c; exact Nat.le_refl _
    · have := ih (by omega); rw [zpl]; omega
def ztr (mk put : Nat) (R : Nat → Nat) (i : Nat) : Nat := if zbt mk i = 1 then 5 else R (zpl mk put i)
theorem ztr_mk {n mk put : Nat} {R : Nat → Nat} (hR : ∀ i, i < n → R (zpl mk put i) < 3) : zmk n (ztr mk put R) mk ∧ ∀ i, i < n → ztr mk put R i < 3 ∨ ztr mk put R i = 5 := by
  have key : ∀ i, i < n → (zbt mk i = 1 ↔ ztr mk put R i = 5) ∧ (ztr mk put R i < 3 ∨ ztr mk put R i = 5) := fun i hi => by
    unfold ztr
    have := hR i hi
    by_cases c : zbt mk i = 1
    · rw [if_pos c]; exact ⟨⟨fun _ => rfl, fun _ => c⟩, Or.inr rfl⟩
    · rw [if_neg c]; exact ⟨⟨fun w => absurd w c, fun w => by omega⟩, Or.inl this⟩
  exact ⟨fun i hi => (key i hi).1, fun i hi => (key i hi).2⟩
theorem ztr_un {n mk put m : Nat} {F R : Nat → Nat} (h : zmk n F mk) (hv : zFv n F) (hx : zXm n F m R put) : ∀ i, i < n → F i = ztr mk put R i := fun i hi => by
  have a := h i hi
  unfold ztr
  rcases hv.1 i hi with q | q
  · rw [if_neg (fun w => by have := a.mp w; omega), ← zpl_of h hv.1 i (by omega)]
    have := hx.2.2 i hi
    unfold zMk at this
    rw [if_pos (show zFo F 0 i < 4 by show F i < 4; omega)] at this
    exact this.symm
  · rw [if_pos (a.mpr q), q]

