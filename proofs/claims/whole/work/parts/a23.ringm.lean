/-! the reference: met, fewest, rings -/
def zCP (m : Nat) (S : Nat → Nat) (I : Nat → Nat → Nat) (P : Nat → Int → Prop) (e0 x : Int) : Prop := (¬ (0 ≤ e0 ∧ e0 < m) ∧ x = -2) ∨ ∃ e : Nat, e0 = e ∧ e < m ∧ ((zbad S I e ∧ x = -4) ∨ (¬ zbad S I e ∧ ((1500 < (zN (zsk (zs0 S I e)) 6000).length ∧ x = -6) ∨ ((zN (zsk (zs0 S I e)) 6000).length ≤ 1500 ∧ P e x))))
theorem zCP_fn {m : Nat} {S : Nat → Nat} {I : Nat → Nat → Nat} {P : Nat → Int → Prop} (hP : ∀ e x y, P e x → P e y → x = y) {e0 x y : Int} (hx : zCP m S I P e0 x) (hy : zCP m S I P e0 y) : x = y := by
  rcases hx with ⟨h1, h2⟩ | ⟨e, h1, h2, h3⟩ <;> rcases hy with ⟨k1, k2⟩ | ⟨f, k1, k2, k3⟩
  · omega
  · exact absurd ⟨by omega, by omega⟩ h1
  · exact absurd ⟨by omega, by omega⟩ k1
  · have ef : f = e := by omega
    subst ef
    rcases h3 with ⟨h3, h4⟩ | ⟨h3, h4⟩ <;> rcases k3 with ⟨k3, k4⟩ | ⟨k3, k4⟩
    · omega
    · exact absurd h3 k3
    · exact absurd k3 h3
    · rcases h4 with ⟨h4, h5⟩ | ⟨h4, h5⟩ <;> rcases k4 with ⟨k4, k5⟩ | ⟨k4, k5⟩
      · omega
      · omega
      · omega
      · exact hP f x y h5 k5
def zMtP (S : Nat → Nat) (I : Nat → Nat → Nat) (e : Nat) (x : Int) : Prop := x = (((zN (zsk (zs0 S I e)) 6000).length : Nat) : Int)
def zFwP (S : Nat → Nat) (I : Nat → Nat → Nat) (e : Nat) (x : Int) : Prop := zDi (zN (zsk (zs0 S I e)) 6000).length (ztg (zsk (zs0 S I e))) (zBd0 (zsk (zs0 S I e))) x 0
def zRiP (S : Nat → Nat) (I : Nat → Nat → Nat) (e : Nat) (x : Int) : Prop := (x = -1 ∧ ∀ t, ¬ zPa (zN (zsk (zs0 S I e)) 6000).length (ztg (zsk (zs0 S I e))) (zBd0 (zsk (zs0 S I e))) t 0) ∨ (zLe (zN (zsk (zs0 S I e)) 6000).length (ztg (zsk (zs0 S I e))) (zBd0 (zsk (zs0 S I e))) 0 ∧ zRg (zN (zsk (zs0 S I e)) 6000).length (ztg (zsk (zs0 S I e))) (zBd0 (zsk (zs0 S I e))) (zfe (zsk (zs0 S I e))) (zffs (zs0 S I e)) x)
theorem zRg_fn {n : Nat} {T : Nat → Int} {B : Nat → Prop} {fe : Nat → Int} {ff x y : Int} (hx : zRg n T B fe ff x) (hy : zRg n T B fe ff y) : x = y := by
  rcases hx with ⟨h1, h2⟩ | ⟨h1, h2, h3⟩ | ⟨h1, h2, h3⟩ <;> rcases hy with ⟨k1, k2⟩ | ⟨k1, k2, k3⟩ | ⟨k1, k2, k3⟩
  · omega
  · exact absurd h2 k2
  · exact absurd h2 k2
  · exact absurd k2 h2
  · omega
  · exact absurd k3 h3
  · exact absurd k2 h2
  · exact absurd h3 k3
  · omega
theorem zRiP_fn {S : Nat → Nat} {I : Nat → Nat → Nat} (e : Nat) (x y : Int) (hx : zRiP S I e x) (hy : zRiP S I e y) : x = y := by
  rcases hx with ⟨h1, h2⟩ | ⟨⟨t, h1⟩, h2⟩ <;> rcases hy with ⟨k1, k2⟩ | ⟨⟨t', k1⟩, k2⟩
  · omega
  · exact absurd k1 (h2 t')
  · exact absurd h1 (k2 t)
  · exact zRg_fn h2 k2
abbrev pMm (L : List Nat) (G0 : Nat → Nat → Int) (S' : List Nat) (P : Int → Prop) : x_Q := qI L fun x G' => P x ∧ FM S' z_cF G0 G' ∧ x_Fin xFL G'
section XMT
variable {L : List Nat} {m : Nat} {S : Nat → Nat} {I : Nat → Nat → Nat}
theorem zChP_bd {e0 x : Int} {G' : Nat → Nat → Int} (h : zChP m S I e0 x G') : x = -2 ∨ x = -4 ∨ x = -6 ∨ x = 0 := by
  rcases h with ⟨_, h⟩ | ⟨e, _, _, ⟨_, h⟩ | ⟨_, ⟨h, _⟩ | ⟨h, _⟩⟩⟩ <;> omega
/-- what a refusal says -/
theorem zChP_no {P : Nat → Int → Prop} {e0 x : Int} {G' : Nat → Nat → Int} (h : zChP m S I e0 x G') (hx : x ≠ 0) : zCP m S I P e0 x := by
  rcases h with h | ⟨e, h1, h2, ⟨h3, h4⟩ | ⟨h3, ⟨h4, h5⟩ | ⟨h4, _⟩⟩⟩
  · exact Or.inl h
  · exact Or.inr ⟨e, h1, h2, Or.inl ⟨h3, h4⟩⟩
  · exact Or.inr ⟨e, h1, h2, Or.inr ⟨h3, Or.inl ⟨h5, h4⟩⟩⟩
  · exact absurd h4 hx
theorem zChP_ok {e0 : Int} {x : Int} {G' : Nat → Nat → Int} (h : zChP m S I e0 x G') (hx : x = 0) : ∃ e : Nat, e0 = e ∧ e < m ∧ ¬ zbad S I e ∧ (zN (zsk (zs0 S I e)) 6000).length ≤ 1500 ∧ mGf (zsk (zs0 S I e)) G' ∧ G' 127 34 = zffs (zs0 S I e) := by
  rcases h with ⟨_, h⟩ | ⟨e, h1, h2, ⟨_, h4⟩ | ⟨h3, ⟨h4, _⟩ | ⟨_, h5, h6, h7⟩⟩⟩
  · omega
  · omega
  · omega
  · exact ⟨e, h1, h2, h3, h5, h6, h7⟩
theorem c_mo_met {e0 : Int} {G : Nat → Nat → Int} (hL : x_SL L) (hF : x_Fin xFL G) (hE : mEq m S I G) (he0 : -2147483648 ≤ e0 ∧ e0 < 2147483648) :
    CM yX12_met mX12_met 3 0 0 [vR 127, vI e0] L G (pMm L G z_cS (zCP m S I (zMtP S I) e0)) := by
  refine Ct.of_X (μ := mX12_met) rfl rfl (by decide) (fun h => by cases h) (Nat.le_of_ble_eq_true rfl) rfl ?_
  refine x_aloadn (pc := 0) dX12_met_0 rfl ?_
  refine x_iloadn (pc := 1) dX12_met_1 rfl ?_
  refine x_cVI (pc := 2) dX12_met_2 lk_X12_274 (c_mo_chase hL hF hE he0) k_127 ⟨by decide, rfl⟩ (hL 127 (by decide) (by decide)) (⟨by decide, by decide⟩) (Nat.le_of_ble_eq_true rfl) rfl ?_
  rintro x G2 ⟨hx, hQ, hF⟩
  have hxb := zChP_bd hx
  refine x_istoren (pc := 5) dX12_met_5 rfl (by decide) rfl ?_
  refine x_iloadn (pc := 6) dX12_met_6 rfl ?_
  refine x_ieq (tgt := 14) (pc := 7) dX12_met_7 (by decide) (by omega) (fun c_7 => ?_) (fun c_7 => ?_)
  · skip
    obtain ⟨e, h1, h2, h3, h4, h5, h6⟩ := zChP_ok hx (by omega)
    refine x_aloadn (pc := 14) dX12_met_14 rfl ?_
    refine x_getI (pc := 15) dX12_met_15 fl_X12_234 k_127 (hL 127 (by decide) (by decide)) ?_
    rw [h5.1.1]
    refine x_rI (pc := 18) dX12_met_18 rfl ?_
    first
    | exact ⟨hno, hQ, hF⟩
    | exact ⟨Or.inr ⟨e, h1, h2, Or.inr ⟨h3, Or.inr ⟨h4, rfl⟩⟩⟩, hQ, hF⟩
  · skip
    have hno := zChP_no (P := zMtP S I) hx (by omega)
    refine x_iloadn (pc := 10) dX12_met_10 rfl ?_
    refine x_goto (tgt := 18) (pc := 11) dX12_met_11 (by decide) ?_
    refine x_rI (pc := 18) dX12_met_18 rfl ?_
    first
    | exact ⟨hno, hQ, hF⟩
    | exact ⟨Or.inr ⟨e, h1, h2, Or.inr ⟨h3, Or.inr ⟨h4, rfl⟩⟩⟩, hQ, hF⟩
theorem c_mo_fewest {e0 : Int} {G : Nat → Nat → Int} (hL : x_SL L) (hF : x_Fin xFL G) (hE : mEq m S I G) (he0 : -2147483648 ≤ e0 ∧ e0 < 2147483648) :
    CM yX12_fewest mX12_fewest 3 0 0 [vR 127, vI e0] L G (pMm L G z_cS (zCP m S I (zFwP S I) e0)) := by
  refine Ct.of_X (μ := mX12_fewest) rfl rfl (by decide) (fun h => by cases h) (Nat.le_of_ble_eq_true rfl) rfl ?_
  refine x_aloadn (pc := 0) dX12_fewest_0 rfl ?_
  refine x_iloadn (pc := 1) dX12_fewest_1 rfl ?_
  refine x_cVI (pc := 2) dX12_fewest_2 lk_X12_274 (c_mo_chase hL hF hE he0) k_127 ⟨by decide, rfl⟩ (hL 127 (by decide) (by decide)) (⟨by decide, by decide⟩) (Nat.le_of_ble_eq_true rfl) rfl ?_
  rintro x G2 ⟨hx, hQ, hF⟩
  have hxb := zChP_bd hx
  refine x_istoren (pc := 5) dX12_fewest_5 rfl (by decide) rfl ?_
  refine x_iloadn (pc := 6) dX12_fewest_6 rfl ?_
  refine x_ieq (tgt := 14) (pc := 7) dX12_fewest_7 (by decide) (by omega) (fun c_7 => ?_) (fun c_7 => ?_)
  · skip
    obtain ⟨e, h1, h2, h3, h4, h5, h6⟩ := zChP_ok hx (by omega)
    have h0 := zN_pos (s0 := zsk (zs0 S I e)) 6000
    refine x_aloadn (pc := 14) dX12_fewest_14 rfl ?_
    refine x_getR (153) (pc := 15) dX12_fewest_15 fl_X12_87 k_127 (hL 127 (by decide) (by decide)) (f_127_31 hF) ?_
    refine x_iconst (pc := 18) dX12_fewest_18 ?_
    refine x_iald 0 (pc := 19) dX12_fewest_19 k_153 (hL 153 (by decide) (by decide)) (by decide) ?_
    refine x_rI (pc := 20) dX12_fewest_20 rfl ?_
    first
    | exact ⟨hno, hQ, hF⟩
    | exact ⟨Or.inr ⟨e, h1, h2, Or.inr ⟨h3, Or.inr ⟨h4, (h5.2.2 0 (by omega)).1⟩⟩⟩, hQ, hF⟩
  · skip
    have hno := zChP_no (P := zFwP S I) hx (by omega)
    refine x_iloadn (pc := 10) dX12_fewest_10 rfl ?_
    refine x_goto (tgt := 20) (pc := 11) dX12_fewest_11 (by decide) ?_
    refine x_rI (pc := 20) dX12_fewest_20 rfl ?_
    first
    | exact ⟨hno, hQ, hF⟩
    | exact ⟨Or.inr ⟨e, h1, h2, Or.inr ⟨h3, Or.inr ⟨h4, (h5.2.2 0 (by omega)).1⟩⟩⟩, hQ, hF⟩
end XMT
/-! rings, the other way round -/
def zoe (T : Nat → Int) (ld off : Nat → Nat) (e : Nat) : Nat := if 0 ≤ T e ∧ ld (T e).toNat = 1 ∧ off (T e).toNat = 0 then 1 else 0
def zoc (T : Nat → Int) (ld off : Nat → Nat) (k : Nat) : Nat → Nat
  | 0 => 0
  | j + 1 => zoc T ld off k j + zoe T ld off (4 * k + j)
section XRO
variable {n : Nat} {T : Nat → Int} {B : Nat → Prop} {ld off : Nat → Nat}
theorem zoc_le {k : Nat} : ∀ j, zoc T ld off k j ≤ j
  | 0 => Nat.le_refl _
  | j + 1 => by have := zoc_le (k := k) j; rw [zoc]; unfold zoe; split <;> omega
theorem zoc_0 {k : Nat} : ∀ m, zoc T ld off k m = 0 ↔ ∀ j, j < m → zoe T ld off (4 * k + j) = 0
  | 0 => ⟨fun _ j h => absurd h (Nat.not_lt_zero j), fun _ => rfl⟩
  | m + 1 => by
    rw [zoc]
    constructor
    · intro h j hj
      by_cases c : j = m
      · rw [c]; omega
      · exact (zoc_0 m).mp (by omega) j (by omega)
    · intro h
      rw [(zoc_0 m).mpr (fun j hj => h j (by omega)), h m (by omega)]
theorem zoe_up {x e : Nat} (h0 : off x = 0) (hl : ld x = 1) : zoe T ld off e = zoe T ld (zup off x 1) e + (if T e = ((x : Nat) : Int) then 1 else 0) := by
  unfold zoe
  by_cases c : T e = ((x : Nat) : Int)
  · rw [if_pos c, c, Int.toNat_natCast, zups, if_pos ⟨by omega, hl, h0⟩, if_neg (fun w => absurd w.2.2 (by decide))]
  · rw [if_neg c, Nat.add_zero]
    by_cases d : 0 ≤ T e
    · have hne : (T e).toNat ≠ x := fun w => c (by omega)
      rw [zupk hne]
    · rw [if_neg (fun w => d w.1), if_neg (fun w => d w.1)]
theorem zoe_no {x e : Nat} (hl : ld x ≠ 1) : zoe T ld (zup off x 1) e = zoe T ld off e := by
  unfold zoe
  by_cases d : (T e).toNat = x
  · rw [d, if_neg (fun w => hl w.2.1), if_neg (fun w => hl w.2.1)]
  · rw [zupk d]
/-- those taken off -/
def zTo (n : Nat) (T : Nat → Int) (B : Nat → Prop) (off : Nat → Nat) : Prop := ∃ rk : Nat → Nat, ∀ x j y : Nat, x < n → off x ≠ 0 → j < 4 → T (4 * x + j) = ((y : Nat) : Int) → zLe n T B y → off y ≠ 0 ∧ rk x < rk y
theorem zTo.take {k : Nat} (h : zTo n T B off) (h0 : off k = 0) (hld : ∀ y, y < n → (ld y = 1 ↔ zLe n T B y)) (hz : zoc T ld off k 4 = 0) : zTo n T B (zup off k 1) := by
  obtain ⟨rk, h⟩ := h
  refine ⟨fun x => if x = k then 0 else rk x + 1, fun x j y hx ho hj hT hy => ?_⟩
  by_cases c : x = k
  · subst c
    have e := (zoc_0 4).mp hz j hj
    have hoy : off y ≠ 0 := fun w => by
      unfold zoe at e
      rw [if_pos ⟨by omega, by rw [hT, Int.toNat_natCast]; exact (hld y hy.lt).mpr hy, by rw [hT, Int.toNat_natCast]; exact w⟩] at e
      exact absurd e (by decide)
    have hne : y ≠ x := fun w => hoy (by rw [w]; exact h0)
    rw [zupk hne]
    refine ⟨hoy, ?_⟩
    show (if x = x then 0 else rk x + 1) < (if y = x then 0 else rk y + 1)
    rw [if_pos rfl, if_neg hne]; omega
  · rw [zupk c] at ho
    obtain ⟨h1, h2⟩ := h x j y hx ho hj hT hy
    have hne : y ≠ k := fun w => h1 (by rw [w]; exact h0)
    rw [zupk hne]
    refine ⟨h1, ?_⟩
    show (if x = k then 0 else rk x + 1) < (if y = k then 0 else rk y + 1)
    rw [if_neg c, if_neg hne]; omega
theorem zTo.fin (h : zTo n T B off) (hld : ∀ y, y < n → (ld y = 1 ↔ zLe n T B y)) (hT : ∀ e, e < 4 * n → T e = -1 ∨ (0 ≤ T e ∧ T e < n)) (hall : ∀ k, k < n → off k = 0 → zoc T ld off k 4 ≠ 0) : (zhn off n < n → ¬ zAc n T B) ∧ (n ≤ zhn off n → zAc n T B) := by
  constructor
  · intro hlt hac
    have hex : ∃ y, y < n ∧ off y = 0 := Classical.byContradiction fun w => by
      have e := zhn_full (t := off) n (fun i hi q => w ⟨i, hi, q⟩)
      omega
    obtain ⟨y0, y1, y2⟩ := hex
    have key : ∀ k, k < n → off k = 0 → ∃ j y, j < 4 ∧ T (4 * k + j) = ((y : Nat) : Int) ∧ zLe n T B y ∧ off y = 0 := fun k hk ho => by
      have hz := hall k hk ho
      have hex : ∃ j, j < 4 ∧ zoe T ld off (4 * k + j) ≠ 0 := Classical.byContradiction fun w => hz ((zoc_0 4).mpr (fun j hj => Classical.byContradiction fun q => w ⟨j, hj, q⟩))
      obtain ⟨j, j1, j2⟩ := hex
      unfold zoe at j2
      by_cases c : 0 ≤ T (4 * k + j) ∧ ld (T (4 * k + j)).toNat = 1 ∧ off (T (4 * k + j)).toNat = 0
      · obtain ⟨c1, c2, c3⟩ := c
        refine ⟨j, (T (4 * k + j)).toNat, j1, by omega, ?_, c3⟩
        have hTb := hT (4 * k + j) (by omega)
        exact (hld _ (by omega)).mp c2
      · rw [if_neg c] at j2; exact absurd rfl j2
    refine zAc_out hac (fun y => y < n ∧ off y = 0) (fun y hy => ?_) (fun x hx => ?_) y0 ⟨y1, y2⟩
    · obtain ⟨j, y', j1, j2, j3, _⟩ := key y hy.1 hy.2
      exact j3.bk hy.1 j1 j2
    · obtain ⟨j, y', j1, j2, j3, j4⟩ := key x hx.1 hx.2
      exact ⟨j, y', ⟨j3.lt, j4⟩, j1, j2⟩
  · intro hle
    obtain ⟨rk, h⟩ := h
    refine ⟨rk, fun x j y hx hj hT hy => (h x j y hx ?_ hj hT hy).2⟩
    intro w
    have := zhn_lt w n hx
    omega
end XRO

