/-! both sides' ranks are one -/
section XRQ
variable {m : Nat} {S : Nat → Nat} {I : Nat → Nat → Nat} {z mk T : Nat → Nat}
theorem zbt_p2 : ∀ l, l < 3 → ∀ t, t < 4 → (zbt (2 ^ l) t = 1 ↔ t = l) := by decide
theorem zps_p2 : ∀ l, l < 3 → zps (2 ^ l) l = 0 := by decide
theorem zg_F (hV : zEV m S I) (hl : zLn m S I z) (hz : ∀ u, u < 4 → z u ≤ 8) {p : Nat} (hp : p < zbg z 4) : zg m S I z p ≤ p ∧ zg m S I z (zg m S I z p) = zg m S I z p ∧ zF m S I z (3 + p) = zF m S I z (3 + zg m S I z p) := by
  have h35 := zE35 hV hl hz
  have hN := zbg_4 hz 4 (Nat.le_refl _)
  obtain ⟨D, hDe⟩ : ∃ D, D = zg m S I z p := ⟨_, rfl⟩
  obtain ⟨g1, g2, g3⟩ := zgm_sp (zEr (zE m S I z)) p
  have hDp : D ≤ p := by rw [hDe]; exact g2
  have hgD : zg m S I z D = D := by rw [hDe]; exact (zgm_mn _).idem p
  have q1 : zQ (zE m S I z) (3 + p) (3 + D) := by
    have e := (zQr h35 (show p < 35 by omega) (show D < 35 by omega)).mp (by rw [hDe]; exact g1)
    have e1 : ztf p = 3 + p := by unfold ztf; rw [if_pos (by omega)]
    have e2 : ztf D = 3 + D := by unfold ztf; rw [if_pos (by omega)]
    rw [e1, e2] at e; exact e
  rw [← hDe]
  exact ⟨hDp, hgD, (zgm_mn (zE m S I z)).eqv q1⟩
theorem zg_A (hV : zEV m S I) (hl : zLn m S I z) (hz : ∀ u, u < 4 → z u ≤ 8) {p : Nat} (hp : p < zbg z 4) : zar m S I z mk (zg m S I z p) = zA m S I z mk (3 + p) := by
  have h35 := zE35 hV hl hz
  have hN := zbg_4 hz 4 (Nat.le_refl _)
  obtain ⟨D, hDe⟩ : ∃ D, D = zg m S I z p := ⟨_, rfl⟩
  obtain ⟨g1, g2, g3⟩ := zgm_sp (zEr (zE m S I z)) p
  have hDp : D ≤ p := by rw [hDe]; exact g2
  have q1 : zQ (zE m S I z) (3 + p) (3 + D) := by
    have e := (zQr h35 (show p < 35 by omega) (show D < 35 by omega)).mp (by rw [hDe]; exact g1)
    have e1 : ztf p = 3 + p := by unfold ztf; rw [if_pos (by omega)]
    have e2 : ztf D = 3 + D := by unfold ztf; rw [if_pos (by omega)]
    rw [e1, e2] at e; exact e
  rw [← hDe, zar_p (by omega)]
  exact (zan_eqv q1).symm
theorem zrm_ok (hV : zEV m S I) (hl : zLn m S I z) (hz : ∀ u, u < 4 → z u ≤ 8) (hd : ¬ zDd (zE m S I z) (zba z mk)) (hT : ∀ p, T p ≤ 3) : (∀ p, p < zbg z 4 → zrmo (zg m S I z) (zar m S I z mk) T p) ↔ zoks m S I z mk T (zbg z 4) := by
  have hN := zbg_4 hz 4 (Nat.le_refl _)
  obtain ⟨_, h1, h2⟩ := zW_live hV hl hz hd
  constructor
  · intro h p hp
    obtain ⟨a1, a2, a3⟩ := zg_F hV hl hz hp
    obtain ⟨b1, b2⟩ := h p hp
    obtain ⟨D, hD⟩ : ∃ D, D = zg m S I z p := ⟨_, rfl⟩
    rw [← hD] at a1 a2 a3 b1 b2
    have hTp := hT p
    rcases h1 D (by omega) a2 with q | ⟨q1, q2⟩
    · have q : zF m S I z (3 + D) = 3 + D := q
      rw [q] at a3
      refine ⟨fun w => by omega, fun _ => by rw [a3, show 3 + D - 3 = D by omega]; exact b2, fun w => ?_⟩
      have e : p = D := by omega
      rw [zar_p (by omega), ← e] at b1
      exact b1
    · have q1 : zF m S I z (3 + D) < 3 := q1
      have q2 : zar m S I z mk D = 2 ^ zF m S I z (3 + D) := q2
      rw [← a3] at q1 q2
      rw [q2] at b1
      exact ⟨fun _ => ((zbt_p2 _ q1 _ (by omega)).mp b1).symm, fun w => by omega, fun w => by omega⟩
  · intro h p hp
    obtain ⟨a1, a2, a3⟩ := zg_F hV hl hz hp
    obtain ⟨D, hD⟩ : ∃ D, D = zg m S I z p := ⟨_, rfl⟩
    unfold zrmo
    rw [← hD] at a1 a2 a3 ⊢
    obtain ⟨c1, c2, c3⟩ := h p hp
    obtain ⟨d1, d2, d3⟩ := h D (by omega)
    rcases h1 D (by omega) a2 with q | ⟨q1, q2⟩
    · have q : zF m S I z (3 + D) = 3 + D := q
      have e := c2 (by omega)
      rw [a3, q, show 3 + D - 3 = D by omega] at e
      refine ⟨?_, e⟩
      rw [zar_p (by omega), ← e]
      exact d3 q
    · have q1 : zF m S I z (3 + D) < 3 := q1
      have q2 : zar m S I z mk D = 2 ^ zF m S I z (3 + D) := q2
      have e1 := c1 (by omega)
      have e2 := d1 (by omega)
      refine ⟨?_, by omega⟩
      rw [q2]
      exact (zbt_p2 _ q1 _ (by have := hT p; omega)).mpr (by omega)
theorem zrm_eq (hV : zEV m S I) (hl : zLn m S I z) (hz : ∀ u, u < 4 → z u ≤ 8) (hd : ¬ zDd (zE m S I z) (zba z mk)) (hok : zoks m S I z mk T (zbg z 4)) : ∀ n, n ≤ zbg z 4 → zrm (zg m S I z) (zar m S I z mk) T n = zrk m S I z mk T n
  | 0, _ => rfl
  | n + 1, hn => by
    have hN := zbg_4 hz 4 (Nat.le_refl _)
    obtain ⟨_, h1, h2⟩ := zW_live hV hl hz hd
    obtain ⟨c1, c2, c3⟩ := hok n (by omega)
    have p2 : ∀ l, l < 3 → zpop (2 ^ l) = 1 := by decide
    rw [zrm, zrk, zrm_eq hV hl hz hd hok n (by omega)]
    by_cases c : zF m S I z (3 + n) = 3 + n
    · rw [if_pos c, if_pos (h2 n (by omega) c), zar_p (by omega)]
    · rw [if_neg c]
      by_cases cg : zg m S I z n = n
      · rw [if_pos cg]
        obtain ⟨h3, h4⟩ := (h1 n (by omega) cg).resolve_left c
        have h3 : zF m S I z (3 + n) < 3 := h3
        have h4 : zar m S I z mk n = 2 ^ zF m S I z (3 + n) := h4
        rw [h4, p2 _ h3, ← c1 h3, zps_p2 _ h3, Nat.mul_one, Nat.add_zero]
      · rw [if_neg cg]
theorem zoks_cg {z' T' : Nat → Nat} (hz : ∀ u, u < 4 → z u = z' u) (hz' : z = z') (hT : T = T') (n : Nat) : zoks m S I z mk T n ↔ zoks m S I z' mk T' n := by rw [hz', hT]
end XRQ
/-- the reference's count, each row capped -/
def zTm (W : Nat → Nat) (c : Nat) : Nat := zT (fun c => min (W c) 1000000001) c
theorem zTm_min {W : Nat → Nat} : ∀ c, min (zTm W c) 1000000001 = min (zT W c) 1000000001
  | 0 => rfl
  | c + 1 => by
    have ih := zTm_min (W := W) c
    have e1 : zTm W (c + 1) = zTm W c + min (W c) 1000000001 := rfl
    have e2 : zT W (c + 1) = zT W c + W c := rfl
    omega
theorem zTm_le {W : Nat → Nat} : ∀ c, zTm W c ≤ 1000000001 * c
  | 0 => Nat.le_refl _
  | c + 1 => by
    have ih := zTm_le (W := W) c
    have e1 : zTm W (c + 1) = zTm W c + min (W c) 1000000001 := rfl
    omega
theorem zTm_next {m : Nat} {S : Nat → Nat} {I : Nat → Nat → Nat} {lo hi mk : Nat → Nat} {c c' : Nat} (h : c < c') (hn : ∀ j, c < j → j < c' → ¬ zcv j) : zTm (zWc m S I lo hi mk) c' = zTm (zWc m S I lo hi mk) c + min (zWc m S I lo hi mk c) 1000000001 :=
  (zT_skip (W := fun c => min (zWc m S I lo hi mk c) 1000000001) (a := c + 1) c' (by omega) (fun j a b => by show min (zWc m S I lo hi mk j) 1000000001 = 0; rw [zWc_n (hn j (by omega) b)]; rfl)).1

