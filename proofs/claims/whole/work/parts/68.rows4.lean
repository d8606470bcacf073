/-! rows: an unsigned shift of a small number, a copy of ints; how many bits stand in a byte -/
def x_cpG (G : Nat → Nat → Int) (r0 r1 sp dp n : Nat) : Nat → Nat → Int := fun i j => if i = r1 ∧ dp ≤ j ∧ j < dp + n then G r0 (sp + (j - dp)) else G i j
theorem z_ushr : ∀ a : Nat, a < 256 → ∀ k ∈ [1, 2, 4, 8, 16], ((Int32.ofInt (a : Int)).toUInt32 >>> ((Int32.ofInt ((k : Nat) : Int)).toUInt32 &&& Int32.toUInt32 31)).toInt32 = Int32.ofInt ((a / 2 ^ k : Nat) : Int) := by decide +kernel
section XR8
variable {μ : x_M} {d mc ms : Nat} {Q : x_Q} {pc : Nat} {ls : List (Option (Nat × Int))} {st : List (Nat × Int)} {L : List Nat} {G : Nat → Nat → Int} {k n : Nat}
theorem x_iushrS {x y : Int} {pc : Nat} (a b : Nat) (hx : x = a) (hy : y = b) (ha : a < 256) (hb : b ∈ [1, 2, 4, 8, 16]) (hd : decode (x_cc μ) pc = .ok (.iushr, 1)) (kk : X μ d mc ms Q (pc + 1) ls (vI ((a / 2 ^ b : Nat) : Int) :: st) L G k n) : X μ d mc ms Q pc ls (vI y :: vI x :: st) L G k n := by
  intro p l e s m args below meth c D cy B L0 ρ0 Z H locs lsA ρ C hR hE hS hl ho hv h1 h2
  refine lv_iushr (v := Int32.ofInt ((a / 2 ^ b : Nat) : Int)) C.1 C.2.1 hd (by show (((Int32.ofInt x).toUInt32 >>> ((Int32.ofInt y).toUInt32 &&& Int32.toUInt32 31)).toInt32 = _); rw [hx, hy]; exact z_ushr a ha b hb) ?_
  exact kk p l e s m args below meth c D cy B L0 ρ0 Z H locs lsA ρ C hR hE hS hl (x_okA x_okI (x_okt ho)) hv h1 h2
theorem x_cpy {N0 N1 r0 r1 idx : Nat} (sp dp len : Nat) {pc : Nat} {x y z : Int} (hx : x = sp) (hy : y = dp) (hz : z = len) (hb : (sp + len ≤ N0 ∧ dp + len ≤ N1) ∧ N0 < 2147483648 ∧ N1 < 2147483648) (hd : decode (x_cc μ) pc = .ok (.invokestatic idx, 3)) (hlk : Cond.methodLink (x_own μ) idx ⟨"java/lang/System", "arraycopy", "(Ljava/lang/Object;ILjava/lang/Object;II)V"⟩ ∈ x_tb) (hk0 : xK r0 = (13, N0)) (hk1 : xK r1 = (13, N1)) (hr0 : r0 ∈ L) (hr1 : r1 ∈ L) (hdd : 1 ≤ d) (hw : x_cats st ≤ 8)
    (kk : X μ d mc ms Q (pc + 3) ls st L (x_cpG G r0 r1 sp dp len) k n) : X μ d mc ms Q pc ls (vI z :: vI y :: vR r1 :: vI x :: vR r0 :: st) L G k n := by
  intro p l e s m args below meth c D cy B L0 ρ0 Z H locs lsA ρ C hR hE hS hl ho hv h1 h2
  subst hx; subst hy; subst hz
  obtain ⟨z0, hz0⟩ := x_mem hr0
  obtain ⟨z1, hz1⟩ := x_mem hr1
  have hw0 := x_wl_at (cy := cy) (ρ := ρ) (G := G) hz0
  have hw1 := x_wl_at (cy := cy) (ρ := ρ) (G := G) hz1
  rw [x_ceI hk0] at hw0
  rw [x_ceI hk1] at hw1
  have c0 : (Int32.ofInt (sp : Int)).toNatClampNeg = sp := by rw [z_clamp (by omega) (by omega), Int.toNat_natCast]
  have c1 : (Int32.ofInt (dp : Int)).toNatClampNeg = dp := by rw [z_clamp (by omega) (by omega), Int.toNat_natCast]
  have c2 : (Int32.ofInt (len : Int)).toNatClampNeg = len := by rw [z_clamp (by omega) (by omega), Int.toNat_natCast]
  have hts := C.2.2.2.2.1
  refine x_eqW (s2 := .int (Int32.ofInt (len : Int)) :: .int (Int32.ofInt (dp : Int)) :: .ref (ρ r1) :: .int (Int32.ofInt (sp : Int)) :: .ref (ρ r0) :: st.map (x_rv ρ)) (by rw [List.map_cons, List.map_cons, List.map_cons, List.map_cons, List.map_cons, x_rvR, x_rvR, x_rvI, x_rvI, x_rvI]) ?_
  refine va_copyi C.1 C.2.1 (C.2.2.1.trans hl.1.symm) C.2.2.2.1 (hts _ hlk) (hts _ ln_cpy) (hts _ ls_cpy) (hts _ lt_J10) C.2.2.2.2.2.1.1 hR.1 hR.2.1 hS z0 z1 0 0 hw0 hw1 rfl rfl rfl (z_neg (by omega) (by omega)) (z_neg (by omega) (by omega)) (z_neg (by omega) (by omega)) (by rw [c0, c2]; exact hb.1.1) (by rw [c1, c2]; exact hb.1.2) (fun _ _ => rfl) hdd (by show _ + 16 ≤ 37 * d + 8; rw [x_cats_eq]; omega) hd (fun H1 locs1 hP1 hD1 hS1 => ?_)
  rw [c0, c1, c2] at hP1 hD1
  have hset : (x_wl cy ρ L G).set z1 (ρ r1, .inl (cy 13, N1, .inl (va_cpy (fun j => Int32.ofInt (G r0 j)) (fun j => Int32.ofInt (G r1 j)) sp dp len))) = x_wl cy ρ L (x_cpG G r0 r1 sp dp len) := by
    refine x_wl_set hR.2.2.1 hz1 (fun i hi => ?_) ?_
    · funext j; unfold x_cpG; rw [if_neg (fun q => hi q.1)]
    · rw [x_ceI hk1]
      refine congrArg (fun f => (.inl (cy 13, N1, .inl f) : va_E)) (funext fun q => ?_)
      unfold va_cpy x_cpG
      by_cases hq : dp ≤ q ∧ q < dp + len
      · rw [if_pos ⟨rfl, hq⟩, if_pos hq]
      · rw [if_neg (fun h => hq h.2), if_neg hq]
  rw [hset] at hP1 hD1
  refine kk p l e s m args below meth c D cy B L0 ρ0 Z H1 locs1 lsA ρ C ⟨hP1, hD1, hR.2.2.1, hR.2.2.2.1, fun i hi j hj => ?_, Nat.le_trans C.2.2.2.2.2.2.1 hS1.1⟩ hE hS1 hl (x_okt (x_okt (x_okt (x_okt (x_okt ho))))) hv h1 h2
  unfold x_cpG
  by_cases hc : i = r1 ∧ dp ≤ j ∧ j < dp + len
  · exfalso
    rw [hc.1, hk1] at hj; cases hj
  · rw [if_neg hc]; exact hR.2.2.2.2.1 i hi j hj
end XR8
theorem x_cpG_ne {G : Nat → Nat → Int} {r0 r1 sp dp n i : Nat} (h : i ≠ r1) : x_cpG G r0 r1 sp dp n i = G i := by
  funext j; unfold x_cpG; rw [if_neg (fun q => h q.1)]
theorem x_FinC {G : Nat → Nat → Int} {r0 r1 sp dp n N1 : Nat} (h : x_Fin xFL G) (hk : xK r1 = (13, N1)) : x_Fin xFL (x_cpG G r0 r1 sp dp n) := by
  intro t ht
  unfold x_cpG
  by_cases hc : t.1 = r1 ∧ dp ≤ t.2.1 ∧ t.2.1 < dp + n
  · exfalso
    rcases x_FLk t ht with h2 | h2
    · rw [hc.1, hk] at h2; cases h2
    · rw [hc.1, hk] at h2; exact absurd (show 16 ≤ 13 from h2) (by decide)
  · rw [if_neg hc]; exact h t ht
theorem FR.cp {S : List Nat} {G G1 : Nat → Nat → Int} {r0 r1 sp dp n : Nat} (h : FR S G G1) (hr : r1 ∈ S) : FR S G (x_cpG G1 r0 r1 sp dp n) := fun i hi => (x_cpG_ne (fun q : i = r1 => hi (by rw [q]; exact hr))).trans (h i hi)
def zbt (a i : Nat) : Nat := a / 2 ^ i % 2
def zpop (a : Nat) : Nat := zbt a 0 + zbt a 1 + zbt a 2 + zbt a 3 + zbt a 4 + zbt a 5 + zbt a 6 + zbt a 7
def zb1 (a : Nat) : Nat := a - (a / 2 ^ 1 &&& 1431655765)
def zb2 (a : Nat) : Nat := (zb1 a &&& 858993459) + (zb1 a / 2 ^ 2 &&& 858993459)
def zb3 (a : Nat) : Nat := zb2 a + zb2 a / 2 ^ 4 &&& 252645135
def zb4 (a : Nat) : Nat := zb3 a + zb3 a / 2 ^ 8
def zb5 (a : Nat) : Nat := zb4 a + zb4 a / 2 ^ 16
theorem zb_all : ∀ a : Nat, a < 256 → ((a / 2 ^ 1 &&& 1431655765) ≤ a ∧ zb1 a < 256 ∧ zb2 a < 256 ∧ zb2 a + zb2 a / 2 ^ 4 < 256 ∧ zb3 a < 256 ∧ zb4 a < 256 ∧ zb5 a < 256 ∧ (zb1 a &&& 858993459) < 256 ∧ (zb1 a / 2 ^ 2 &&& 858993459) < 256 ∧ zb5 a % 64 = zpop a ∧ zpop a ≤ 8) := by decide +kernel
theorem c_bitCount {a : Nat} {L : List Nat} {G : Nat → Nat → Int} (ha : a < 256) :
    CM yJ6_bitCount_0f7a4 mJ6_bitCount_0f7a4 0 0 0 [vI a] L G (qI L fun x G' => x = zpop a ∧ G' = G) := by
  obtain ⟨b0, b1, b2, b3, b4, b5, b6, b7, b8, b9, b10⟩ := zb_all a ha
  refine Ct.of_X (μ := mJ6_bitCount_0f7a4) rfl rfl (by decide) (fun h => by cases h) (Nat.le_of_ble_eq_true rfl) rfl ?_
  refine x_iloadn (pc := 0) dJ6_bitCount_0f7a4_0 rfl ?_
  refine x_iloadn (pc := 1) dJ6_bitCount_0f7a4_1 rfl ?_
  refine x_iconst (pc := 2) dJ6_bitCount_0f7a4_2 ?_
  refine x_iushrS (a := a) (b := 1) rfl rfl ha (by decide) (pc := 3) dJ6_bitCount_0f7a4_3 ?_
  refine x_ldcw (pc := 4) dJ6_bitCount_0f7a4_4 co_J6_265 ?_
  refine x_iandN (pc := 7) dJ6_bitCount_0f7a4_7 (a / 2 ^ 1) 1431655765 rfl rfl (by omega) ?_
  refine x_isub (pc := 8) dJ6_bitCount_0f7a4_8 ?_
  rw [show (a : Int) - ((a / 2 ^ 1 &&& 1431655765 : Nat) : Int) = (zb1 a : Nat) by unfold zb1; omega]
  refine x_istoren (pc := 9) dJ6_bitCount_0f7a4_9 rfl (by decide) rfl ?_
  refine x_iloadn (pc := 10) dJ6_bitCount_0f7a4_10 rfl ?_
  refine x_ldcw (pc := 11) dJ6_bitCount_0f7a4_11 co_J6_266 ?_
  refine x_iandN (pc := 14) dJ6_bitCount_0f7a4_14 (zb1 a) 858993459 rfl rfl (by omega) ?_
  refine x_iloadn (pc := 15) dJ6_bitCount_0f7a4_15 rfl ?_
  refine x_iconst (pc := 16) dJ6_bitCount_0f7a4_16 ?_
  refine x_iushrS (a := zb1 a) (b := 2) rfl rfl b1 (by decide) (pc := 17) dJ6_bitCount_0f7a4_17 ?_
  refine x_ldcw (pc := 18) dJ6_bitCount_0f7a4_18 co_J6_266 ?_
  refine x_iandN (pc := 21) dJ6_bitCount_0f7a4_21 (zb1 a / 2 ^ 2) 858993459 rfl rfl (by omega) ?_
  refine x_iadd (pc := 22) dJ6_bitCount_0f7a4_22 ?_
  rw [show ((zb1 a &&& 858993459 : Nat) : Int) + ((zb1 a / 2 ^ 2 &&& 858993459 : Nat) : Int) = (zb2 a : Nat) from rfl]
  refine x_istoren (pc := 23) dJ6_bitCount_0f7a4_23 rfl (by decide) rfl ?_
  refine x_iloadn (pc := 24) dJ6_bitCount_0f7a4_24 rfl ?_
  refine x_iloadn (pc := 25) dJ6_bitCount_0f7a4_25 rfl ?_
  refine x_iconst (pc := 26) dJ6_bitCount_0f7a4_26 ?_
  refine x_iushrS (a := zb2 a) (b := 4) rfl rfl b2 (by decide) (pc := 27) dJ6_bitCount_0f7a4_27 ?_
  refine x_iadd (pc := 28) dJ6_bitCount_0f7a4_28 ?_
  rw [show ((zb2 a : Nat) : Int) + ((zb2 a / 2 ^ 4 : Nat) : Int) = (zb2 a + zb2 a / 2 ^ 4 : Nat) from rfl]
  refine x_ldcw (pc := 29) dJ6_bitCount_0f7a4_29 co_J6_267 ?_
  refine x_iandN (pc := 32) dJ6_bitCount_0f7a4_32 (zb2 a + zb2 a / 2 ^ 4) 252645135 rfl rfl (by omega) ?_
  rw [show ((zb2 a + zb2 a / 2 ^ 4 &&& 252645135 : Nat) : Int) = (zb3 a : Nat) from rfl]
  refine x_istoren (pc := 33) dJ6_bitCount_0f7a4_33 rfl (by decide) rfl ?_
  refine x_iloadn (pc := 34) dJ6_bitCount_0f7a4_34 rfl ?_
  refine x_iloadn (pc := 35) dJ6_bitCount_0f7a4_35 rfl ?_
  refine x_bipush (pc := 36) dJ6_bitCount_0f7a4_36 (by decide) ?_
  refine x_iushrS (a := zb3 a) (b := 8) rfl rfl b4 (by decide) (pc := 38) dJ6_bitCount_0f7a4_38 ?_
  refine x_iadd (pc := 39) dJ6_bitCount_0f7a4_39 ?_
  rw [show ((zb3 a : Nat) : Int) + ((zb3 a / 2 ^ 8 : Nat) : Int) = (zb4 a : Nat) from rfl]
  refine x_istoren (pc := 40) dJ6_bitCount_0f7a4_40 rfl (by decide) rfl ?_
  refine x_iloadn (pc := 41) dJ6_bitCount_0f7a4_41 rfl ?_
  refine x_iloadn (pc := 42) dJ6_bitCount_0f7a4_42 rfl ?_
  refine x_bipush (pc := 43) dJ6_bitCount_0f7a4_43 (by decide) ?_
  refine x_iushrS (a := zb4 a) (b := 16) rfl rfl b5 (by decide) (pc := 45) dJ6_bitCount_0f7a4_45 ?_
  refine x_iadd (pc := 46) dJ6_bitCount_0f7a4_46 ?_
  rw [show ((zb4 a : Nat) : Int) + ((zb4 a / 2 ^ 16 : Nat) : Int) = (zb5 a : Nat) from rfl]
  refine x_istoren (pc := 47) dJ6_bitCount_0f7a4_47 rfl (by decide) rfl ?_
  refine x_iloadn (pc := 48) dJ6_bitCount_0f7a4_48 rfl ?_
  refine x_bipush (pc := 49) dJ6_bitCount_0f7a4_49 (by decide) ?_
  refine x_iandm (pc := 51) dJ6_bitCount_0f7a4_51 6 64 (by decide) (by decide) (by decide) ?_
  refine x_rI (pc := 52) dJ6_bitCount_0f7a4_52 rfl ?_
  exact ⟨by omega, rfl⟩

