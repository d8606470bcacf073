section XRR8
variable {μ : x_M} {d mc ms : Nat} {Q : x_Q} {ls : List (Option (Nat × Int))} {st : List (Nat × Int)} {L : List Nat} {G : Nat → Nat → Int} {k n : Nat}
theorem x_aastI {N M r v : Nat} (j : Nat) {a : Int} {pc : Nat} (hd : decode (x_cc μ) pc = .ok (.aastore, 1)) (hk : xK r = (18, N)) (hr : r ∈ L) (hkv : xK v = (13, M)) (hvL : v ∈ L) (hj : a = (j : Int) ∧ j < N ∧ N < 2147483648) (kk : X μ d mc ms Q (pc + 1) ls st L (x_up G r j ((v : Nat) : Int)) k n) : X μ d mc ms Q pc ls (vR v :: vI a :: vR r :: st) L G k n := by
  intro p l e s m args below meth c D cy B L0 ρ0 Z H locs lsA ρ C hR hE hS hl ho hv h1 h2
  obtain ⟨z, hz⟩ := x_mem hr
  obtain ⟨zv, hzv⟩ := x_mem hvL
  have hw := x_wl_at (cy := cy) (ρ := ρ) (G := G) hz
  have hwv := x_wl_at (cy := cy) (ρ := ρ) (G := G) hzv
  rw [x_ceR hk (by decide)] at hw
  rw [x_ceI hkv] at hwv
  obtain ⟨hj, hb, hN⟩ := hj
  subst hj
  have hin : vp_in (Int32.ofInt (j : Int)) N := z_vpin (by omega) (by omega) hN
  have hcl : (Int32.ofInt (j : Int)).toNatClampNeg = j := by rw [z_clamp (by omega) (by omega), Int.toNat_natCast]
  have hlt : (Int32.ofInt (j : Int)).toNatClampNeg < N := by rw [hcl]; exact hb
  have h0 : ¬ (Int32.ofInt (j : Int)) < 0 := fun q => hin (Or.inl q)
  obtain ⟨kA, k1, k2, kE, hkE⟩ := x_overI C.2.2.2.2.2.1.1 C.2.2.2.2.2.1.2
  refine x_eqW (s2 := .ref (ρ v) :: .int (Int32.ofInt (j : Int)) :: .ref (ρ r) :: st.map (x_rv ρ)) (by rw [List.map_cons, List.map_cons, List.map_cons, x_rvR, x_rvR, x_rvI]) ?_
  refine W.aast C.1 C.2.1 (hR.1 z _ hw) (fun q h => by cases h) (fun h => by cases h) k1 k2 rfl hkE ⟨h0, by show _ < (arrV _ _ _).slots.size; rw [arrV_size]; exact hlt⟩ (hR.1 zv _ hwv) (fun q h => by cases h) hkE (x_asgR _ _) rfl rfl hd fun H1 e9 z9 oq => ?_
  have hset : (x_wl cy ρ L G).set z (ρ r, .inl (cy 18, N, .inr (.inr (.inr (.inr (va_up (fun j => if G r j < 0 then none else some (ρ (G r j).toNat)) j (some (ρ v)))))))) = x_wl cy ρ L (x_up G r j ((v : Nat) : Int)) := by
    refine x_wl_set hR.2.2.1 hz (fun i hi => x_up_ne hi) ?_
    rw [x_ceR hk (by decide)]
    refine congrArg (fun f => (.inl (cy 18, N, .inr (.inr (.inr (.inr f)))) : va_E)) (funext fun q => ?_)
    by_cases hq : q = j
    · subst hq
      rw [va_up_self, x_up_s, if_neg (by omega), Int.toNat_natCast]
    · rw [va_up_ne _ _ hq, x_up_k hq]
  have hP1 : va_P D vwCl ((x_wl cy ρ L G).set z (ρ r, .inl (cy 18, N, .inr (.inr (.inr (.inr (va_up (fun j => if G r j < 0 then none else some (ρ (G r j).toNat)) j (some (ρ v))))))))) H1 := by
    refine hR.1.set hR.2.1 hw ?_ oq
    show H1[ρ r]? = some (vp_cell _ _)
    rw [e9, vp_cell_q, vp_cell_q, arrV_store, hcl]
    congr 2
    funext q
    by_cases hq : q = j
    · subst hq
      simp [updV, va_up, va_rf]
    · simp [updV, va_up, hq]
  have hD1 := hR.2.1.set hw (e := .inl (cy 18, N, .inr (.inr (.inr (.inr (va_up (fun j => if G r j < 0 then none else some (ρ (G r j).toNat)) j (some (ρ v))))))))
  rw [hset] at hP1
  rw [hset] at hD1
  exact kk p l e s m args below meth c D cy B L0 ρ0 Z H1 _ lsA ρ C (hR.set hP1 hD1 (Nat.le_trans C.2.2.2.2.2.2.1 (by rw [z9]; exact hS.1)) (fun _ => Or.inr (Or.inr (by rw [Int.toNat_natCast]; exact hvL)))) hE (hS.put z9 oq (hR.2.1.2 z _ hw)) hl (x_okt (x_okt (x_okt ho))) hv h1 h2
end XRR8

