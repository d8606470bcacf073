/-! rows: an object made -/
section XRO6
variable {μ : x_M} {d mc ms : Nat} {Q : x_Q} {ls : List (Option (Nat × Int))} {st : List (Nat × Int)} {L : List Nat} {G : Nat → Nat → Int} {k n : Nat}
theorem x_g0F {ci n0 : Nat} (h : ci ≤ 12) (ρ : Nat → Nat) : ∀ (j t : Nat) (ty : FieldType), (xFT ci)[j]? = some t → x_tyOK t ty → x_fv ρ t (x_g0 (ci, n0) j) = defaultValue ty := by
  intro j t ty ht hk
  unfold x_g0 x_isR
  rw [if_pos (show (ci, n0).1 ≤ 12 from h)]
  show x_fv ρ t (if ((xFT ci)[j]? == some 2) = true then -1 else 0) = _
  rw [ht]
  rcases hk with ⟨rfl, rfl⟩ | ⟨rfl, rfl⟩ | ⟨rfl, rfl⟩ | ⟨rfl, ⟨_, rfl⟩ | ⟨_, rfl⟩⟩ <;> rfl
theorem x_newO {q ci idx N : Nat} {C : String} {T : u_T} {ty : Nat → FieldType} {pc : Nat} (hd : decode (x_cc μ) pc = .ok (.new idx, 3)) (hc : vwCl[ci]? = some (C, T, N)) (hin : ∀ w ∈ u_ws C T N, w ∈ x_tb) (hty : ∀ k, k < N → parseFieldDescriptor (T k).2.2.1 = some (ty k)) (hln : Cond.classLink (x_own μ) idx C ∈ x_tb) (hins : Cond.instantiable C N ∈ x_tb) (hini : Cond.initialized C ∈ x_tb) (hci : ci ≤ 12) (hft : ∀ j, j < N → ∃ t, (xFT ci)[j]? = some t ∧ x_tyOK t (ty j)) (hq : q ∉ L ∧ q ≠ 0) (hk : xK q = (ci, 0)) (hcap : k + 1 ≤ mc ∧ n + N ≤ ms) (kk : X μ d mc ms Q (pc + 3) ls (vR q :: st) (L ++ [q]) (x_nwG G q) (k + 1) (n + N)) : X μ d mc ms Q pc ls st L G k n := by
  intro p l e s m args below meth c D cy B L0 ρ0 Z H locs lsA ρ C0 hR hE hS hl ho hv h1 h2
  have hts := C0.2.2.2.2.1
  have hce : x_ce cy ρ (xK q) (x_g0 (xK q)) = .inr (ci, (xFT ci).mapIdx (fun j t => x_fv ρ t (x_g0 (xK q) j))) := x_ceO hk hci
  refine va_new (Ts := x_tb) (fs := (xFT ci).mapIdx (fun j t => x_fv ρ t (x_g0 (xK q) j))) C0.1 C0.2.1 hts hin ty hty C0.2.2.2.1 (hts _ hln) (hts _ hins) (hts _ hini) C0.2.2.2.2.2.1.1 hR.1 hR.2.1 hS (fun q hq => Nat.le_trans C0.2.2.2.2.2.2.1 hq) hc (fun j hj => ?_) hcap.1 hcap.2 hd (fun a H1 hP1 hD1 hS1 => ?_)
  · obtain ⟨t, t1, t2⟩ := hft j hj
    unfold vp_V
    rw [List.getD_eq_getElem?_getD, x_mi_at t1, hk]
    exact (x_g0F hci ρ j t (ty j) t1 t2).symm
  · rw [← hce] at hP1 hD1
    exact x_made C0 hR hE hS1 hl ho hv hq hcap hP1 hD1 kk
end XRO6

