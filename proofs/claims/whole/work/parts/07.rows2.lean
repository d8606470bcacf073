/-! ROWS, second: bits, quotients, shifts, branches -/
section XR2
variable {μ : x_M} {d mc ms : Nat} {Q : x_Q} {pc : Nat} {ls : List (Option (Nat × Int))} {st : List (Nat × Int)} {L : List Nat} {G : Nat → Nat → Int} {k n : Nat}
theorem x_idiv {x y : Int}  {pc : Nat} (hd : decode (x_cc μ) pc = .ok (.idiv, 1)) (hb : 0 ≤ x ∧ x < 2147483648 ∧ 0 < y ∧ y < 2147483648) (kk : X μ d mc ms Q (pc + 1) ls (vI (x / y) :: st) L G k n) : X μ d mc ms Q pc ls (vI y :: vI x :: st) L G k n := by
  intro p l e s m args below meth c D cy B L0 ρ0 Z H locs lsA ρ C hR hE hS hl ho hv h1 h2
  refine lv_idiv C.1 C.2.1 hd (z_ne0 hb.2.2.1 hb.2.2.2) ?_
  refine x_eqW (s2 := (vI (x / y) :: st).map (x_rv ρ)) (by rw [List.map_cons, x_rvI]; exact congrArg (fun z => Value.int z :: st.map (x_rv ρ)) (z_div hb.1 hb.2.1 hb.2.2.1 hb.2.2.2)) ?_
  exact kk p l e s m args below meth c D cy B L0 ρ0 Z H locs lsA ρ C hR hE hS hl (x_okA x_okI (x_okt ho)) hv h1 h2
theorem x_irem {x y : Int}  {pc : Nat} (hd : decode (x_cc μ) pc = .ok (.irem, 1)) (hb : 0 ≤ x ∧ x < 2147483648 ∧ 0 < y ∧ y < 2147483648) (kk : X μ d mc ms Q (pc + 1) ls (vI (x % y) :: st) L G k n) : X μ d mc ms Q pc ls (vI y :: vI x :: st) L G k n := by
  intro p l e s m args below meth c D cy B L0 ρ0 Z H locs lsA ρ C hR hE hS hl ho hv h1 h2
  refine lv_irem C.1 C.2.1 hd (z_ne0 hb.2.2.1 hb.2.2.2) ?_
  refine x_eqW (s2 := (vI (x % y) :: st).map (x_rv ρ)) (by rw [List.map_cons, x_rvI]; exact congrArg (fun z => Value.int z :: st.map (x_rv ρ)) (z_rem hb.1 hb.2.1 hb.2.2.1 hb.2.2.2)) ?_
  exact kk p l e s m args below meth c D cy B L0 ρ0 Z H locs lsA ρ C hR hE hS hl (x_okA x_okI (x_okt ho)) hv h1 h2
theorem x_ldiv {x y : Int}  {pc : Nat} (hd : decode (x_cc μ) pc = .ok (.ldiv, 1)) (hb : 0 ≤ x ∧ x < 9223372036854775808 ∧ 0 < y ∧ y < 9223372036854775808) (kk : X μ d mc ms Q (pc + 1) ls (vL (x / y) :: st) L G k n) : X μ d mc ms Q pc ls (vL y :: vL x :: st) L G k n := by
  intro p l e s m args below meth c D cy B L0 ρ0 Z H locs lsA ρ C hR hE hS hl ho hv h1 h2
  refine lv_ldiv C.1 C.2.1 hd (z_ne064 hb.2.2.1 hb.2.2.2) ?_
  refine x_eqW (s2 := (vL (x / y) :: st).map (x_rv ρ)) (by rw [List.map_cons, x_rvL]; exact congrArg (fun z => Value.long z :: st.map (x_rv ρ)) (z_div64 hb.1 hb.2.1 hb.2.2.1 hb.2.2.2)) ?_
  exact kk p l e s m args below meth c D cy B L0 ρ0 Z H locs lsA ρ C hR hE hS hl (x_okA x_okL (x_okt ho)) hv h1 h2
theorem x_lrem {x y : Int}  {pc : Nat} (hd : decode (x_cc μ) pc = .ok (.lrem, 1)) (hb : 0 ≤ x ∧ x < 9223372036854775808 ∧ 0 < y ∧ y < 9223372036854775808) (kk : X μ d mc ms Q (pc + 1) ls (vL (x % y) :: st) L G k n) : X μ d mc ms Q pc ls (vL y :: vL x :: st) L G k n := by
  intro p l e s m args below meth c D cy B L0 ρ0 Z H locs lsA ρ C hR hE hS hl ho hv h1 h2
  refine lv_lrem C.1 C.2.1 hd (z_ne064 hb.2.2.1 hb.2.2.2) ?_
  refine x_eqW (s2 := (vL (x % y) :: st).map (x_rv ρ)) (by rw [List.map_cons, x_rvL]; exact congrArg (fun z => Value.long z :: st.map (x_rv ρ)) (z_rem64 hb.1 hb.2.1 hb.2.2.1 hb.2.2.2)) ?_
  exact kk p l e s m args below meth c D cy B L0 ρ0 Z H locs lsA ρ C hR hE hS hl (x_okA x_okL (x_okt ho)) hv h1 h2
theorem x_iandm {x y : Int}  {pc : Nat} (hd : decode (x_cc μ) pc = .ok (.iand, 1)) (w : Nat) (M : Int) (hy : y = M - 1) (hw : w ≤ 32) (hM : M = 2 ^ w) (kk : X μ d mc ms Q (pc + 1) ls (vI (x % M) :: st) L G k n) : X μ d mc ms Q pc ls (vI y :: vI x :: st) L G k n := by
  intro p l e s m args below meth c D cy B L0 ρ0 Z H locs lsA ρ C hR hE hS hl ho hv h1 h2
  refine lv_iand C.1 C.2.1 hd ?_
  refine x_eqW (s2 := (vI (x % M) :: st).map (x_rv ρ)) (by rw [List.map_cons, x_rvI]; exact congrArg (fun z => Value.int z :: st.map (x_rv ρ)) (by rw [hy]; exact z_mask w hw hM)) ?_
  exact kk p l e s m args below meth c D cy B L0 ρ0 Z H locs lsA ρ C hR hE hS hl (x_okA x_okI (x_okt ho)) hv h1 h2
theorem x_landm {x y : Int}  {pc : Nat} (hd : decode (x_cc μ) pc = .ok (.land, 1)) (w : Nat) (M : Int) (hy : y = M - 1) (hw : w ≤ 64) (hM : M = 2 ^ w) (kk : X μ d mc ms Q (pc + 1) ls (vL (x % M) :: st) L G k n) : X μ d mc ms Q pc ls (vL y :: vL x :: st) L G k n := by
  intro p l e s m args below meth c D cy B L0 ρ0 Z H locs lsA ρ C hR hE hS hl ho hv h1 h2
  refine lv_land C.1 C.2.1 hd ?_
  refine x_eqW (s2 := (vL (x % M) :: st).map (x_rv ρ)) (by rw [List.map_cons, x_rvL]; exact congrArg (fun z => Value.long z :: st.map (x_rv ρ)) (by rw [hy]; exact z_mask64 w hw hM)) ?_
  exact kk p l e s m args below meth c D cy B L0 ρ0 Z H locs lsA ρ C hR hE hS hl (x_okA x_okL (x_okt ho)) hv h1 h2
theorem x_iandN {x y : Int}  {pc : Nat} (hd : decode (x_cc μ) pc = .ok (.iand, 1)) (a b : Nat) (hx : x = (a : Int)) (hy : y = (b : Int)) (hb : a < 2147483648 ∧ b < 2147483648) (kk : X μ d mc ms Q (pc + 1) ls (vI ((a &&& b : Nat) : Int) :: st) L G k n) : X μ d mc ms Q pc ls (vI y :: vI x :: st) L G k n := by
  intro p l e s m args below meth c D cy B L0 ρ0 Z H locs lsA ρ C hR hE hS hl ho hv h1 h2
  refine lv_iand C.1 C.2.1 hd ?_
  refine x_eqW (s2 := (vI ((a &&& b : Nat) : Int) :: st).map (x_rv ρ)) (by rw [List.map_cons, x_rvI]; exact congrArg (fun z => Value.int z :: st.map (x_rv ρ)) (by rw [hx, hy]; exact z_andN hb.1 hb.2)) ?_
  exact kk p l e s m args below meth c D cy B L0 ρ0 Z H locs lsA ρ C hR hE hS hl (x_okA x_okI (x_okt ho)) hv h1 h2
theorem x_iandc {x y : Int}  {pc : Nat} (hd : decode (x_cc μ) pc = .ok (.iand, 1)) (a b : Nat) (hx : x = (a : Int)) (hy : y = -1 - (b : Int)) (hb : a < 2147483648 ∧ b < 2147483648) (kk : X μ d mc ms Q (pc + 1) ls (vI ((a - (a &&& b) : Nat) : Int) :: st) L G k n) : X μ d mc ms Q pc ls (vI y :: vI x :: st) L G k n := by
  intro p l e s m args below meth c D cy B L0 ρ0 Z H locs lsA ρ C hR hE hS hl ho hv h1 h2
  refine lv_iand C.1 C.2.1 hd ?_
  refine x_eqW (s2 := (vI ((a - (a &&& b) : Nat) : Int) :: st).map (x_rv ρ)) (by rw [List.map_cons, x_rvI]; exact congrArg (fun z => Value.int z :: st.map (x_rv ρ)) (by rw [hx, hy]; exact z_andc hb.1 hb.2)) ?_
  exact kk p l e s m args below meth c D cy B L0 ρ0 Z H locs lsA ρ C hR hE hS hl (x_okA x_okI (x_okt ho)) hv h1 h2
theorem x_iorN {x y : Int}  {pc : Nat} (hd : decode (x_cc μ) pc = .ok (.ior, 1)) (a b : Nat) (hx : x = (a : Int)) (hy : y = (b : Int)) (hb : a < 2147483648 ∧ b < 2147483648) (kk : X μ d mc ms Q (pc + 1) ls (vI ((a ||| b : Nat) : Int) :: st) L G k n) : X μ d mc ms Q pc ls (vI y :: vI x :: st) L G k n := by
  intro p l e s m args below meth c D cy B L0 ρ0 Z H locs lsA ρ C hR hE hS hl ho hv h1 h2
  refine lv_ior C.1 C.2.1 hd ?_
  refine x_eqW (s2 := (vI ((a ||| b : Nat) : Int) :: st).map (x_rv ρ)) (by rw [List.map_cons, x_rvI]; exact congrArg (fun z => Value.int z :: st.map (x_rv ρ)) (by rw [hx, hy]; exact z_orN hb.1 hb.2)) ?_
  exact kk p l e s m args below meth c D cy B L0 ρ0 Z H locs lsA ρ C hR hE hS hl (x_okA x_okI (x_okt ho)) hv h1 h2
theorem x_lorN {x y : Int}  {pc : Nat} (hd : decode (x_cc μ) pc = .ok (.lor, 1)) (a b : Nat) (hx : x = (a : Int)) (hy : y = (b : Int)) (hb : a < 9223372036854775808 ∧ b < 9223372036854775808) (kk : X μ d mc ms Q (pc + 1) ls (vL ((a ||| b : Nat) : Int) :: st) L G k n) : X μ d mc ms Q pc ls (vL y :: vL x :: st) L G k n := by
  intro p l e s m args below meth c D cy B L0 ρ0 Z H locs lsA ρ C hR hE hS hl ho hv h1 h2
  refine lv_lor C.1 C.2.1 hd ?_
  refine x_eqW (s2 := (vL ((a ||| b : Nat) : Int) :: st).map (x_rv ρ)) (by rw [List.map_cons, x_rvL]; exact congrArg (fun z => Value.long z :: st.map (x_rv ρ)) (by rw [hx, hy]; exact z_orN64 hb.1 hb.2)) ?_
  exact kk p l e s m args below meth c D cy B L0 ρ0 Z H locs lsA ρ C hR hE hS hl (x_okA x_okL (x_okt ho)) hv h1 h2
theorem x_not {x y : Int}  {pc : Nat} (hd : decode (x_cc μ) pc = .ok (.ixor, 1)) (hy : y = -1) (kk : X μ d mc ms Q (pc + 1) ls (vI (-1 - x) :: st) L G k n) : X μ d mc ms Q pc ls (vI y :: vI x :: st) L G k n := by
  intro p l e s m args below meth c D cy B L0 ρ0 Z H locs lsA ρ C hR hE hS hl ho hv h1 h2
  refine lv_ixor C.1 C.2.1 hd ?_
  refine x_eqW (s2 := (vI (-1 - x) :: st).map (x_rv ρ)) (by rw [List.map_cons, x_rvI]; exact congrArg (fun z => Value.int z :: st.map (x_rv ρ)) (by rw [hy]; exact z_not)) ?_
  exact kk p l e s m args below meth c D cy B L0 ρ0 Z H locs lsA ρ C hR hE hS hl (x_okA x_okI (x_okt ho)) hv h1 h2
theorem x_ishl {x y : Int}  {pc : Nat} (hd : decode (x_cc μ) pc = .ok (.ishl, 1)) (a : Nat) (hy : y = (a : Int)) (ha : a < 32) (kk : X μ d mc ms Q (pc + 1) ls (vI (x * 2 ^ a) :: st) L G k n) : X μ d mc ms Q pc ls (vI y :: vI x :: st) L G k n := by
  intro p l e s m args below meth c D cy B L0 ρ0 Z H locs lsA ρ C hR hE hS hl ho hv h1 h2
  refine lv_ishl C.1 C.2.1 hd ?_
  refine x_eqW (s2 := (vI (x * 2 ^ a) :: st).map (x_rv ρ)) (by rw [List.map_cons, x_rvI]; exact congrArg (fun z => Value.int z :: st.map (x_rv ρ)) (by rw [hy]; exact z_shl ha)) ?_
  exact kk p l e s m args below meth c D cy B L0 ρ0 Z H locs lsA ρ C hR hE hS hl (x_okA x_okI (x_okt ho)) hv h1 h2
theorem x_ishr {x y : Int}  {pc : Nat} (hd : decode (x_cc μ) pc = .ok (.ishr, 1)) (a : Nat) (hy : y = (a : Int)) (ha : a < 32) (hb : -2147483648 ≤ x ∧ x < 2147483648) (kk : X μ d mc ms Q (pc + 1) ls (vI (x / 2 ^ a) :: st) L G k n) : X μ d mc ms Q pc ls (vI y :: vI x :: st) L G k n := by
  intro p l e s m args below meth c D cy B L0 ρ0 Z H locs lsA ρ C hR hE hS hl ho hv h1 h2
  refine lv_ishr C.1 C.2.1 hd ?_
  refine x_eqW (s2 := (vI (x / 2 ^ a) :: st).map (x_rv ρ)) (by rw [List.map_cons, x_rvI]; exact congrArg (fun z => Value.int z :: st.map (x_rv ρ)) (by rw [hy]; exact z_shr ha hb.1 hb.2)) ?_
  exact kk p l e s m args below meth c D cy B L0 ρ0 Z H locs lsA ρ C hR hE hS hl (x_okA x_okI (x_okt ho)) hv h1 h2
theorem x_lshl {x y : Int}  {pc : Nat} (hd : decode (x_cc μ) pc = .ok (.lshl, 1)) (a : Nat) (hy : y = (a : Int)) (ha : a < 64) (kk : X μ d mc ms Q (pc + 1) ls (vL (x * 2 ^ a) :: st) L G k n) : X μ d mc ms Q pc ls (vI y :: vL x :: st) L G k n := by
  intro p l e s m args below meth c D cy B L0 ρ0 Z H locs lsA ρ C hR hE hS hl ho hv h1 h2
  refine lv_lshl (v := Int64.ofInt (x * 2 ^ a)) C.1 C.2.1 hd (by rw [hy]; exact z_shl64 ha) ?_
  refine x_eqW (s2 := (vL (x * 2 ^ a) :: st).map (x_rv ρ)) (by rfl) ?_
  exact kk p l e s m args below meth c D cy B L0 ρ0 Z H locs lsA ρ C hR hE hS hl (x_okA x_okL (x_okt ho)) hv h1 h2
theorem x_lshr {x y : Int}  {pc : Nat} (hd : decode (x_cc μ) pc = .ok (.lshr, 1)) (a : Nat) (hy : y = (a : Int)) (ha : a < 64) (hb : -9223372036854775808 ≤ x ∧ x < 9223372036854775808) (kk : X μ d mc ms Q (pc + 1) ls (vL (x / 2 ^ a) :: st) L G k n) : X μ d mc ms Q pc ls (vI y :: vL x :: st) L G k n := by
  intro p l e s m args below meth c D cy B L0 ρ0 Z H locs lsA ρ C hR hE hS hl ho hv h1 h2
  refine lv_lshr (v := Int64.ofInt (x / 2 ^ a)) C.1 C.2.1 hd (by rw [hy]; exact z_shr64 ha hb.1 hb.2) ?_
  refine x_eqW (s2 := (vL (x / 2 ^ a) :: st).map (x_rv ρ)) (by rfl) ?_
  exact kk p l e s m args below meth c D cy B L0 ρ0 Z H locs lsA ρ C hR hE hS hl (x_okA x_okL (x_okt ho)) hv h1 h2
theorem x_ixorA {x y : Int} {pc : Nat} (hd : decode (x_cc μ) pc = .ok (.ixor, 1)) (kk : ∀ z : Int, X μ d mc ms Q (pc + 1) ls (vI z :: st) L G k n) : X μ d mc ms Q pc ls (vI y :: vI x :: st) L G k n := by
  intro p l e s m args below meth c D cy B L0 ρ0 Z H locs lsA ρ C hR hE hS hl ho hv h1 h2
  refine lv_ixor C.1 C.2.1 hd ?_
  exact x_eqW (s2 := (vI _ :: st).map (x_rv ρ)) (by rw [List.map_cons, x_rvI, Int32.ofInt_toInt]) (kk (Int32.toInt _) p l e s m args below meth c D cy B L0 ρ0 Z H locs lsA ρ C hR hE hS hl (x_okA x_okI (x_okt ho)) hv h1 h2)
theorem x_lxorA {x y : Int} {pc : Nat} (hd : decode (x_cc μ) pc = .ok (.lxor, 1)) (kk : ∀ z : Int, X μ d mc ms Q (pc + 1) ls (vL z :: st) L G k n) : X μ d mc ms Q pc ls (vL y :: vL x :: st) L G k n := by
  intro p l e s m args below meth c D cy B L0 ρ0 Z H locs lsA ρ C hR hE hS hl ho hv h1 h2
  refine lv_lxor C.1 C.2.1 hd ?_
  exact x_eqW (s2 := (vL _ :: st).map (x_rv ρ)) (by rw [List.map_cons, x_rvL, Int64.ofInt_toInt]) (kk (Int64.toInt _) p l e s m args below meth c D cy B L0 ρ0 Z H locs lsA ρ C hR hE hS hl (x_okA x_okL (x_okt ho)) hv h1 h2)
theorem x_iorA {x y : Int} {pc : Nat} (hd : decode (x_cc μ) pc = .ok (.ior, 1)) (kk : ∀ z : Int, X μ d mc ms Q (pc + 1) ls (vI z :: st) L G k n) : X μ d mc ms Q pc ls (vI y :: vI x :: st) L G k n := by
  intro p l e s m args below meth c D cy B L0 ρ0 Z H locs lsA ρ C hR hE hS hl ho hv h1 h2
  refine lv_ior C.1 C.2.1 hd ?_
  exact x_eqW (s2 := (vI _ :: st).map (x_rv ρ)) (by rw [List.map_cons, x_rvI, Int32.ofInt_toInt]) (kk (Int32.toInt _) p l e s m args below meth c D cy B L0 ρ0 Z H locs lsA ρ C hR hE hS hl (x_okA x_okI (x_okt ho)) hv h1 h2)
theorem x_lorA {x y : Int} {pc : Nat} (hd : decode (x_cc μ) pc = .ok (.lor, 1)) (kk : ∀ z : Int, X μ d mc ms Q (pc + 1) ls (vL z :: st) L G k n) : X μ d mc ms Q pc ls (vL y :: vL x :: st) L G k n := by
  intro p l e s m args below meth c D cy B L0 ρ0 Z H locs lsA ρ C hR hE hS hl ho hv h1 h2
  refine lv_lor C.1 C.2.1 hd ?_
  exact x_eqW (s2 := (vL _ :: st).map (x_rv ρ)) (by rw [List.map_cons, x_rvL, Int64.ofInt_toInt]) (kk (Int64.toInt _) p l e s m args below meth c D cy B L0 ρ0 Z H locs lsA ρ C hR hE hS hl (x_okA x_okL (x_okt ho)) hv h1 h2)
theorem x_iandA {x y : Int} {pc : Nat} (hd : decode (x_cc μ) pc = .ok (.iand, 1)) (kk : ∀ z : Int, X μ d mc ms Q (pc + 1) ls (vI z :: st) L G k n) : X μ d mc ms Q pc ls (vI y :: vI x :: st) L G k n := by
  intro p l e s m args below meth c D cy B L0 ρ0 Z H locs lsA ρ C hR hE hS hl ho hv h1 h2
  refine lv_iand C.1 C.2.1 hd ?_
  exact x_eqW (s2 := (vI _ :: st).map (x_rv ρ)) (by rw [List.map_cons, x_rvI, Int32.ofInt_toInt]) (kk (Int32.toInt _) p l e s m args below meth c D cy B L0 ρ0 Z H locs lsA ρ C hR hE hS hl (x_okA x_okI (x_okt ho)) hv h1 h2)
theorem x_lushrA {x y : Int} {pc : Nat} (hd : decode (x_cc μ) pc = .ok (.lushr, 1)) (kk : ∀ z : Int, X μ d mc ms Q (pc + 1) ls (vL z :: st) L G k n) : X μ d mc ms Q pc ls (vI y :: vL x :: st) L G k n := by
  intro p l e s m args below meth c D cy B L0 ρ0 Z H locs lsA ρ C hR hE hS hl ho hv h1 h2
  refine lv_lushr C.1 C.2.1 hd rfl ?_
  exact x_eqW (s2 := (vL _ :: st).map (x_rv ρ)) (by rw [List.map_cons, x_rvL, Int64.ofInt_toInt]) (kk (Int64.toInt _) p l e s m args below meth c D cy B L0 ρ0 Z H locs lsA ρ C hR hE hS hl (x_okA x_okL (x_okt ho)) hv h1 h2)
theorem x_i2l {x : Int}  {pc : Nat} (hd : decode (x_cc μ) pc = .ok (.i2l, 1)) (hb : -2147483648 ≤ x ∧ x < 2147483648) (kk : X μ d mc ms Q (pc + 1) ls (vL x :: st) L G k n) : X μ d mc ms Q pc ls (vI x :: st) L G k n := by
  intro p l e s m args below meth c D cy B L0 ρ0 Z H locs lsA ρ C hR hE hS hl ho hv h1 h2
  refine lv_i2l C.1 C.2.1 hd (Int32.toInt64_ofInt (by show (-2147483648 : Int) ≤ x; exact hb.1) (by show x ≤ (2147483647 : Int); omega)) ?_
  exact kk p l e s m args below meth c D cy B L0 ρ0 Z H locs lsA ρ C hR hE hS hl (x_okA x_okL ho) hv h1 h2
theorem x_l2i {x : Int}  {pc : Nat} (hd : decode (x_cc μ) pc = .ok (.l2i, 1))  (kk : X μ d mc ms Q (pc + 1) ls (vI x :: st) L G k n) : X μ d mc ms Q pc ls (vL x :: st) L G k n := by
  intro p l e s m args below meth c D cy B L0 ρ0 Z H locs lsA ρ C hR hE hS hl ho hv h1 h2
  refine lv_l2i C.1 C.2.1 hd Int64.toInt32_ofInt ?_
  exact kk p l e s m args below meth c D cy B L0 ρ0 Z H locs lsA ρ C hR hE hS hl (x_okA x_okI ho) hv h1 h2
theorem x_cge {x y : Int} {off : Int} {tgt : Nat} {pc : Nat} (hd : decode (x_cc μ) pc = .ok (.if_icmp .ge off, 3)) (ht : (pc : Int) + off = (tgt : Int)) (hb : -2147483648 ≤ x ∧ x < 2147483648 ∧ -2147483648 ≤ y ∧ y < 2147483648) (kt : y ≤ x → X μ d mc ms Q tgt ls st L G k n) (kf : x < y → X μ d mc ms Q (pc + 3) ls st L G k n) : X μ d mc ms Q pc ls (vI y :: vI x :: st) L G k n := by
  intro p l e s m args below meth c D cy B L0 ρ0 Z H locs lsA ρ C hR hE hS hl ho hv h1 h2
  refine lv_icmp_ge C.1 C.2.1 hd ht (fun q => ?_) (fun q => ?_)
  · exact kt ((z_le ⟨hb.2.2.1, hb.2.2.2, hb.1, hb.2.1⟩).mp q) p l e s m args below meth c D cy B L0 ρ0 Z H locs lsA ρ C hR hE hS hl (x_okt (x_okt ho)) hv h1 h2
  · exact kf (Int.not_le.mp (fun w => q ((z_le ⟨hb.2.2.1, hb.2.2.2, hb.1, hb.2.1⟩).mpr w))) p l e s m args below meth c D cy B L0 ρ0 Z H locs lsA ρ C hR hE hS hl (x_okt (x_okt ho)) hv h1 h2
theorem x_clt {x y : Int} {off : Int} {tgt : Nat} {pc : Nat} (hd : decode (x_cc μ) pc = .ok (.if_icmp .lt off, 3)) (ht : (pc : Int) + off = (tgt : Int)) (hb : -2147483648 ≤ x ∧ x < 2147483648 ∧ -2147483648 ≤ y ∧ y < 2147483648) (kt : x < y → X μ d mc ms Q tgt ls st L G k n) (kf : y ≤ x → X μ d mc ms Q (pc + 3) ls st L G k n) : X μ d mc ms Q pc ls (vI y :: vI x :: st) L G k n := by
  intro p l e s m args below meth c D cy B L0 ρ0 Z H locs lsA ρ C hR hE hS hl ho hv h1 h2
  refine lv_icmp_lt C.1 C.2.1 hd ht (fun q => ?_) (fun q => ?_)
  · exact kt ((z_lt hb).mp q) p l e s m args below meth c D cy B L0 ρ0 Z H locs lsA ρ C hR hE hS hl (x_okt (x_okt ho)) hv h1 h2
  · exact kf (Int.not_lt.mp (fun w => q ((z_lt hb).mpr w))) p l e s m args below meth c D cy B L0 ρ0 Z H locs lsA ρ C hR hE hS hl (x_okt (x_okt ho)) hv h1 h2
theorem x_cgt {x y : Int} {off : Int} {tgt : Nat} {pc : Nat} (hd : decode (x_cc μ) pc = .ok (.if_icmp .gt off, 3)) (ht : (pc : Int) + off = (tgt : Int)) (hb : -2147483648 ≤ x ∧ x < 2147483648 ∧ -2147483648 ≤ y ∧ y < 2147483648) (kt : y < x → X μ d mc ms Q tgt ls st L G k n) (kf : x ≤ y → X μ d mc ms Q (pc + 3) ls st L G k n) : X μ d mc ms Q pc ls (vI y :: vI x :: st) L G k n := by
  intro p l e s m args below meth c D cy B L0 ρ0 Z H locs lsA ρ C hR hE hS hl ho hv h1 h2
  refine lv_icmp_gt C.1 C.2.1 hd ht (fun q => ?_) (fun q => ?_)
  · exact kt ((z_lt ⟨hb.2.2.1, hb.2.2.2, hb.1, hb.2.1⟩).mp q) p l e s m args below meth c D cy B L0 ρ0 Z H locs lsA ρ C hR hE hS hl (x_okt (x_okt ho)) hv h1 h2
  · exact kf (Int.not_lt.mp (fun w => q ((z_lt ⟨hb.2.2.1, hb.2.2.2, hb.1, hb.2.1⟩).mpr w))) p l e s m args below meth c D cy B L0 ρ0 Z H locs lsA ρ C hR hE hS hl (x_okt (x_okt ho)) hv h1 h2
theorem x_cle {x y : Int} {off : Int} {tgt : Nat} {pc : Nat} (hd : decode (x_cc μ) pc = .ok (.if_icmp .le off, 3)) (ht : (pc : Int) + off = (tgt : Int)) (hb : -2147483648 ≤ x ∧ x < 2147483648 ∧ -2147483648 ≤ y ∧ y < 2147483648) (kt : x ≤ y → X μ d mc ms Q tgt ls st L G k n) (kf : y < x → X μ d mc ms Q (pc + 3) ls st L G k n) : X μ d mc ms Q pc ls (vI y :: vI x :: st) L G k n := by
  intro p l e s m args below meth c D cy B L0 ρ0 Z H locs lsA ρ C hR hE hS hl ho hv h1 h2
  refine lv_icmp_le C.1 C.2.1 hd ht (fun q => ?_) (fun q => ?_)
  · exact kt ((z_le hb).mp q) p l e s m args below meth c D cy B L0 ρ0 Z H locs lsA ρ C hR hE hS hl (x_okt (x_okt ho)) hv h1 h2
  · exact kf (Int.not_le.mp (fun w => q ((z_le hb).mpr w))) p l e s m args below meth c D cy B L0 ρ0 Z H locs lsA ρ C hR hE hS hl (x_okt (x_okt ho)) hv h1 h2
theorem x_ceq {x y : Int} {off : Int} {tgt : Nat} {pc : Nat} (hd : decode (x_cc μ) pc = .ok (.if_icmp .eq off, 3)) (ht : (pc : Int) + off = (tgt : Int)) (hb : -2147483648 ≤ x ∧ x < 2147483648 ∧ -2147483648 ≤ y ∧ y < 2147483648) (kt : x = y → X μ d mc ms Q tgt ls st L G k n) (kf : x ≠ y → X μ d mc ms Q (pc + 3) ls st L G k n) : X μ d mc ms Q pc ls (vI y :: vI x :: st) L G k n := by
  intro p l e s m args below meth c D cy B L0 ρ0 Z H locs lsA ρ C hR hE hS hl ho hv h1 h2
  refine lv_icmp_eq C.1 C.2.1 hd ht (fun q => ?_) (fun q => ?_)
  · exact kt ((z_eq hb).mp q) p l e s m args below meth c D cy B L0 ρ0 Z H locs lsA ρ C hR hE hS hl (x_okt (x_okt ho)) hv h1 h2
  · exact kf (fun w => q ((z_eq hb).mpr w)) p l e s m args below meth c D cy B L0 ρ0 Z H locs lsA ρ C hR hE hS hl (x_okt (x_okt ho)) hv h1 h2
theorem x_cne {x y : Int} {off : Int} {tgt : Nat} {pc : Nat} (hd : decode (x_cc μ) pc = .ok (.if_icmp .ne off, 3)) (ht : (pc : Int) + off = (tgt : Int)) (hb : -2147483648 ≤ x ∧ x < 2147483648 ∧ -2147483648 ≤ y ∧ y < 2147483648) (kt : x ≠ y → X μ d mc ms Q tgt ls st L G k n) (kf : x = y → X μ d mc ms Q (pc + 3) ls st L G k n) : X μ d mc ms Q pc ls (vI y :: vI x :: st) L G k n := by
  intro p l e s m args below meth c D cy B L0 ρ0 Z H locs lsA ρ C hR hE hS hl ho hv h1 h2
  refine lv_icmp_ne C.1 C.2.1 hd ht (fun q => ?_) (fun q => ?_)
  · exact kt (fun w => q ((z_eq hb).mpr w)) p l e s m args below meth c D cy B L0 ρ0 Z H locs lsA ρ C hR hE hS hl (x_okt (x_okt ho)) hv h1 h2
  · exact kf ((z_eq hb).mp q) p l e s m args below meth c D cy B L0 ρ0 Z H locs lsA ρ C hR hE hS hl (x_okt (x_okt ho)) hv h1 h2
theorem x_ige {x : Int} {off : Int} {tgt : Nat} {pc : Nat} (hd : decode (x_cc μ) pc = .ok (.ifCond .ge off, 3)) (ht : (pc : Int) + off = (tgt : Int)) (hb : -2147483648 ≤ x ∧ x < 2147483648) (kt : 0 ≤ x → X μ d mc ms Q tgt ls st L G k n) (kf : x < 0 → X μ d mc ms Q (pc + 3) ls st L G k n) : X μ d mc ms Q pc ls (vI x :: st) L G k n := by
  intro p l e s m args below meth c D cy B L0 ρ0 Z H locs lsA ρ C hR hE hS hl ho hv h1 h2
  refine lv_if_ge C.1 C.2.1 hd ht (fun q => ?_) (fun q => ?_)
  · exact kt ((z_le (x := 0) ⟨by decide, by decide, hb.1, hb.2⟩).mp q) p l e s m args below meth c D cy B L0 ρ0 Z H locs lsA ρ C hR hE hS hl (x_okt ho) hv h1 h2
  · exact kf (Int.not_le.mp (fun w => q ((z_le (x := 0) ⟨by decide, by decide, hb.1, hb.2⟩).mpr w))) p l e s m args below meth c D cy B L0 ρ0 Z H locs lsA ρ C hR hE hS hl (x_okt ho) hv h1 h2
theorem x_ilt {x : Int} {off : Int} {tgt : Nat} {pc : Nat} (hd : decode (x_cc μ) pc = .ok (.ifCond .lt off, 3)) (ht : (pc : Int) + off = (tgt : Int)) (hb : -2147483648 ≤ x ∧ x < 2147483648) (kt : x < 0 → X μ d mc ms Q tgt ls st L G k n) (kf : 0 ≤ x → X μ d mc ms Q (pc + 3) ls st L G k n) : X μ d mc ms Q pc ls (vI x :: st) L G k n := by
  intro p l e s m args below meth c D cy B L0 ρ0 Z H locs lsA ρ C hR hE hS hl ho hv h1 h2
  refine lv_if_lt C.1 C.2.1 hd ht (fun q => ?_) (fun q => ?_)
  · exact kt ((z_lt (y := 0) ⟨hb.1, hb.2, by decide, by decide⟩).mp q) p l e s m args below meth c D cy B L0 ρ0 Z H locs lsA ρ C hR hE hS hl (x_okt ho) hv h1 h2
  · exact kf (Int.not_lt.mp (fun w => q ((z_lt (y := 0) ⟨hb.1, hb.2, by decide, by decide⟩).mpr w))) p l e s m args below meth c D cy B L0 ρ0 Z H locs lsA ρ C hR hE hS hl (x_okt ho) hv h1 h2
theorem x_igt {x : Int} {off : Int} {tgt : Nat} {pc : Nat} (hd : decode (x_cc μ) pc = .ok (.ifCond .gt off, 3)) (ht : (pc : Int) + off = (tgt : Int)) (hb : -2147483648 ≤ x ∧ x < 2147483648) (kt : 0 < x → X μ d mc ms Q tgt ls st L G k n) (kf : x ≤ 0 → X μ d mc ms Q (pc + 3) ls st L G k n) : X μ d mc ms Q pc ls (vI x :: st) L G k n := by
  intro p l e s m args below meth c D cy B L0 ρ0 Z H locs lsA ρ C hR hE hS hl ho hv h1 h2
  refine lv_if_gt C.1 C.2.1 hd ht (fun q => ?_) (fun q => ?_)
  · exact kt ((z_lt (x := 0) ⟨by decide, by decide, hb.1, hb.2⟩).mp q) p l e s m args below meth c D cy B L0 ρ0 Z H locs lsA ρ C hR hE hS hl (x_okt ho) hv h1 h2
  · exact kf (Int.not_lt.mp (fun w => q ((z_lt (x := 0) ⟨by decide, by decide, hb.1, hb.2⟩).mpr w))) p l e s m args below meth c D cy B L0 ρ0 Z H locs lsA ρ C hR hE hS hl (x_okt ho) hv h1 h2
theorem x_ile {x : Int} {off : Int} {tgt : Nat} {pc : Nat} (hd : decode (x_cc μ) pc = .ok (.ifCond .le off, 3)) (ht : (pc : Int) + off = (tgt : Int)) (hb : -2147483648 ≤ x ∧ x < 2147483648) (kt : x ≤ 0 → X μ d mc ms Q tgt ls st L G k n) (kf : 0 < x → X μ d mc ms Q (pc + 3) ls st L G k n) : X μ d mc ms Q pc ls (vI x :: st) L G k n := by
  intro p l e s m args below meth c D cy B L0 ρ0 Z H locs lsA ρ C hR hE hS hl ho hv h1 h2
  refine lv_if_le C.1 C.2.1 hd ht (fun q => ?_) (fun q => ?_)
  · exact kt ((z_le (y := 0) ⟨hb.1, hb.2, by decide, by decide⟩).mp q) p l e s m args below meth c D cy B L0 ρ0 Z H locs lsA ρ C hR hE hS hl (x_okt ho) hv h1 h2
  · exact kf (Int.not_le.mp (fun w => q ((z_le (y := 0) ⟨hb.1, hb.2, by decide, by decide⟩).mpr w))) p l e s m args below meth c D cy B L0 ρ0 Z H locs lsA ρ C hR hE hS hl (x_okt ho) hv h1 h2
theorem x_ieq {x : Int} {off : Int} {tgt : Nat} {pc : Nat} (hd : decode (x_cc μ) pc = .ok (.ifCond .eq off, 3)) (ht : (pc : Int) + off = (tgt : Int)) (hb : -2147483648 ≤ x ∧ x < 2147483648) (kt : x = 0 → X μ d mc ms Q tgt ls st L G k n) (kf : x ≠ 0 → X μ d mc ms Q (pc + 3) ls st L G k n) : X μ d mc ms Q pc ls (vI x :: st) L G k n := by
  intro p l e s m args below meth c D cy B L0 ρ0 Z H locs lsA ρ C hR hE hS hl ho hv h1 h2
  refine lv_if_eq C.1 C.2.1 hd ht (fun q => ?_) (fun q => ?_)
  · exact kt ((z_eq (y := 0) ⟨hb.1, hb.2, by decide, by decide⟩).mp q) p l e s m args below meth c D cy B L0 ρ0 Z H locs lsA ρ C hR hE hS hl (x_okt ho) hv h1 h2
  · exact kf (fun w => q ((z_eq (y := 0) ⟨hb.1, hb.2, by decide, by decide⟩).mpr w)) p l e s m args below meth c D cy B L0 ρ0 Z H locs lsA ρ C hR hE hS hl (x_okt ho) hv h1 h2
theorem x_ine {x : Int} {off : Int} {tgt : Nat} {pc : Nat} (hd : decode (x_cc μ) pc = .ok (.ifCond .ne off, 3)) (ht : (pc : Int) + off = (tgt : Int)) (hb : -2147483648 ≤ x ∧ x < 2147483648) (kt : x ≠ 0 → X μ d mc ms Q tgt ls st L G k n) (kf : x = 0 → X μ d mc ms Q (pc + 3) ls st L G k n) : X μ d mc ms Q pc ls (vI x :: st) L G k n := by
  intro p l e s m args below meth c D cy B L0 ρ0 Z H locs lsA ρ C hR hE hS hl ho hv h1 h2
  refine lv_if_ne C.1 C.2.1 hd ht (fun q => ?_) (fun q => ?_)
  · exact kt (fun w => q ((z_eq (y := 0) ⟨hb.1, hb.2, by decide, by decide⟩).mpr w)) p l e s m args below meth c D cy B L0 ρ0 Z H locs lsA ρ C hR hE hS hl (x_okt ho) hv h1 h2
  · exact kf ((z_eq (y := 0) ⟨hb.1, hb.2, by decide, by decide⟩).mp q) p l e s m args below meth c D cy B L0 ρ0 Z H locs lsA ρ C hR hE hS hl (x_okt ho) hv h1 h2
theorem x_goto {off : Int} {tgt : Nat} {pc : Nat} (hd : decode (x_cc μ) pc = .ok (.goto off, 3)) (ht : (pc : Int) + off = (tgt : Int)) (kk : X μ d mc ms Q tgt ls st L G k n) : X μ d mc ms Q pc ls st L G k n := by
  intro p l e s m args below meth c D cy B L0 ρ0 Z H locs lsA ρ C hR hE hS hl ho hv h1 h2
  exact lv_goto C.1 C.2.1 hd ht (kk p l e s m args below meth c D cy B L0 ρ0 Z H locs lsA ρ C hR hE hS hl ho hv h1 h2)
theorem x_nonnull {q : Nat} {off : Int} {tgt : Nat} {pc : Nat} (hd : decode (x_cc μ) pc = .ok (.ifnonnull off, 3)) (ht : (pc : Int) + off = (tgt : Int)) (kk : X μ d mc ms Q tgt ls st L G k n) : X μ d mc ms Q pc ls (vR q :: st) L G k n := by
  intro p l e s m args below meth c D cy B L0 ρ0 Z H locs lsA ρ C hR hE hS hl ho hv h1 h2
  refine x_eqW (s2 := .ref (ρ q) :: st.map (x_rv ρ)) (by rw [List.map_cons, x_rvR]) ?_
  exact lv_ifnonnull C.1 C.2.1 hd ht (kk p l e s m args below meth c D cy B L0 ρ0 Z H locs lsA ρ C hR hE hS hl (x_okt ho) hv h1 h2)
theorem x_nonnullN {off : Int} {pc : Nat} (hd : decode (x_cc μ) pc = .ok (.ifnonnull off, 3)) (kk : X μ d mc ms Q (pc + 3) ls st L G k n) : X μ d mc ms Q pc ls (vN :: st) L G k n := by
  intro p l e s m args below meth c D cy B L0 ρ0 Z H locs lsA ρ C hR hE hS hl ho hv h1 h2
  exact lv_ifnonnullN C.1 C.2.1 hd (kk p l e s m args below meth c D cy B L0 ρ0 Z H locs lsA ρ C hR hE hS hl (x_okt ho) hv h1 h2)
theorem x_lcmp {x y : Int} {pc : Nat} (hd : decode (x_cc μ) pc = .ok (.lcmp, 1)) (hb : -9223372036854775808 ≤ x ∧ x < 9223372036854775808 ∧ -9223372036854775808 ≤ y ∧ y < 9223372036854775808) (kk : X μ d mc ms Q (pc + 1) ls (vI (if y < x then 1 else if x = y then 0 else -1) :: st) L G k n) : X μ d mc ms Q pc ls (vL y :: vL x :: st) L G k n := by
  intro p l e s m args below meth c D cy B L0 ρ0 Z H locs lsA ρ C hR hE hS hl ho hv h1 h2
  refine W.lcmp C.1 C.2.1 hd ?_
  refine x_eqW (s2 := (vI (if y < x then 1 else if x = y then 0 else -1) :: st).map (x_rv ρ)) ?_ (kk p l e s m args below meth c D cy B L0 ρ0 Z H locs lsA ρ C hR hE hS hl (x_okA x_okI (x_okt ho)) hv h1 h2)
  rw [List.map_cons, x_rvI]
  refine congrArg (fun z => Value.int z :: st.map (x_rv ρ)) ?_
  unfold lg_cmp
  have e1 := z_lt64 (x := y) (y := x) ⟨hb.2.2.1, hb.2.2.2, hb.1, hb.2.1⟩
  have e2 := z_eq64 hb
  by_cases c1 : y < x
  · rw [if_pos c1, if_pos (e1.mpr c1)]; rfl
  · rw [if_neg c1, if_neg (fun w => c1 (e1.mp w))]
    by_cases c2 : x = y
    · rw [if_pos c2, if_pos (e2.mpr c2)]; rfl
    · rw [if_neg c2, if_neg (fun w => c2 (e2.mp w))]; rfl
theorem x_tabIn {dflt lo hi : Int} {offs : Array Int} {len : Nat} {x off : Int} {tgt : Nat} {pc : Nat} (hd : decode (x_cc μ) pc = .ok (.tableswitch dflt lo hi offs, len)) (hb : -2147483648 ≤ x ∧ x < 2147483648 ∧ lo ≤ x ∧ x ≤ hi) (hx : offs[(x - lo).toNat]? = some off) (ht : (pc : Int) + off = (tgt : Int)) (kk : X μ d mc ms Q tgt ls st L G k n) : X μ d mc ms Q pc ls (vI x :: st) L G k n := by
  intro p l e0 s m args below meth c D cy B L0 ρ0 Z H locs lsA ρ C hR hE hS hl ho hv h1 h2
  have e := z_in32 hb.1 hb.2.1
  exact lv_tableIn C.1 C.2.1 hd (by rw [e]; omega) (by rw [e]; omega) (by rw [e]; exact hx) ht (kk p l e0 s m args below meth c D cy B L0 ρ0 Z H locs lsA ρ C hR hE hS hl (x_okt ho) hv h1 h2)
theorem x_tabOut {dflt lo hi : Int} {offs : Array Int} {len : Nat} {x : Int} {tgt : Nat} {pc : Nat} (hd : decode (x_cc μ) pc = .ok (.tableswitch dflt lo hi offs, len)) (hb : -2147483648 ≤ x ∧ x < 2147483648) (hx : x < lo ∨ hi < x) (ht : (pc : Int) + dflt = (tgt : Int)) (kk : X μ d mc ms Q tgt ls st L G k n) : X μ d mc ms Q pc ls (vI x :: st) L G k n := by
  intro p l e0 s m args below meth c D cy B L0 ρ0 Z H locs lsA ρ C hR hE hS hl ho hv h1 h2
  have e := z_in32 hb.1 hb.2
  exact lv_tableOut C.1 C.2.1 hd (by rw [e]; exact hx) ht (kk p l e0 s m args below meth c D cy B L0 ρ0 Z H locs lsA ρ C hR hE hS hl (x_okt ho) hv h1 h2)
end XR2
