/-! rows of constructors: what was made and written is told by two lists -/
theorem x_mk_map {r : Nat} {nw : List Nat} {f : Nat → Int} {G : Nat → Nat → Int} {i j : Nat} : ∀ {l : List Nat}, x_mk nw (l.map fun t => (r, t, f t)) G i j = if i = r ∧ j ∈ l then f j else x_mk nw [] G i j
  | [] => by rw [List.map_nil, if_neg (fun w => List.not_mem_nil w.2)]
  | t :: l => by
    have e : x_mk nw ((r, t, f t) :: l.map fun t => (r, t, f t)) G i j = if i = r ∧ j = t then f t else x_mk nw (l.map fun t => (r, t, f t)) G i j := by rw [x_mk]
    rw [List.map_cons, e, x_mk_map]
    by_cases c : i = r ∧ j = t
    · rw [if_pos c, if_pos ⟨c.1, c.2 ▸ List.mem_cons_self⟩, c.2]
    · rw [if_neg c]
      by_cases c2 : i = r ∧ j ∈ l
      · rw [if_pos c2, if_pos ⟨c2.1, List.mem_cons_of_mem _ c2.2⟩]
      · rw [if_neg c2, if_neg (fun w => by
          rcases List.mem_cons.mp w.2 with e | e
          · exact c ⟨w.1, e⟩
          · exact c2 ⟨w.1, e⟩)]
theorem x_mk_multi {r N M : Nat} {G : Nat → Nat → Int} (hk : xK r = (18, N)) (hid : ∀ j, j < N → xK (r + 1 + j) = (13, M)) : x_nwH (x_nwR G r N) r (fun j => if j < N then ((r + 1 + j : Nat) : Int) else -1) = x_mk (((List.range N).map fun j => r + 1 + j) ++ [r]) ((List.range N).map fun j => (r, j, ((r + 1 + j : Nat) : Int))) G := by
  funext i j
  rw [x_mk_map, x_nwH]
  by_cases c : i = r
  · rw [if_pos c]
    by_cases c2 : j < N
    · rw [if_pos c2, if_pos ⟨c, List.mem_range.mpr c2⟩]
    · rw [if_neg c2, if_neg (fun w => c2 (List.mem_range.mp w.2)), x_mk, if_pos (List.mem_append_right _ (List.mem_singleton.mpr c)), c, hk]
      rfl
  · rw [if_neg c, if_neg (fun w => c w.1), x_mk, x_nwR]
    by_cases c2 : r < i ∧ i ≤ r + N
    · have e : i = r + 1 + (i - r - 1) := by omega
      rw [if_pos c2, if_pos (List.mem_append_left _ (List.mem_map.mpr ⟨i - r - 1, List.mem_range.mpr (by omega), e.symm⟩)), e, hid _ (by omega)]
      rfl
    · rw [if_neg c2, if_neg (fun w => by
        rcases List.mem_append.mp w with w | w
        · obtain ⟨t, ht, e⟩ := List.mem_map.mp w
          have := List.mem_range.mp ht
          omega
        · exact c (List.mem_singleton.mp w))]
section XMK
variable {μ : x_M} {d mc ms : Nat} {Q : x_Q} {ls : List (Option (Nat × Int))} {st : List (Nat × Int)} {L nw : List Nat} {us : List (Nat × Nat × Int)} {G : Nat → Nat → Int} {k n pc : Nat}
theorem y_start (kk : X μ d mc ms Q pc ls st (L ++ []) (x_mk [] [] G) k n) : X μ d mc ms Q pc ls st L G k n := by
  rw [x_mk0, List.append_nil] at kk
  exact kk
theorem y_ret (hd : decode (x_cc μ) pc = .ok (.return_, 1)) (hr : x_ret μ = none) : X μ d mc ms (qK L nw us G) pc ls [] (L ++ nw) (x_mk nw us G) k n := x_vret hd hr ⟨rfl, rfl, rfl⟩
theorem y_newI {N q : Nat} {x : Int} (hd : decode (x_cc μ) pc = .ok (.newarray .int, 2)) (hx : x = N) (hN : N ≤ 36000) (hq : q ∉ L) (h0 : q ≠ 0) (hn : q ∉ nw) (hf : x_fr q us = true) (hk : xK q = (13, N)) (hcap : k + 1 ≤ mc ∧ n + N ≤ ms) (kk : X μ d mc ms Q (pc + 2) ls (vR q :: st) (L ++ (nw ++ [q])) (x_mk (nw ++ [q]) us G) (k + 1) (n + N)) : X μ d mc ms Q pc ls (vI x :: st) (L ++ nw) (x_mk nw us G) k n := by
  rw [← x_mk_nw hf, ← List.append_assoc] at kk
  exact x_newI hd hx hN ⟨x_nin hq hn, h0⟩ hk la_I hcap kk
theorem y_newJ {N q : Nat} {x : Int} (hd : decode (x_cc μ) pc = .ok (.newarray .long, 2)) (hx : x = N) (hN : N ≤ 36000) (hq : q ∉ L) (h0 : q ≠ 0) (hn : q ∉ nw) (hf : x_fr q us = true) (hk : xK q = (14, N)) (hcap : k + 1 ≤ mc ∧ n + N ≤ ms) (kk : X μ d mc ms Q (pc + 2) ls (vR q :: st) (L ++ (nw ++ [q])) (x_mk (nw ++ [q]) us G) (k + 1) (n + N)) : X μ d mc ms Q pc ls (vI x :: st) (L ++ nw) (x_mk nw us G) k n := by
  rw [← x_mk_nw hf, ← List.append_assoc] at kk
  exact x_newJ hd hx hN ⟨x_nin hq hn, h0⟩ hk la_J hcap kk
theorem y_newZ {N q : Nat} {x : Int} (hd : decode (x_cc μ) pc = .ok (.newarray .boolean, 2)) (hx : x = N) (hN : N ≤ 36000) (hq : q ∉ L) (h0 : q ≠ 0) (hn : q ∉ nw) (hf : x_fr q us = true) (hk : xK q = (15, N)) (hcap : k + 1 ≤ mc ∧ n + N ≤ ms) (kk : X μ d mc ms Q (pc + 2) ls (vR q :: st) (L ++ (nw ++ [q])) (x_mk (nw ++ [q]) us G) (k + 1) (n + N)) : X μ d mc ms Q pc ls (vI x :: st) (L ++ nw) (x_mk nw us G) k n := by
  rw [← x_mk_nw hf, ← List.append_assoc] at kk
  exact x_newZ hd hx hN ⟨x_nin hq hn, h0⟩ hk la_Z hcap kk
theorem y_newQ {N q t t0 idx : Nat} {C : String} {x : Int} (hd : decode (x_cc μ) pc = .ok (.anewarray idx, 3)) (hln : Cond.classLink (x_own μ) idx C ∈ x_tb) (hov : Cond.arrayOver (.object C) ∈ lw_tbl) (ht : 16 ≤ t ∧ ∀ cy : Nat → ClassId, (x_tys cy)[t0]? = some (cy t, .object C)) (hx : x = N) (hN : N ≤ 36000) (hq : q ∉ L) (h0 : q ≠ 0) (hn : q ∉ nw) (hf : x_fr q us = true) (hk : xK q = (t, N)) (hcap : k + 1 ≤ mc ∧ n + N ≤ ms) (kk : X μ d mc ms Q (pc + 3) ls (vR q :: st) (L ++ (nw ++ [q])) (x_mk (nw ++ [q]) us G) (k + 1) (n + N)) : X μ d mc ms Q pc ls (vI x :: st) (L ++ nw) (x_mk nw us G) k n := by
  rw [← x_mk_nw hf, ← List.append_assoc] at kk
  exact x_newQ (t0 := t0) hd hln hov ht hx hN ⟨x_nin hq hn, h0⟩ hk hcap kk
theorem y_newO {q ci idx N : Nat} {C : String} {T : u_T} {ty : Nat → FieldType} (hd : decode (x_cc μ) pc = .ok (.new idx, 3)) (hc : vwCl[ci]? = some (C, T, N)) (hin : ∀ w ∈ u_ws C T N, w ∈ x_tb) (hty : ∀ k, k < N → parseFieldDescriptor (T k).2.2.1 = some (ty k)) (hln : Cond.classLink (x_own μ) idx C ∈ x_tb) (hins : Cond.instantiable C N ∈ x_tb) (hini : Cond.initialized C ∈ x_tb) (hci : ci ≤ 12) (hft : ∀ j, j < N → ∃ t, (xFT ci)[j]? = some t ∧ x_tyOK t (ty j)) (hq : q ∉ L) (h0 : q ≠ 0) (hn : q ∉ nw) (hf : x_fr q us = true) (hk : xK q = (ci, 0)) (hcap : k + 1 ≤ mc ∧ n + N ≤ ms) (kk : X μ d mc ms Q (pc + 3) ls (vR q :: st) (L ++ (nw ++ [q])) (x_mk (nw ++ [q]) us G) (k + 1) (n + N)) : X μ d mc ms Q pc ls st (L ++ nw) (x_mk nw us G) k n := by
  rw [← x_mk_nw hf, ← List.append_assoc] at kk
  exact x_newO hd hc hin hty hln hins hini hci hft ⟨x_nin hq hn, h0⟩ hk hcap kk
theorem y_newM {r N M idx : Nat} {a b : Int} (hd : decode (x_cc μ) pc = .ok (.multianewarray idx 2, 4)) (hln : Cond.classLink (x_own μ) idx "[[I" ∈ x_tb) (ha : a = (N : Int)) (hb : b = (M : Int)) (hN : N ≤ 1000) (hM : M ≤ 36000) (hid : ∀ j, j < N → r + 1 + j ∉ L ∧ r + 1 + j ∉ nw ∧ xK (r + 1 + j) = (13, M)) (hq : r ∉ L) (h0 : r ≠ 0) (hn : r ∉ nw) (hf : ∀ q ∈ ((List.range N).map fun j => r + 1 + j) ++ [r], x_fr q us = true) (hk : xK r = (18, N)) (hcap : k + (1 + N) ≤ mc ∧ n + (N + N * M) ≤ ms)
    (kk : X μ d mc ms Q (pc + 4) ls (vR r :: st) (L ++ (nw ++ (((List.range N).map fun j => r + 1 + j) ++ [r]))) (x_mk (nw ++ (((List.range N).map fun j => r + 1 + j) ++ [r])) (((List.range N).map fun j => (r, j, ((r + 1 + j : Nat) : Int))) ++ us) G) (k + 1 + N) (n + N + N * M)) : X μ d mc ms Q pc ls (vI b :: vI a :: st) (L ++ nw) (x_mk nw us G) k n := by
  rw [← x_mk_mk hf, ← List.append_assoc] at kk
  refine x_newM hd hln ha hb hN hM (fun j hj => ⟨x_nin (hid j hj).1 (hid j hj).2.1, (hid j hj).2.2⟩) ⟨x_nin hq hn, h0⟩ hk hcap ?_
  rw [x_mk_multi hk (fun j hj => (hid j hj).2.2), List.append_assoc]
  exact kk
theorem y_putFR {idx ci kf n0 r q : Nat} (hd : decode (x_cc μ) pc = .ok (.putfield idx, 3)) (hf : x_fp (x_own μ) idx ci kf 2 true) (hk : xK r = (ci, n0)) (hr : r ∈ L ∨ r ∈ nw) (hini : x_ini μ = true) (kk : X μ d mc ms Q (pc + 3) ls st (L ++ nw) (x_mk nw ((r, kf, ((q : Nat) : Int)) :: us) G) k n) : X μ d mc ms Q pc ls (vR q :: vR r :: st) (L ++ nw) (x_mk nw us G) k n := by
  refine x_putFR hd hf hk (List.mem_append.mpr hr) hini ?_
  rw [x_mk_up]
  exact kk
theorem y_putR {idx ci kf n0 r q : Nat} (hd : decode (x_cc μ) pc = .ok (.putfield idx, 3)) (hf : x_fp (x_own μ) idx ci kf 2 false) (hk : xK r = (ci, n0)) (hr : r ∈ L ∨ r ∈ nw) (kk : X μ d mc ms Q (pc + 3) ls st (L ++ nw) (x_mk nw ((r, kf, ((q : Nat) : Int)) :: us) G) k n) : X μ d mc ms Q pc ls (vR q :: vR r :: st) (L ++ nw) (x_mk nw us G) k n := by
  refine x_putR hd hf hk (List.mem_append.mpr hr) ?_
  rw [x_mk_up]
  exact kk
theorem y_putN {idx ci kf n0 r : Nat} (hd : decode (x_cc μ) pc = .ok (.putfield idx, 3)) (hf : x_fp (x_own μ) idx ci kf 2 false) (hk : xK r = (ci, n0)) (hr : r ∈ L ∨ r ∈ nw) (kk : X μ d mc ms Q (pc + 3) ls st (L ++ nw) (x_mk nw ((r, kf, -1) :: us) G) k n) : X μ d mc ms Q pc ls (vN :: vR r :: st) (L ++ nw) (x_mk nw us G) k n := by
  refine x_putN hd hf hk (List.mem_append.mpr hr) ?_
  rw [x_mk_up]
  exact kk
theorem y_putI {idx ci kf n0 r : Nat} {x : Int} (hd : decode (x_cc μ) pc = .ok (.putfield idx, 3)) (hf : x_fp (x_own μ) idx ci kf 0 false) (hk : xK r = (ci, n0)) (hr : r ∈ L ∨ r ∈ nw) (kk : X μ d mc ms Q (pc + 3) ls st (L ++ nw) (x_mk nw ((r, kf, x) :: us) G) k n) : X μ d mc ms Q pc ls (vI x :: vR r :: st) (L ++ nw) (x_mk nw us G) k n := by
  refine x_putI hd hf hk (List.mem_append.mpr hr) ?_
  rw [x_mk_up]
  exact kk
theorem y_putL {idx ci kf n0 r : Nat} {x : Int} (hd : decode (x_cc μ) pc = .ok (.putfield idx, 3)) (hf : x_fp (x_own μ) idx ci kf 1 false) (hk : xK r = (ci, n0)) (hr : r ∈ L ∨ r ∈ nw) (kk : X μ d mc ms Q (pc + 3) ls st (L ++ nw) (x_mk nw ((r, kf, x) :: us) G) k n) : X μ d mc ms Q pc ls (vL x :: vR r :: st) (L ++ nw) (x_mk nw us G) k n := by
  refine x_putL hd hf hk (List.mem_append.mpr hr) ?_
  rw [x_mk_up]
  exact kk
theorem y_putZ {idx ci kf n0 r : Nat} {x : Int} (hd : decode (x_cc μ) pc = .ok (.putfield idx, 3)) (hf : x_fp (x_own μ) idx ci kf 3 false) (hk : xK r = (ci, n0)) (hr : r ∈ L ∨ r ∈ nw) (hx : x = 0 ∨ x = 1) (kk : X μ d mc ms Q (pc + 3) ls st (L ++ nw) (x_mk nw ((r, kf, x) :: us) G) k n) : X μ d mc ms Q pc ls (vI x :: vR r :: st) (L ++ nw) (x_mk nw us G) k n := by
  refine x_putZ hd hf hk (List.mem_append.mpr hr) hx ?_
  rw [x_mk_up]
  exact kk
theorem y_iast {N r : Nat} (j : Nat) {a : Int} {x : Int} (hd : decode (x_cc μ) pc = .ok (.iastore, 1)) (hk : xK r = (13, N)) (hr : r ∈ L ∨ r ∈ nw) (hj : a = (j : Int) ∧ j < N ∧ N < 2147483648) (kk : X μ d mc ms Q (pc + 1) ls st (L ++ nw) (x_mk nw ((r, j, x) :: us) G) k n) : X μ d mc ms Q pc ls (vI x :: vI a :: vR r :: st) (L ++ nw) (x_mk nw us G) k n := by
  refine x_iast j hd hk (List.mem_append.mpr hr) hj ?_
  rw [x_mk_up]
  exact kk
theorem y_astQ {N n0 r v t t0 ci : Nat} {C : vw_C} (j : Nat) {a : Int} (hd : decode (x_cc μ) pc = .ok (.aastore, 1)) (hk : xK r = (t, N)) (hr : r ∈ L ∨ r ∈ nw) (hkv : xK v = (ci, n0)) (hvL : v ∈ L ∨ v ∈ nw) (ht : 16 ≤ t ∧ ∀ cy : Nat → ClassId, (x_tys cy)[t0]? = some (cy t, .object C.1)) (hc : ci ≤ 12 ∧ vwCl[ci]? = some C) (hj : a = (j : Int) ∧ j < N ∧ N < 2147483648) (kk : X μ d mc ms Q (pc + 1) ls st (L ++ nw) (x_mk nw ((r, j, ((v : Nat) : Int)) :: us) G) k n) : X μ d mc ms Q pc ls (vR v :: vI a :: vR r :: st) (L ++ nw) (x_mk nw us G) k n := by
  refine x_astQ (t0 := t0) j hd hk (List.mem_append.mpr hr) hkv (List.mem_append.mpr hvL) ht hc hj ?_
  rw [x_mk_up]
  exact kk
theorem y_getR {idx ci kf n0 r : Nat} (q : Nat) (hd : decode (x_cc μ) pc = .ok (.getfield idx, 3)) (hf : x_fl (x_own μ) idx ci kf 2) (hk : xK r = (ci, n0)) (hr : r ∈ L ∨ r ∈ nw) (he : x_mkv nw us r kf = some ((q : Nat) : Int)) (kk : X μ d mc ms Q (pc + 3) ls (vR q :: st) (L ++ nw) (x_mk nw us G) k n) : X μ d mc ms Q pc ls (vR r :: st) (L ++ nw) (x_mk nw us G) k n :=
  x_getR q hd hf hk (List.mem_append.mpr hr) (x_mk_v he) kk
theorem y_alen {t N r : Nat} (hd : decode (x_cc μ) pc = .ok (.arraylength, 1)) (hk : xK r = (t, N)) (ht : 13 ≤ t ∧ t ≤ 18) (hr : r ∈ L ∨ r ∈ nw) (kk : X μ d mc ms Q (pc + 1) ls (vI (N : Int) :: st) (L ++ nw) (x_mk nw us G) k n) : X μ d mc ms Q pc ls (vR r :: st) (L ++ nw) (x_mk nw us G) k n := x_alen hd hk ht (List.mem_append.mpr hr) kk
variable {y : MethodName} {cc' : ByteArray} {nL' d' mc' ms' idx : Nat} {ret' : Option FieldType}
theorem y_behind {Q : x_Q} {nw2 : List Nat} {us2 : List (Nat × Nat × Int)} {pc1 k1 n1 : Nat} (hf : ∀ q ∈ nw2, x_fr q us = true) (kk : X μ d mc ms Q pc1 ls st (L ++ (nw ++ nw2)) (x_mk (nw ++ nw2) (us2 ++ us) G) k1 n1) : ∀ (v : Option (Nat × Int)) (L' : List Nat) (G' : Nat → Nat → Int), qK (L ++ nw) nw2 us2 (x_mk nw us G) v L' G' → (∀ i ∈ L ++ nw, i ∈ L') → X μ d mc ms Q pc1 ls (v.toList ++ st) L' G' k1 n1 := by
  rintro v L' G' ⟨rfl, rfl, rfl⟩ _
  rw [x_mk_mk hf, List.append_assoc]
  exact kk
theorem y_callIN {host : String} {r : Nat} {nw2 : List Nat} {us2 : List (Nat × Nat × Int)} (hd : decode (x_cc μ) pc = .ok (.invokespecial idx, 3)) (hlk : x_lkIN (x_own μ) host idx y cc' nL' 0) (hct : Ct y cc' nL' none d' mc' ms' [vR r] (L ++ nw) (x_mk nw us G) (qK (L ++ nw) nw2 us2 (x_mk nw us G))) (hr : r ∈ L ∨ r ∈ nw) (hdd : d' + 1 ≤ d ∧ nL' ≤ 18) (hcap : k + mc' ≤ mc ∧ n + ms' ≤ ms) (hw : x_cats st ≤ 8) (hf : ∀ q ∈ nw2, x_fr q us = true) (kk : X μ d mc ms Q (pc + 3) ls st (L ++ (nw ++ nw2)) (x_mk (nw ++ nw2) (us2 ++ us) G) (k + mc') (n + ms')) : X μ d mc ms Q pc ls (vR r :: st) (L ++ nw) (x_mk nw us G) k n :=
  x_callIN (as := []) hd hlk hct (List.mem_append.mpr hr) hdd hcap hw rfl (y_behind hf kk)
theorem y_callI {r : Nat} {nw2 : List Nat} {us2 : List (Nat × Nat × Int)} (hd : decode (x_cc μ) pc = .ok (.invokespecial idx, 3)) (hlk : x_lkI (x_own μ) idx y cc' nL' 0) (hct : Ct y cc' nL' none d' mc' ms' [vR r] (L ++ nw) (x_mk nw us G) (qK (L ++ nw) nw2 us2 (x_mk nw us G))) (hr : r ∈ L ∨ r ∈ nw) (hdd : d' + 1 ≤ d ∧ nL' ≤ 18) (hcap : k + mc' ≤ mc ∧ n + ms' ≤ ms) (hw : x_cats st ≤ 8) (hf : ∀ q ∈ nw2, x_fr q us = true) (kk : X μ d mc ms Q (pc + 3) ls st (L ++ (nw ++ nw2)) (x_mk (nw ++ nw2) (us2 ++ us) G) (k + mc') (n + ms')) : X μ d mc ms Q pc ls (vR r :: st) (L ++ nw) (x_mk nw us G) k n :=
  x_callI (as := []) hd hlk hct (List.mem_append.mpr hr) hdd hcap hw rfl (y_behind hf kk)
theorem y_callS {as : List (Nat × Int)} {us2 : List (Nat × Nat × Int)} (hd : decode (x_cc μ) pc = .ok (.invokestatic idx, 3)) (hlk : x_lkS (x_own μ) idx y cc' nL' ret' as.length) (hct : Ct y cc' nL' ret' d' mc' ms' as (L ++ nw) (x_mk nw us G) (qK (L ++ nw) [] us2 (x_mk nw us G))) (hdd : d' + 1 ≤ d ∧ nL' ≤ 18) (hcap : k + mc' ≤ mc ∧ n + ms' ≤ ms) (hw : x_cats st ≤ 8) {st0 : List (Nat × Int)} (hst : st0 = as.reverse ++ st) (kk : X μ d mc ms Q (pc + 3) ls st (L ++ (nw ++ [])) (x_mk (nw ++ []) (us2 ++ us) G) (k + mc') (n + ms')) : X μ d mc ms Q pc ls st0 (L ++ nw) (x_mk nw us G) k n :=
  x_callS hd hlk hct hdd hcap hw hst (y_behind (fun _ h => absurd h List.not_mem_nil) kk)
end XMK

